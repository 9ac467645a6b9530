/-! OnePassJudge: judge -/
section TopE
variable {l : Launch} {t : TT} {N : Nat} {ad : Nat → Nat} {w : Nat → va_E} {A : List AR} {I : Nat → Int32} {O : List OD} {Td : Nat → List RW} {jd : Bool} {J : Nat → JR} {fc : Nat} {df : DF}
theorem c_X7_judge (hC : isC t ad w A I O Td jd J fc df) (hN : 132 ≤ N) :
    K l t yX7_judge cX7_judge 4 (some .int) (rD 6) N ad w [.ref (ad 0)]
      (fun res w' => (O.length = 0 → res = some (.int (-3)) ∧ isC t ad w' A I O Td jd J fc df) ∧ (O.length ≠ 0 → 3000 ≤ fc → res = some (.int (-5)) ∧ isC t ad w' A I O Td jd J fc df) ∧ (O.length ≠ 0 → fc < 3000 → res = some (.int (nI (doneN (jN A I O J O.length) O.length))) ∧ isC t ad w' A I O Td true (jN A I O J O.length) (fc + failS (jN A I O J O.length) O.length) none) ∧ ∀ i, 132 ≤ i → w' i = w i) := by
  have zC := hC
  obtain ⟨c0, cA, cT, cOA, cP, cC, cCR, cOps, cw, cd⟩ := hC
  have z12 := cw.2.1
  have z9k := cw.2.2.1
  refine K.of (own := RX7) (lv := [(0, .ref (ad 0))]) (by decide +kernel) rfl (Nat.le_of_ble_eq_true rfl) rfl (fun P post hret => ?_)
  refine G.aload_n 0 rfl rfl dX7_judge_0 ?_
  refine G.get 0 (by omega) c0 rfl twX7 5 (by decide) tb_219 rfl rfl dX7_judge_1 ?_
  refine G.nif_ne 10 dX7_judge_4 rfl (by omega) (fun c4 => ?_) (fun c4 => ?_)
  · skip
    refine G.aload_n 0 rfl rfl dX7_judge_10 ?_
    refine G.get 0 (by omega) c0 rfl twX7 6 (by decide) tb_220 rfl rfl dX7_judge_11 ?_
    refine G.sipush (v := nI 3000) dX7_judge_14 (by decide +kernel) ?_
    refine G.ncmp_lt 23 dX7_judge_17 rfl (by omega) (by omega) (fun c17 => ?_) (fun c17 => ?_)
    · skip
      refine G.iconst (v := nI 0) dX7_judge_23 (by decide +kernel) ?_
      refine G.istore_n [(1, .int (nI 0)), (0, .ref (ad 0))] dX7_judge_24 rfl (by decide) rfl ?_
      refine G.iconst (v := nI 0) dX7_judge_25 (by decide +kernel) ?_
      refine G.istore_n [(2, .int (nI 0)), (1, .int (nI 0)), (0, .ref (ad 0))] dX7_judge_26 rfl (by decide) rfl ?_
      refine G.pick [2, 1, 0] [(0, .ref (ad 0)), (1, .int (nI 0)), (2, .int (nI 0))] rfl ?_
      have loop : ∀ (mm ii : Nat) (zw : Nat → va_E), ii + mm = O.length → zw 0 = .inr (7, jF ad O.length (fc + failS (jN A I O J ii) ii) (bN jd)) → isPass t ad zw → isOpsP t ad zw O Td (fun k => decide (k < ii)) (jN A I O J ii) → (∀ k, k ≠ 0 → (k < 10 ∨ 15 ≤ k) → (k < 24 ∨ 132 ≤ k) → zw k = w k) → G l t (rD 6) P cX7_judge 4 RX7 (some .int) post 0 0 N ad 0 0 27 [(0, .ref (ad 0)), (1, .int (nI (doneN (jN A I O J ii) ii))), (2, .int (nI ii))] [] zw := by
        intro mm
        induction mm with
        | zero =>
          intro ii zw hi e0 eP eO hf
          obtain rfl : O.length = ii := by omega
          have zcm : isCmp t ad zw 15 df := cC.keep (hf 15 (by omega) (by omega) (by omega))
          obtain ⟨d9, pl9, tm9, ky9, k0, -⟩ := id zcm
          have zfl := failS_le cw (I := I) (J := J) (i := O.length) (Nat.le_refl _)
          refine G.iload_n 2 rfl rfl dX7_judge_27 ?_
          refine G.aload_n 0 rfl rfl dX7_judge_28 ?_
          refine G.get 0 (by omega) e0 rfl twX7 5 (by decide) tb_219 rfl rfl dX7_judge_29 ?_
          refine G.ncmp_ge 62 dX7_judge_32 rfl (by omega) (by omega) (fun c32 => ?_) (fun c32 => ?_)
          · skip
            refine G.aload_n 0 rfl rfl dX7_judge_62 ?_
            refine G.iconst (v := nI 1) dX7_judge_63 (by decide +kernel) ?_
            refine G.put 0 (by omega) e0 rfl twX7 7 (by decide) tyX7 tyX7_ok nmX7 tb_221 rfl rfl (tyX7_ok 7 (by decide)) (nb_n (Or.inr rfl)) (nb_f (Or.inr rfl)) (Nat.le_of_ble_eq_true rfl) dX7_judge_64 (fun gw1 gh2 gf3 => ?_)
            refine G.aload_n 0 rfl rfl dX7_judge_67 ?_
            refine G.get 0 (by omega) gh2 rfl twX7 4 (by decide) tb_218 rfl rfl dX7_judge_68 ?_
            have gh4 := (gf3 15 (by omega)).trans k0
            have k1 := gh4
            have e1 := gh2
            have hfr : ∀ i, i ≠ 0 → gw1 i = zw i := fun i hi => gf3 i (by omega)
            refine G.callV (n := 0) 15 (c_X1_forget (k := 15) k1 (by omega)) rfl (by omega) gh4 rfl tb_296 tb_297 tb_298 tb_38 tb_299 (by decide +kernel) rfl ⟨(Nat.le_of_ble_eq_true rfl), (Nat.le_of_ble_eq_true rfl)⟩ ⟨rfl, rfl⟩ (Nat.le_of_ble_eq_true rfl) ⟨Nat.zero_le _, Nat.zero_le _⟩ dX7_judge_71 (fun gr5 zw2 hp => ?_)
            obtain ⟨rfl, k2, hf2⟩ := hp
            refine G.iload_n 1 rfl rfl dX7_judge_74 ?_
            refine G.iret rfl rfl rfl dX7_judge_75 ?_
            have zf : ∀ k, k ≠ 0 → k ≠ 15 → (k < 10 ∨ 15 ≤ k) → (k < 24 ∨ 132 ≤ k) → zw2 k = w k := fun k q1 q2 q3 q4 => (hf2 k q2).trans ((hfr k q1).trans (hf k q1 q3 q4))
            refine hret _ _ ⟨fun h => absurd h (by omega), fun _ h => absurd h (by omega), fun _ _ => ⟨rfl, ⟨(hf2 0 (by omega)).trans e1, cA.keep (fun k q1 q2 => zf k (by omega) (by omega) (by omega) (by omega)), cT.keep (fun k q1 q2 => zf k (by omega) (by omega) (by omega) (by omega)), cOA.keep (zf 9 (by omega) (by omega) (by omega) (by omega)), eP.keep (fun k q1 q2 => (hf2 k (by omega)).trans (hfr k (by omega))), isCmp.none k2, cCR.keep (fun k q1 q2 => zf k (by omega) (by omega) (by omega) (by omega)), fun k hk => ?_, ⟨cw.1, cw.2.1, by omega, cw.2.2.2.1, cw.2.2.2.2⟩, cd⟩⟩, fun k hk => zf k (by omega) (by omega) (by omega) (by omega)⟩
            obtain ⟨kd', p', q', a', b', u', z', x', G', y1, y2⟩ := eO k hk
            refine ⟨kd', p', q', a', b', u', z', x', G', y1.keep (fun j j1 j2 => (hf2 j (by omega)).trans (hfr j (by omega))), fun h => ⟨(y2 h).1, fun _ => (y2 h).2 (by simpa using h)⟩⟩
          · skip
            omega
        | succ mm ih =>
          intro ii zw hi e0 eP eO hf
          have zfl := failS_le cw (I := I) (J := J) (i := ii) (by omega)
          have cA1 : isArr t ad zw 1 A := cA.keep (fun k q1 q2 => hf k (by omega) (by omega) (by omega))
          have cT1 : isTab t ad zw 7 I := cT.keep (fun k q1 q2 => hf k (by omega) (by omega) (by omega))
          have cOA1 : isOA t ad zw := cOA.keep (hf 9 (by omega) (by omega) (by omega))
          have cw1 : okS A O (fc + failS (jN A I O J ii) ii) := ⟨cw.1, cw.2.1, by omega, cw.2.2.2.1, cw.2.2.2.2⟩
          have zdn : doneN (jN A I O J ii) ii ≤ ii := by
            have := List.countP_le_length (p := fun k => !(jN A I O J ii k).1) (l := List.range ii)
            rw [List.length_range] at this
            exact this
          obtain ⟨kd', p', q', a', b', u', z', x', G', ⟨y1, y2, y3⟩, y4⟩ := eO ii (by omega)
          refine G.iload_n 2 rfl rfl dX7_judge_27 ?_
          refine G.aload_n 0 rfl rfl dX7_judge_28 ?_
          refine G.get 0 (by omega) e0 rfl twX7 5 (by decide) tb_219 rfl rfl dX7_judge_29 ?_
          refine G.ncmp_ge 62 dX7_judge_32 rfl (by omega) (by omega) (fun c32 => ?_) (fun c32 => ?_)
          · skip
            omega
          · skip
            refine G.aload_n 0 rfl rfl dX7_judge_35 ?_
            refine G.iload_n 2 rfl rfl dX7_judge_36 ?_
            refine G.callV (n := 1) 0 (c_X7_operatorAt e0 cOA1 (by omega) hN (nI ii)) rfl (by omega) e0 rfl tb_308 tb_310 tb_3 tb_33 tb_311 (by decide +kernel) rfl ⟨(Nat.le_of_ble_eq_true rfl), (Nat.le_of_ble_eq_true rfl)⟩ ⟨rfl, rfl⟩ (Nat.le_of_ble_eq_true rfl) ⟨Nat.zero_le _, Nat.zero_le _⟩ dX7_judge_37 (fun gr7 gw6 hp => ?_)
            obtain ⟨rfl, zc⟩ := hp
            rcases zc with ⟨jj, zj, rfl⟩ | ⟨zj, -⟩
            rotate_left
            · rw [ix_n (by omega), if_pos (by omega)] at zj; cases zj
            obtain rfl : ii = jj := by rw [ix_n (by omega), if_pos (by omega)] at zj; cases zj; rfl
            refine G.astore_n [(3, .ref (ad (24 + 9 * ii))), (0, .ref (ad 0)), (1, .int (nI (doneN (jN A I O J ii) ii))), (2, .int (nI ii))] dX7_judge_40 rfl (by decide) rfl ?_
            refine G.aload_n 0 rfl rfl dX7_judge_41 ?_
            refine G.ifnull dX7_judge_42 ?_
            refine G.aload_n 1 rfl rfl dX7_judge_45 ?_
            refine G.aload_n 0 rfl rfl dX7_judge_46 ?_
            refine G.callV (n := 1) 0 (c_X7_judgeOne e0 cA1 cT1 cOA1 eP eO (by omega) cw1 (fun k hk => jOK_N cw ii (by omega) k hk) hN) rfl (by omega) e0 rfl tb_344 tb_346 tb_4 tb_33 tb_347 (by decide +kernel) rfl ⟨(Nat.le_of_ble_eq_true rfl), (Nat.le_of_ble_eq_true rfl)⟩ ⟨rfl, rfl⟩ (Nat.le_of_ble_eq_true rfl) ⟨Nat.zero_le _, Nat.zero_le _⟩ dX7_judge_47 (fun gr8 zw2 hp => ?_)
            obtain ⟨rfl, e1, e2, e3, hf2⟩ := hp
            have zih := ih (ii + 1) zw2 (by omega) (by rw [failS_step, ← Nat.add_assoc]; exact e1) e2 e3 (fun k q1 q2 q3 => (hf2 k q1 q2 q3).trans (hf k q1 q2 q3))
            rw [doneN_step] at zih
            cases zb : (jOne A I O (jN A I O J ii) ii).1
            · skip
              rw [zb] at zih
              refine G.nif_eq 56 dX7_judge_50 rfl (by decide) (fun zz => absurd zz (by decide)) (fun _ => ?_)
              refine G.iinc (v := nI ((doneN (jN A I O J ii) ii) + 1)) [(1, .int (nI ((doneN (jN A I O J ii) ii) + 1))), (3, .ref (ad (24 + 9 * ii))), (0, .ref (ad 0)), (2, .int (nI ii))] 2 dX7_judge_53 rfl (nI_add ((doneN (jN A I O J ii) ii)) 1) (by decide) rfl ?_
              refine G.iinc (v := nI (ii + 1)) [(2, .int (nI (ii + 1))), (1, .int (nI ((doneN (jN A I O J ii) ii) + 1))), (3, .ref (ad (24 + 9 * ii))), (0, .ref (ad 0))] 3 dX7_judge_56 rfl (nI_add ii 1) (by decide) rfl ?_
              refine G.goto 27 dX7_judge_59 rfl ?_
              refine G.pick [3, 1, 0] [(0, .ref (ad 0)), (1, .int (nI (doneN (jN A I O J ii) ii + 1))), (2, .int (nI (ii + 1)))] rfl ?_
              exact zih
            · skip
              rw [zb] at zih
              refine G.nif_eq 56 dX7_judge_50 rfl (by decide) (fun _ => ?_) (fun zz => absurd zz (by decide))
              refine G.iinc (v := nI (ii + 1)) [(2, .int (nI (ii + 1))), (3, .ref (ad (24 + 9 * ii))), (0, .ref (ad 0)), (1, .int (nI (doneN (jN A I O J ii) ii)))] 3 dX7_judge_56 rfl (nI_add ii 1) (by decide) rfl ?_
              refine G.goto 27 dX7_judge_59 rfl ?_
              refine G.pick [2, 3, 0] [(0, .ref (ad 0)), (1, .int (nI (doneN (jN A I O J ii) ii))), (2, .int (nI (ii + 1)))] rfl ?_
              exact zih
      exact loop O.length 0 w (by omega) (by simpa [failS] using c0) cP (fun k hk => by
        obtain ⟨kd', p', q', a', b', u', z', x', G', y1, y2⟩ := cOps k hk
        exact ⟨kd', p', q', a', b', u', z', x', G', y1, fun h => ⟨(y2 h).1, fun h2 => by simp at h2⟩⟩) (fun _ _ _ _ => rfl)
    · skip
      refine G.bipush (v := -5) dX7_judge_20 (by decide +kernel) ?_
      refine G.iret rfl rfl rfl dX7_judge_22 ?_
      exact hret _ _ ⟨fun h => absurd h (by omega), fun _ _ => ⟨rfl, zC⟩, fun _ h => absurd h (by omega), fun _ _ => rfl⟩
  · skip
    refine G.bipush (v := -3) dX7_judge_7 (by decide +kernel) ?_
    refine G.iret rfl rfl rfl dX7_judge_9 ?_
    exact hret _ _ ⟨fun _ => ⟨rfl, zC⟩, fun h => absurd c4 h, fun h => absurd c4 h, fun _ _ => rfl⟩
end TopE

