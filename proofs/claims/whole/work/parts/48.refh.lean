/-! the reference: judging all -/
section RefH
variable {l : Launch} {t : TT} {N : Nat} {ad : Nat → Nat} {w : Nat → va_E} {A : List AR} {I : Nat → Int32} {O : List OD} {Td : Nat → List RW} {jd : Bool} {J : Nat → JR} {fc : Nat} {df : DF}
theorem jDef_F {A : List AR} {I : Nat → Int32} {o : OD} {J : Nat → JR} (hu : ¬ (o.1 ≠ 0 ∧ ((J o.2.1).1 = true ∨ (J o.2.2.1).1 = true))) (hz : zF o 0 J ≤ 200 ∧ zF o 1 J ≤ 200) (hA : A.length ≤ 60) (hp : o.1 ≠ 0 → (J o.2.1).2.1.length ≤ 200) : ((gF A I o J).length ≤ 200 → jDef A I o J = (false, gF A I o J, zF o 0 J, zF o 1 J)) ∧ (200 < (gF A I o J).length → jDef A I o J = (true, [], 0, 0) ∧ zF o 0 J = 0 ∧ zF o 1 J = 0) := by
  unfold jDef gF zF
  by_cases h0 : o.1 = 0
  · simp only [if_pos h0]
    refine ⟨fun _ => by first | rfl | trivial, fun q => ?_⟩
    rw [srt_len] at q
    have := sel_len (nI o.2.2.2.1) A
    omega
  · simp only [if_neg h0]
    have h1 : ¬ ((J o.2.1).1 = true ∨ (J o.2.2.1).1 = true) := fun q => hu ⟨h0, q⟩
    rw [if_neg h1]
    refine ⟨fun q => by rw [if_pos q], fun q => ?_⟩
    rw [if_neg (by omega)]
    by_cases h3 : o.1 ≤ 3
    · have := each_200 (I := I) (a := o.2.2.2.1) (b := o.2.2.2.2) (Q := (J o.2.2.1).2.1) h3 (hp h0); omega
    · rw [if_neg h3, if_neg h3]; exact ⟨rfl, rfl, rfl⟩
set_option maxHeartbeats 2000000 in
theorem c_X8_judge (hM : isM t ad w A I O Td jd J fc df) (cw : okS A O fc) (hN : 153 ≤ N) :
    K l t yX8_judge cX8_judge 3 (some .int) (rD 3) N ad w [.ref (ad 132)]
      (fun res w' => (O.length = 0 → res = some (.int (-3)) ∧ isM t ad w' A I O Td jd J fc df) ∧ (O.length ≠ 0 → 3000 ≤ fc → res = some (.int (-5)) ∧ isM t ad w' A I O Td jd J fc df) ∧ (O.length ≠ 0 → fc < 3000 → res = some (.int (nI (doneN (jN A I O J O.length) O.length))) ∧ isM t ad w' A I O Td true (jN A I O J O.length) (fc + failS (jN A I O J O.length) O.length) none) ∧ ∀ i, i < 132 ∨ 153 ≤ i → w' i = w i) := by
  have zM := hM
  obtain ⟨io, op, ot, ok, nw, fa, c0, cA, cT, cO, cR, cTd, cf⟩ := hM
  have zA := cw.1
  have z12 := cw.2.1
  have z9k := cw.2.2.1
  obtain ⟨k1, o1, o2, nm, p1, p2, p3, p4, p5⟩ := id cO
  obtain ⟨Ur, Mr, Fr, Tr, Yr, Vr, r1, r2, r3, r4, r5, r6, r7⟩ := id cR
  refine K.of (own := RX8) (lv := [(0, .ref (ad 132))]) (by decide +kernel) rfl (Nat.le_of_ble_eq_true rfl) rfl (fun P post hret => ?_)
  refine G.aload_n 0 rfl rfl dX8_judge_0 ?_
  refine G.get 132 (by omega) c0 rfl twX8 7 (by decide) tb_611 rfl rfl dX8_judge_1 ?_
  refine G.nif_ne 10 dX8_judge_4 rfl (by omega) (fun c4 => ?_) (fun c4 => ?_)
  · skip
    refine G.aload_n 0 rfl rfl dX8_judge_10 ?_
    refine G.get 132 (by omega) c0 rfl twX8 19 (by decide) tb_623 rfl rfl dX8_judge_11 ?_
    refine G.sipush (v := nI 3000) dX8_judge_14 (by decide +kernel) ?_
    refine G.ncmp_lt 23 dX8_judge_17 rfl (by omega) (by omega) (fun c17 => ?_) (fun c17 => ?_)
    · skip
      refine G.iconst (v := nI 0) dX8_judge_23 (by decide +kernel) ?_
      refine G.istore_n [(1, .int (nI 0)), (0, .ref (ad 132))] dX8_judge_24 rfl (by decide) rfl ?_
      refine G.aload_n 1 rfl rfl dX8_judge_25 ?_
      refine G.iconst (v := nI 0) dX8_judge_26 (by decide +kernel) ?_
      refine G.put 132 (by omega) c0 rfl twX8 28 (by decide) tyX8 tyX8_ok nmX8 tb_632 rfl rfl (tyX8_ok 28 (by decide)) rfl rfl (Nat.le_of_ble_eq_true rfl) dX8_judge_27 (fun gw1 gh2 gf3 => ?_)
      have hx := gh2
      have hfr : ∀ i, i ≠ 132 → gw1 i = w i := fun i hi => gf3 i (by omega)
      refine G.pick [1, 0] [(0, .ref (ad 132)), (1, .int (nI 0))] rfl ?_
      have loop : ∀ (mm ii dn : Nat) (zw : Nat → va_E) (fa1 : Int32), ii + mm = O.length → dn = doneN (jN A I O J ii) ii → zw 132 = .inr (8, xF ad (nI A.length) (nI O.length) (nI (bN jd)) (nI (fc + failS (jN A I O J ii) ii)) io op ot ok (nI ii) fa1) → xRes t zw ii (jN A I O J ii) → (∀ i, i ≠ 132 → i < 143 ∨ 149 ≤ i → zw i = w i) → G l t (rD 3) P cX8_judge 3 RX8 (some .int) post 0 0 N ad 0 0 30 [(0, .ref (ad 132)), (1, .int (nI dn))] [] zw := by
        intro mm
        induction mm with
        | zero =>
          intro ii dn zw fa1 hi hdn e0 eR hf
          obtain rfl : O.length = ii := by omega
          refine G.aload_n 0 rfl rfl dX8_judge_30 ?_
          refine G.get 132 (by omega) e0 rfl twX8 28 (by decide) tb_632 rfl rfl dX8_judge_31 ?_
          refine G.aload_n 0 rfl rfl dX8_judge_34 ?_
          refine G.get 132 (by omega) e0 rfl twX8 7 (by decide) tb_611 rfl rfl dX8_judge_35 ?_
          refine G.ncmp_ge 234 dX8_judge_38 rfl (by omega) (by omega) (fun c38 => ?_) (fun c38 => ?_)
          · skip
            refine G.aload_n 0 rfl rfl dX8_judge_234 ?_
            refine G.iconst (v := nI 1) dX8_judge_235 (by decide +kernel) ?_
            refine G.put 132 (by omega) e0 rfl twX8 12 (by decide) tyX8 tyX8_ok nmX8 tb_616 rfl rfl (tyX8_ok 12 (by decide)) (nb_n (Or.inr rfl)) (nb_f (Or.inr rfl)) (Nat.le_of_ble_eq_true rfl) dX8_judge_236 (fun gw4 gh5 gf6 => ?_)
            refine G.aload_n 0 rfl rfl dX8_judge_239 ?_
            refine G.iconst (v := nI 0) dX8_judge_240 (by decide +kernel) ?_
            refine G.put 132 (by omega) gh5 rfl twX8 24 (by decide) tyX8 tyX8_ok nmX8 tb_628 rfl rfl (tyX8_ok 24 (by decide)) (nb_n (Or.inl rfl)) (nb_f (Or.inl rfl)) (Nat.le_of_ble_eq_true rfl) dX8_judge_241 (fun gw7 gh8 gf9 => ?_)
            refine G.iload_n 1 rfl rfl dX8_judge_244 ?_
            refine G.iret rfl rfl rfl dX8_judge_245 ?_
            have k0 := gh8
            have hf2 : ∀ i, i ≠ 132 → gw7 i = zw i := fun i hi => (gf9 i (by omega)).trans (gf6 i (by omega))
            have zf : ∀ i, i ≠ 132 → i < 143 ∨ 149 ≤ i → gw7 i = w i := fun i q1 q2 => (hf2 i q1).trans (hf i q1 q2)
            exact hret _ _ ⟨fun h => absurd h (by omega), fun _ h => absurd h (by omega), fun _ _ => ⟨by rw [hdn], ⟨0, op, ot, ok, nI O.length, fa1, k0, cA.keep (fun i q1 q2 => zf i (by omega) (by omega)), cT.keep (zf _ (by omega) (by omega)), cO.keep (fun i q1 q2 => zf i (by omega) (by omega)), eR.keep (fun i q1 q2 => hf2 i (by omega)), cTd.keep (fun i q1 q2 => zf i (by omega) (by omega)), fun _ => ⟨fun _ => rfl, fun x hx => (by cases hx)⟩⟩⟩, fun i hi => zf i (by omega) (by omega)⟩
          · skip
            omega
        | succ mm ih =>
          intro ii dn zw fa1 hi hdn e0 eR hf
          have zfl := failS_le cw (I := I) (J := J) (i := ii) (by omega)
          have zdn : dn ≤ ii := by
            have h9 := List.countP_le_length (p := fun k => !(jN A I O J ii k).1) (l := List.range ii)
            rw [List.length_range] at h9
            rw [hdn]; exact h9
          obtain ⟨U, M, F, T, Y, V, e1, e2, e3, e4, e5, e6, e7⟩ := id eR
          have b1 := (hf 139 (by omega) (by omega)).trans p1
          have b2 := (hf 140 (by omega) (by omega)).trans p2
          have b3 := (hf 141 (by omega) (by omega)).trans p3
          have b4 := (hf 142 (by omega) (by omega)).trans p4
          have ho := p5 ii (by omega)
          have hW := cw.2.2.2.1 ii (by omega)
          have hjo : jOne A I O (jN A I O J ii) ii = jDef A I (O.getD ii o0) (jN A I O J ii) := rfl
          generalize O.getD ii o0 = o at ho hW hjo
          have hB : ∀ p, p < ii → jB (1000 * (p + 1)) (jN A I O J ii p) := fun p hp => jN_B cw ii (by omega) p hp
          have hlen : ∀ p, p < ii → (jN A I O J ii p).2.1.length ≤ 200 := fun p hp => (e7 p hp).2.2.1
          have hPP : ∀ p, p < ii → isP p (jN A I O J ii p).2.1 M T Y V := fun p hp => ⟨(e7 p hp).2.1, (e7 p hp).2.2.1, (e7 p hp).2.2.2.2.2⟩
          obtain ⟨m1, m2, m3, m4, m5, m6, m7, m8⟩ := id ho
          have tail : ∀ (zw3 : Nat → va_E) (L : List RW) (ov : Bool) (z x : Nat) (fa3 : Int32) (F3 : Nat → Int32), isW t zw3 ii L ov U M T Y V → zw3 132 = .inr (8, xF ad (nI A.length) (nI O.length) (nI (bN jd)) (nI (fc + failS (jN A I O J ii) ii + (z + x))) io op ot ok (nI ii) fa3) → zw3 145 = .inl (t.2.1, 24, .inl F3) → F3 (2 * ii) = nI z → F3 (2 * ii + 1) = nI x → (∀ j, j < 2 * ii → F3 j = F j) → jOne A I O (jN A I O J ii) ii = (ov, (if ov = true then [] else L), z, x) → (∀ i, i ≠ 132 → i < 143 ∨ 149 ≤ i → zw3 i = w i) → G l t (rD 3) P cX8_judge 3 RX8 (some .int) post 0 0 N ad 0 0 167 [(0, .ref (ad 132)), (1, .int (nI dn)), (2, .int (nI o.1))] [] zw3 := by
            intro zw3 L ov z x fa3 F3 hW3 d0 d9 d10 d11 d12 hjr hf3
            obtain ⟨U3, M3, T3, Y3, V3, f1, f2, f3, f4, f5, f6, f7, f8, f9, f10, f11⟩ := hW3
            have fin : ∀ (zw4 : Nat → va_E) (fa4 : Int32) (M4 : Nat → Int32) (dn4 : Nat), zw4 132 = .inr (8, xF ad (nI A.length) (nI O.length) (nI (bN jd)) (nI (fc + failS (jN A I O J ii) ii + (z + x))) io op ot ok (nI (ii + 1)) fa4) → zw4 144 = .inl (t.2.1, 12, .inl M4) → M4 ii = nI (if ov = true then [] else L).length → (∀ k, k < ii → M4 k = M3 k) → dn4 = dn + bN (!ov) → (∀ i, i ≠ 132 → i ≠ 144 → zw4 i = zw3 i) → G l t (rD 3) P cX8_judge 3 RX8 (some .int) post 0 0 N ad 0 0 30 [(0, .ref (ad 132)), (1, .int (nI dn4))] [] zw4 := by
              intro zw4 fa4 M4 dn4 k0 k2 k3 k4 hd4 hf4
              have hst : jN A I O J (ii + 1) = va_up (jN A I O J ii) ii (jOne A I O (jN A I O J ii) ii) := rfl
              refine ih (ii + 1) dn4 zw4 fa4 (by omega) (by rw [hd4, doneN_step, hdn, hjr]) (by rw [failS_step, hjr, ← Nat.add_assoc]; exact k0) ⟨U3, M4, F3, T3, Y3, V3, (hf4 _ (by omega) (by omega)).trans f1, k2, (hf4 _ (by omega) (by omega)).trans d9, (hf4 _ (by omega) (by omega)).trans f3, (hf4 _ (by omega) (by omega)).trans f4, (hf4 _ (by omega) (by omega)).trans f5, fun i hi2 => ?_⟩ (fun i q1 q2 => (hf4 i q1 (by omega)).trans (hf3 i q1 q2))
              by_cases q : i = ii
              · subst q
                rw [hst, va_up_self, hjr]
                refine ⟨f7, k3, ?_, d10, d11, fun j hj => ?_⟩
                · cases ov
                  · exact f6
                  · simp
                · cases ov
                  · exact sg_get f9 hj
                  · simp at hj
              · rw [hst, va_up_ne _ _ q]
                obtain ⟨r1, r2, r3, r4, r5, r6⟩ := e7 i (by omega)
                refine ⟨(f10 i (by omega)).1.trans r1, (k4 i (by omega)).trans ((f10 i (by omega)).2.trans r2), r3, (d12 _ (by omega)).trans r4, (d12 _ (by omega)).trans r5, fun j hj => ?_⟩
                rw [r6 j hj, (f11 _ (by omega)).1, (f11 _ (by omega)).2.1, (f11 _ (by omega)).2.2]
            refine G.aload_n 0 rfl rfl dX8_judge_167 ?_
            refine G.get 132 (by omega) d0 rfl twX8 14 (by decide) tb_618 rfl rfl dX8_judge_168 ?_
            refine G.aload_n 0 rfl rfl dX8_judge_171 ?_
            refine G.get 132 (by omega) d0 rfl twX8 28 (by decide) tb_632 rfl rfl dX8_judge_172 ?_
            refine G.aload_n 0 rfl rfl dX8_judge_175 ?_
            refine G.get 132 (by omega) d0 rfl twX8 13 (by decide) tb_617 rfl rfl dX8_judge_176 ?_
            refine G.aload_n 0 rfl rfl dX8_judge_179 ?_
            refine G.get 132 (by omega) d0 rfl twX8 28 (by decide) tb_632 rfl rfl dX8_judge_180 ?_
            refine G.zald 143 (by omega) f1 ii (rfl) (by omega) (by omega) dX8_judge_183 ?_
            refine G.topi (nI (bN ov)) (f7) ?_
            cases ov
            · skip
              refine G.nif_eq 191 dX8_judge_184 rfl (by decide) (fun _ => ?_) (fun zz => absurd zz (by decide))
              refine G.aload_n 0 rfl rfl dX8_judge_191 ?_
              refine G.get 132 (by omega) d0 rfl twX8 14 (by decide) tb_618 rfl rfl dX8_judge_192 ?_
              refine G.aload_n 0 rfl rfl dX8_judge_195 ?_
              refine G.get 132 (by omega) d0 rfl twX8 28 (by decide) tb_632 rfl rfl dX8_judge_196 ?_
              refine G.iald 144 (by omega) f2 ii (rfl) (by omega) (by omega) dX8_judge_199 ?_
              refine G.topi (nI L.length) (f8) ?_
              refine G.iast 144 (by omega) f2 ii (rfl) (by omega) (by omega) dX8_judge_200 (fun gw10 gh11 gf12 => ?_)
              refine G.iload_n 1 rfl rfl dX8_judge_201 ?_
              refine G.aload_n 0 rfl rfl dX8_judge_202 ?_
              have gh13 := (gf12 132 (by omega)).trans d0
              refine G.get 132 (by omega) gh13 rfl twX8 13 (by decide) tb_617 rfl rfl dX8_judge_203 ?_
              refine G.aload_n 0 rfl rfl dX8_judge_206 ?_
              refine G.get 132 (by omega) gh13 rfl twX8 28 (by decide) tb_632 rfl rfl dX8_judge_207 ?_
              have gh14 := (gf12 143 (by omega)).trans f1
              refine G.zald 143 (by omega) gh14 ii (rfl) (by omega) (by omega) dX8_judge_210 ?_
              refine G.topi (nI 0) (f7) ?_
              refine G.nif_eq 218 dX8_judge_211 rfl (by decide) (fun _ => ?_) (fun zz => absurd zz (by decide))
              refine G.iconst (v := nI 1) dX8_judge_218 (by decide +kernel) ?_
              refine G.iadd dX8_judge_219 ?_
              refine G.topi (nI (dn + 1)) (nI_add dn 1) ?_
              refine G.istore_n [(1, .int (nI (dn + 1))), (0, .ref (ad 132)), (2, .int (nI o.1))] dX8_judge_220 rfl (by decide) rfl ?_
              refine G.aload_n 1 rfl rfl dX8_judge_221 ?_
              refine G.dup rfl dX8_judge_222 ?_
              refine G.get 132 (by omega) gh13 rfl twX8 28 (by decide) tb_632 rfl rfl dX8_judge_223 ?_
              refine G.iconst (v := nI 1) dX8_judge_226 (by decide +kernel) ?_
              refine G.iadd dX8_judge_227 ?_
              refine G.topi (nI (ii + 1)) (nI_add ii 1) ?_
              refine G.put 132 (by omega) gh13 rfl twX8 28 (by decide) tyX8 tyX8_ok nmX8 tb_632 rfl rfl (tyX8_ok 28 (by decide)) rfl rfl (Nat.le_of_ble_eq_true rfl) dX8_judge_228 (fun gw15 gh16 gf17 => ?_)
              refine G.goto 30 dX8_judge_231 rfl ?_
              have k0 := gh16
              have gh18 := (gf17 144 (by omega)).trans gh11
              have k2 := gh18
              have hf4 : ∀ i, i ≠ 132 ∧ i ≠ 144 → gw15 i = zw3 i := fun i hi => (gf17 i (by omega)).trans (gf12 i (by omega))
              refine G.pick [1, 0] [(0, .ref (ad 132)), (1, .int (nI (dn + 1)))] rfl ?_
              exact fin _ fa3 _ (dn + 1) k0 k2 upd_s (fun k hk => upd_n (by omega)) rfl (fun i q1 q2 => hf4 i ⟨q1, q2⟩)
            · skip
              refine G.nif_eq 191 dX8_judge_184 rfl (by decide) (fun zz => absurd zz (by decide)) (fun _ => ?_)
              refine G.iconst (v := nI 0) dX8_judge_187 (by decide +kernel) ?_
              refine G.goto 200 dX8_judge_188 rfl ?_
              refine G.iast 144 (by omega) f2 ii (rfl) (by omega) (by omega) dX8_judge_200 (fun gw19 gh20 gf21 => ?_)
              refine G.iload_n 1 rfl rfl dX8_judge_201 ?_
              refine G.aload_n 0 rfl rfl dX8_judge_202 ?_
              have gh22 := (gf21 132 (by omega)).trans d0
              refine G.get 132 (by omega) gh22 rfl twX8 13 (by decide) tb_617 rfl rfl dX8_judge_203 ?_
              refine G.aload_n 0 rfl rfl dX8_judge_206 ?_
              refine G.get 132 (by omega) gh22 rfl twX8 28 (by decide) tb_632 rfl rfl dX8_judge_207 ?_
              have gh23 := (gf21 143 (by omega)).trans f1
              refine G.zald 143 (by omega) gh23 ii (rfl) (by omega) (by omega) dX8_judge_210 ?_
              refine G.topi (nI 1) (f7) ?_
              refine G.nif_eq 218 dX8_judge_211 rfl (by decide) (fun zz => absurd zz (by decide)) (fun _ => ?_)
              refine G.iconst (v := nI 0) dX8_judge_214 (by decide +kernel) ?_
              refine G.goto 219 dX8_judge_215 rfl ?_
              refine G.iadd dX8_judge_219 ?_
              refine G.topi (nI (dn + 0)) (nI_add dn 0) ?_
              refine G.istore_n [(1, .int (nI (dn + 0))), (0, .ref (ad 132)), (2, .int (nI o.1))] dX8_judge_220 rfl (by decide) rfl ?_
              refine G.aload_n 1 rfl rfl dX8_judge_221 ?_
              refine G.dup rfl dX8_judge_222 ?_
              refine G.get 132 (by omega) gh22 rfl twX8 28 (by decide) tb_632 rfl rfl dX8_judge_223 ?_
              refine G.iconst (v := nI 1) dX8_judge_226 (by decide +kernel) ?_
              refine G.iadd dX8_judge_227 ?_
              refine G.topi (nI (ii + 1)) (nI_add ii 1) ?_
              refine G.put 132 (by omega) gh22 rfl twX8 28 (by decide) tyX8 tyX8_ok nmX8 tb_632 rfl rfl (tyX8_ok 28 (by decide)) rfl rfl (Nat.le_of_ble_eq_true rfl) dX8_judge_228 (fun gw24 gh25 gf26 => ?_)
              refine G.goto 30 dX8_judge_231 rfl ?_
              have k0 := gh25
              have gh27 := (gf26 144 (by omega)).trans gh20
              have k2 := gh27
              have hf4 : ∀ i, i ≠ 132 ∧ i ≠ 144 → gw24 i = zw3 i := fun i hi => (gf26 i (by omega)).trans (gf21 i (by omega))
              refine G.pick [1, 0] [(0, .ref (ad 132)), (1, .int (nI (dn + 0)))] rfl ?_
              exact fin _ fa3 _ (dn + 0) k0 k2 upd_s (fun k hk => upd_n (by omega)) rfl (fun i q1 q2 => hf4 i ⟨q1, q2⟩)
          refine G.aload_n 0 rfl rfl dX8_judge_30 ?_
          refine G.get 132 (by omega) e0 rfl twX8 28 (by decide) tb_632 rfl rfl dX8_judge_31 ?_
          refine G.aload_n 0 rfl rfl dX8_judge_34 ?_
          refine G.get 132 (by omega) e0 rfl twX8 7 (by decide) tb_611 rfl rfl dX8_judge_35 ?_
          refine G.ncmp_ge 234 dX8_judge_38 rfl (by omega) (by omega) (fun c38 => ?_) (fun c38 => ?_)
          · skip
            omega
          · skip
            refine G.aload_n 0 rfl rfl dX8_judge_41 ?_
            refine G.get 132 (by omega) e0 rfl twX8 14 (by decide) tb_618 rfl rfl dX8_judge_42 ?_
            refine G.aload_n 0 rfl rfl dX8_judge_45 ?_
            refine G.get 132 (by omega) e0 rfl twX8 28 (by decide) tb_632 rfl rfl dX8_judge_46 ?_
            refine G.iconst (v := nI 0) dX8_judge_49 (by decide +kernel) ?_
            refine G.iast 144 (by omega) e2 ii (rfl) (by omega) (by omega) dX8_judge_50 (fun gw28 gh29 gf30 => ?_)
            refine G.aload_n 0 rfl rfl dX8_judge_51 ?_
            have gh31 := (gf30 132 (by omega)).trans e0
            refine G.get 132 (by omega) gh31 rfl twX8 15 (by decide) tb_619 rfl rfl dX8_judge_52 ?_
            refine G.iconst (v := nI 2) dX8_judge_55 (by decide +kernel) ?_
            refine G.aload_n 0 rfl rfl dX8_judge_56 ?_
            refine G.get 132 (by omega) gh31 rfl twX8 28 (by decide) tb_632 rfl rfl dX8_judge_57 ?_
            refine G.imul dX8_judge_60 ?_
            refine G.topi (nI (2 * ii)) (pk_mul 2 ii) ?_
            refine G.iconst (v := nI 0) dX8_judge_61 (by decide +kernel) ?_
            have gh32 := (gf30 145 (by omega)).trans e3
            refine G.iast 145 (by omega) gh32 (2 * ii) (rfl) (by omega) (by omega) dX8_judge_62 (fun gw33 gh34 gf35 => ?_)
            refine G.aload_n 0 rfl rfl dX8_judge_63 ?_
            have gh36 := (gf35 132 (by omega)).trans gh31
            refine G.get 132 (by omega) gh36 rfl twX8 15 (by decide) tb_619 rfl rfl dX8_judge_64 ?_
            refine G.iconst (v := nI 2) dX8_judge_67 (by decide +kernel) ?_
            refine G.aload_n 0 rfl rfl dX8_judge_68 ?_
            refine G.get 132 (by omega) gh36 rfl twX8 28 (by decide) tb_632 rfl rfl dX8_judge_69 ?_
            refine G.imul dX8_judge_72 ?_
            refine G.topi (nI (2 * ii)) (pk_mul 2 ii) ?_
            refine G.iconst (v := nI 1) dX8_judge_73 (by decide +kernel) ?_
            refine G.iadd dX8_judge_74 ?_
            refine G.topi (nI ((2 * ii) + 1)) (nI_add ((2 * ii)) 1) ?_
            refine G.iconst (v := nI 0) dX8_judge_75 (by decide +kernel) ?_
            refine G.iast 145 (by omega) gh34 ((2 * ii) + 1) (rfl) (by omega) (by omega) dX8_judge_76 (fun gw37 gh38 gf39 => ?_)
            refine G.aload_n 0 rfl rfl dX8_judge_77 ?_
            have gh40 := (gf39 132 (by omega)).trans gh36
            refine G.get 132 (by omega) gh40 rfl twX8 8 (by decide) tb_612 rfl rfl dX8_judge_78 ?_
            refine G.aload_n 0 rfl rfl dX8_judge_81 ?_
            refine G.get 132 (by omega) gh40 rfl twX8 28 (by decide) tb_632 rfl rfl dX8_judge_82 ?_
            have gh41 := (gf30 139 (by omega)).trans b1
            have gh42 := (gf35 139 (by omega)).trans gh41
            have gh43 := (gf39 139 (by omega)).trans gh42
            refine G.iald 139 (by omega) gh43 ii (rfl) (by omega) (by omega) dX8_judge_85 ?_
            refine G.topi (nI o.1) (m1) ?_
            refine G.istore_n [(2, .int (nI o.1)), (0, .ref (ad 132)), (1, .int (nI dn))] dX8_judge_86 rfl (by decide) rfl ?_
            refine G.aload_n 1 rfl rfl dX8_judge_87 ?_
            refine G.get 132 (by omega) gh40 rfl twX8 13 (by decide) tb_617 rfl rfl dX8_judge_88 ?_
            refine G.aload_n 1 rfl rfl dX8_judge_91 ?_
            refine G.get 132 (by omega) gh40 rfl twX8 28 (by decide) tb_632 rfl rfl dX8_judge_92 ?_
            refine G.iload_n 0 rfl rfl dX8_judge_95 ?_
            have d0 := gh40
            have gh44 := (gf30 140 (by omega)).trans b2
            have gh45 := (gf35 140 (by omega)).trans gh44
            have gh46 := (gf39 140 (by omega)).trans gh45
            have c2 := gh46
            have gh47 := (gf30 141 (by omega)).trans b3
            have gh48 := (gf35 141 (by omega)).trans gh47
            have gh49 := (gf39 141 (by omega)).trans gh48
            have c3 := gh49
            have gh50 := (gf30 143 (by omega)).trans e1
            have gh51 := (gf35 143 (by omega)).trans gh50
            have gh52 := (gf39 143 (by omega)).trans gh51
            have d1 := gh52
            have gh53 := (gf35 144 (by omega)).trans gh29
            have gh54 := (gf39 144 (by omega)).trans gh53
            have d2 := gh54
            have d9 := gh38
            have hfs : ∀ i, i ≠ 144 ∧ i ≠ 145 → gw37 i = zw i := fun i hi => (gf39 i (by omega)).trans ((gf35 i (by omega)).trans (gf30 i (by omega)))
            refine G.pick [1, 2, 0] [(0, .ref (ad 132)), (1, .int (nI dn)), (2, .int (nI o.1))] rfl ?_
            have hl : o.1 ≤ 8 := hW.1
            have zpre : ∀ k, zF o k (jN A I O J ii) ≤ 200 := fun k => by
              unfold zF
              split
              · omega
              · split
                · have h8 := failN_le k o.2.2.2.1 o.2.2.2.2 (jN A I O J ii o.2.1).2.1
                  have h9 := hlen o.2.1 ((hW.2.2.1 (by omega)).1)
                  omega
                · omega
            have yes : (o.1 ≠ 0 ∧ ((jN A I O J ii o.2.1).1 = true ∨ (jN A I O J ii o.2.2.1).1 = true)) → G l t (rD 3) P cX8_judge 3 RX8 (some .int) post 0 0 N ad 0 0 144 [(0, .ref (ad 132)), (1, .int (nI dn)), (2, .int (nI o.1))] [.int (nI ii), .ref (ad 143)] gw37 := by
              intro hb
              refine G.iconst (v := nI 1) dX8_judge_144 (by decide +kernel) ?_
              refine G.goto 149 dX8_judge_145 rfl ?_
              refine G.zast 143 (by omega) gh52 ii (rfl) (by omega) (by omega) (Or.inr rfl) dX8_judge_149 (fun gw55 gh56 gf57 => ?_)
              refine G.aload_n 0 rfl rfl dX8_judge_150 ?_
              have gh58 := (gf57 132 (by omega)).trans gh40
              refine G.get 132 (by omega) gh58 rfl twX8 13 (by decide) tb_617 rfl rfl dX8_judge_151 ?_
              refine G.aload_n 0 rfl rfl dX8_judge_154 ?_
              refine G.get 132 (by omega) gh58 rfl twX8 28 (by decide) tb_632 rfl rfl dX8_judge_155 ?_
              refine G.zald 143 (by omega) gh56 ii (rfl) (by omega) (by omega) dX8_judge_158 ?_
              refine G.topi (nI 1) (upd_s) ?_
              refine G.nif_ne 167 dX8_judge_159 rfl (by decide) (fun _ => ?_) (fun zz => absurd zz (by decide))
              have k0 := gh58
              have k1 := gh56
              have gh59 := (gf57 144 (by omega)).trans gh54
              have k2 := gh59
              have gh60 := (gf57 145 (by omega)).trans gh38
              have k9 := gh60
              have hf4 : ∀ i, i ≠ 143 ∧ i ≠ 144 ∧ i ≠ 145 → gw55 i = zw i := fun i hi => (gf57 i (by omega)).trans ((gf39 i (by omega)).trans ((gf35 i (by omega)).trans (gf30 i (by omega))))
              refine tail _ [] true 0 0 fa1 _ ⟨_, _, T, Y, V, k1, k2, (hf4 _ (by omega)).trans e4, (hf4 _ (by omega)).trans e5, (hf4 _ (by omega)).trans e6, by simp, upd_s, upd_s, rfl, fun k hk => ⟨upd_n (by omega), upd_n (by omega)⟩, fun _ _ => ⟨rfl, rfl, rfl⟩⟩ k0 k9 ?_ upd_s (fun j hj => by rw [upd_n (by omega), upd_n (by omega)]) ?_ (fun i q1 q2 => (hf4 i (by omega)).trans (hf i q1 q2))
              · rw [upd_n (by omega), upd_s]
              · rw [hjo, jDef, if_neg hb.1, if_pos hb.2]; rfl
            have no : ¬ (o.1 ≠ 0 ∧ ((jN A I O J ii o.2.1).1 = true ∨ (jN A I O J ii o.2.2.1).1 = true)) → G l t (rD 3) P cX8_judge 3 RX8 (some .int) post 0 0 N ad 0 0 148 [(0, .ref (ad 132)), (1, .int (nI dn)), (2, .int (nI o.1))] [.int (nI ii), .ref (ad 143)] gw37 := by
              intro hb
              refine G.iconst (v := nI 0) dX8_judge_148 (by decide +kernel) ?_
              refine G.zast 143 (by omega) gh52 ii (rfl) (by omega) (by omega) (Or.inl rfl) dX8_judge_149 (fun gw61 gh62 gf63 => ?_)
              refine G.aload_n 0 rfl rfl dX8_judge_150 ?_
              have gh64 := (gf63 132 (by omega)).trans gh40
              refine G.get 132 (by omega) gh64 rfl twX8 13 (by decide) tb_617 rfl rfl dX8_judge_151 ?_
              refine G.aload_n 0 rfl rfl dX8_judge_154 ?_
              refine G.get 132 (by omega) gh64 rfl twX8 28 (by decide) tb_632 rfl rfl dX8_judge_155 ?_
              refine G.zald 143 (by omega) gh62 ii (rfl) (by omega) (by omega) dX8_judge_158 ?_
              refine G.topi (nI 0) (upd_s) ?_
              refine G.nif_ne 167 dX8_judge_159 rfl (by decide) (fun zz => absurd zz (by decide)) (fun _ => ?_)
              refine G.aload_n 0 rfl rfl dX8_judge_162 ?_
              refine G.iload_n 2 rfl rfl dX8_judge_163 ?_
              have k0 := gh64
              have k1 := gh62
              have gh65 := (gf63 144 (by omega)).trans gh54
              have k2 := gh65
              have gh66 := (gf63 145 (by omega)).trans gh38
              have k9 := gh66
              have hf4 : ∀ i, i ≠ 143 ∧ i ≠ 144 ∧ i ≠ 145 → gw61 i = zw i := fun i hi => (gf63 i (by omega)).trans ((gf39 i (by omega)).trans ((gf35 i (by omega)).trans (gf30 i (by omega))))
              have hD : isD t gw61 ii [] U M T Y V := ⟨_, _, T, Y, V, k1, k2, (hf4 _ (by omega)).trans e4, (hf4 _ (by omega)).trans e5, (hf4 _ (by omega)).trans e6, by simp, upd_s, upd_s, rfl, fun k hk => ⟨upd_n (by omega), upd_n (by omega)⟩, fun _ _ => ⟨rfl, rfl, rfl⟩⟩
              have cA2 : xArr t gw61 A := cA.keep (fun i q1 q2 => (hf4 i (by omega)).trans (hf i (by omega) (by omega)))
              have cT2 : xTab t gw61 I := cT.keep ((hf4 _ (by omega)).trans (hf _ (by omega) (by omega)))
              refine G.callV (n := 1) 132 (c_X8_work k0 cA2 cw.1 cT2 ((hf4 139 (by omega)).trans b1) ((hf4 140 (by omega)).trans b2) ((hf4 141 (by omega)).trans b3) ((hf4 142 (by omega)).trans b4) ho hW k9 ⟨by rw [upd_n (by omega), upd_s], upd_s⟩ hPP hB hD (by omega) hN) rfl (by omega) gh64 rfl tb_760 tb_762 tb_16 tb_42 tb_763 (by decide +kernel) rfl ⟨(Nat.le_of_ble_eq_true rfl), (Nat.le_of_ble_eq_true rfl)⟩ ⟨rfl, rfl⟩ (Nat.le_of_ble_eq_true rfl) ⟨Nat.zero_le _, Nat.zero_le _⟩ dX8_judge_164 (fun gr67 zw5 hp => ?_)
              obtain ⟨rfl, ⟨L, ov, h5, h6, h7⟩, ⟨fa5, h8⟩, ⟨F5, i1, i2, i3, i4⟩, hf5⟩ := hp
              obtain ⟨j1, j2⟩ := jDef_F (A := A) (I := I) hb ⟨zpre 0, zpre 1⟩ cw.1 (fun q => hlen _ (hW.2.2.1 (by omega)).1)
              refine tail zw5 L ov (zF o 0 (jN A I O J ii)) (zF o 1 (jN A I O J ii)) fa5 F5 h5 h8 i1 i2 i3 (fun j hj => by rw [i4 j hj, upd_n (by omega), upd_n (by omega)]) ?_ (fun i q1 q2 => (hf5 i q1 q2).trans ((hf4 i (by omega)).trans (hf i q1 q2)))
              rw [hjo]
              rcases Nat.lt_or_ge 200 (gF A I o (jN A I O J ii)).length with q | q
              · obtain ⟨j3, j4, j5⟩ := j2 q
                rw [j3, j4, j5, h7 q]; rfl
              · obtain ⟨rfl, rfl⟩ := h6 q
                rw [j1 q]; rfl
            have hu : ∀ k, k < ii → U k = nI (bN (jN A I O J ii k).1) := fun k hk => (e7 k hk).1
            have two : (1 ≤ o.1 → ¬ (jN A I O J ii o.2.1).1 = true) → G l t (rD 3) P cX8_judge 3 RX8 (some .int) post 0 0 N ad 0 0 116 [(0, .ref (ad 132)), (1, .int (nI dn)), (2, .int (nI o.1))] [.int (nI ii), .ref (ad 143)] gw37 := by
              intro hb
              have sel2 : (o.1 = 5 ∨ o.1 = 6) → G l t (rD 3) P cX8_judge 3 RX8 (some .int) post 0 0 N ad 0 0 127 [(0, .ref (ad 132)), (1, .int (nI dn)), (2, .int (nI o.1))] [.int (nI ii), .ref (ad 143)] gw37 := by
                intro h56
                have hq := (hW.2.2.1 (by omega)).2
                refine G.aload_n 0 rfl rfl dX8_judge_127 ?_
                refine G.get 132 (by omega) gh40 rfl twX8 13 (by decide) tb_617 rfl rfl dX8_judge_128 ?_
                refine G.aload_n 0 rfl rfl dX8_judge_131 ?_
                refine G.get 132 (by omega) gh40 rfl twX8 10 (by decide) tb_614 rfl rfl dX8_judge_132 ?_
                refine G.aload_n 0 rfl rfl dX8_judge_135 ?_
                refine G.get 132 (by omega) gh40 rfl twX8 28 (by decide) tb_632 rfl rfl dX8_judge_136 ?_
                refine G.iald 141 (by omega) gh49 ii (rfl) (by omega) (by omega) dX8_judge_139 ?_
                refine G.topi (nI o.2.2.1) (m6 h56) ?_
                refine G.zald 143 (by omega) gh52 o.2.2.1 (rfl) (by omega) (by omega) dX8_judge_140 ?_
                refine G.topi (nI (bN (jN A I O J ii o.2.2.1).1)) (hu _ hq) ?_
                refine G.if_eq 148 dX8_judge_141 rfl (fun c141 => ?_) (fun c141 => ?_)
                · skip
                  exact no (fun q => by
                    rcases q.2 with z | z
                    · exact hb (by omega) z
                    · rw [bN_0 c141] at z; cases z)
                · skip
                  exact yes ⟨by omega, Or.inr (bN_n0 c141)⟩
              refine G.iload_n 2 rfl rfl dX8_judge_116 ?_
              refine G.iconst (v := nI 5) dX8_judge_117 (by decide +kernel) ?_
              refine G.ncmp_eq 127 dX8_judge_118 rfl (by omega) (by omega) (fun c118 => ?_) (fun c118 => ?_)
              · skip
                exact sel2 (Or.inl c118)
              · skip
                refine G.iload_n 2 rfl rfl dX8_judge_121 ?_
                refine G.bipush (v := nI 6) dX8_judge_122 (by decide +kernel) ?_
                refine G.ncmp_ne 148 dX8_judge_124 rfl (by omega) (by omega) (fun c124 => ?_) (fun c124 => ?_)
                · skip
                  exact no (fun q => by
                    have hq := m8 (by omega) c118 c124
                    rw [hq] at q
                    exact hb (by omega) (q.2.elim id id))
                · skip
                  exact sel2 (Or.inr c124)
            refine G.nif_eq 116 dX8_judge_96 rfl (by omega) (fun c96 => ?_) (fun c96 => ?_)
            · skip
              exact two (fun q => by omega)
            · skip
              have hq := (hW.2.2.1 (by omega)).1
              refine G.aload_n 0 rfl rfl dX8_judge_99 ?_
              refine G.get 132 (by omega) gh40 rfl twX8 13 (by decide) tb_617 rfl rfl dX8_judge_100 ?_
              refine G.aload_n 0 rfl rfl dX8_judge_103 ?_
              refine G.get 132 (by omega) gh40 rfl twX8 9 (by decide) tb_613 rfl rfl dX8_judge_104 ?_
              refine G.aload_n 0 rfl rfl dX8_judge_107 ?_
              refine G.get 132 (by omega) gh40 rfl twX8 28 (by decide) tb_632 rfl rfl dX8_judge_108 ?_
              refine G.iald 140 (by omega) gh46 ii (rfl) (by omega) (by omega) dX8_judge_111 ?_
              refine G.topi (nI o.2.1) (m3 (by omega)) ?_
              refine G.zald 143 (by omega) gh52 o.2.1 (rfl) (by omega) (by omega) dX8_judge_112 ?_
              refine G.topi (nI (bN (jN A I O J ii o.2.1).1)) (hu _ hq) ?_
              refine G.if_ne 144 dX8_judge_113 rfl (fun c113 => ?_) (fun c113 => ?_)
              · skip
                exact yes ⟨by omega, Or.inl (bN_n0 c113)⟩
              · skip
                exact two (fun _ q => by rw [bN_0 c113] at q; cases q)
      exact loop O.length 0 0 _ fa (by omega) rfl (by simpa [failS] using hx) ⟨Ur, Mr, Fr, Tr, Yr, Vr, (hfr _ (by omega)).trans r1, (hfr _ (by omega)).trans r2, (hfr _ (by omega)).trans r3, (hfr _ (by omega)).trans r4, (hfr _ (by omega)).trans r5, (hfr _ (by omega)).trans r6, fun i hi => by omega⟩ (fun i q1 _ => hfr i q1)
    · skip
      refine G.bipush (v := -5) dX8_judge_20 (by decide +kernel) ?_
      refine G.iret rfl rfl rfl dX8_judge_22 ?_
      exact hret _ _ ⟨fun h => absurd h (by omega), fun _ _ => ⟨rfl, zM⟩, fun _ h => absurd h (by omega), fun _ _ => rfl⟩
  · skip
    refine G.bipush (v := -3) dX8_judge_7 (by decide +kernel) ?_
    refine G.iret rfl rfl rfl dX8_judge_9 ?_
    exact hret _ _ ⟨fun _ => ⟨rfl, zM⟩, fun h => absurd c4 h, fun h => absurd c4 h, fun _ _ => rfl⟩
end RefH

