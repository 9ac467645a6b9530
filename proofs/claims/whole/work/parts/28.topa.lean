/-! OnePassJudge: rows, items, small helpers -/
section TopA
variable {l : Launch} {t : TT} {N : Nat} {ad : Nat → Nat} {w : Nat → va_E} {A : List AR} {I : Nat → Int32} {O : List OD} {Td : Nat → List RW} {jd : Bool} {J : Nat → JR} {fc : Nat} {df : DF}
theorem c_X7_within (n lo hi : Int32) :
    K l t yX7_within cX7_within 3 (some .boolean) (rD 0) N ad w [.int n, .int lo, .int hi]
      (fun res w' => w = w' ∧ res = some (.int (nI (bN (wi n lo hi))))) := by
  refine K.of (own := RX7) (lv := [(0, .int n), (1, .int lo), (2, .int hi)]) (by decide +kernel) rfl (Nat.le_of_ble_eq_true rfl) rfl (fun P post hret => ?_)
  refine G.iload_n 0 rfl rfl dX7_within_0 ?_
  refine G.iload_n 1 rfl rfl dX7_within_1 ?_
  refine G.icmp_lt 14 dX7_within_2 rfl (fun c2 => ?_) (fun c2 => ?_)
  · skip
    refine G.iconst (v := nI 0) dX7_within_14 (by decide +kernel) ?_
    refine G.zret rfl (by decide) rfl rfl dX7_within_15 ?_
    exact hret _ _ ⟨rfl, by rw [wi, decide_eq_false (Int32.not_le.mpr c2)]; rfl⟩
  · skip
    refine G.iload_n 0 rfl rfl dX7_within_5 ?_
    refine G.iload_n 2 rfl rfl dX7_within_6 ?_
    refine G.icmp_gt 14 dX7_within_7 rfl (fun c7 => ?_) (fun c7 => ?_)
    · skip
      refine G.iconst (v := nI 0) dX7_within_14 (by decide +kernel) ?_
      refine G.zret rfl (by decide) rfl rfl dX7_within_15 ?_
      exact hret _ _ ⟨rfl, by rw [wi, decide_eq_false (Int32.not_le.mpr c7), Bool.and_false]; rfl⟩
    · skip
      refine G.iconst (v := nI 1) dX7_within_10 (by decide +kernel) ?_
      refine G.goto 15 dX7_within_11 rfl ?_
      refine G.zret rfl (by decide) rfl rfl dX7_within_15 ?_
      exact hret _ _ ⟨rfl, by rw [wi, decide_eq_true (Int32.not_lt.mp c2), decide_eq_true (Int32.not_lt.mp c7)]; rfl⟩
theorem c_X7_operatorAt {n fc jb : Nat} (h0 : w 0 = .inr (7, jF ad n fc jb)) (hOA : isOA t ad w) (hn : n ≤ 12) (hN : 132 ≤ N) (i : Int32) :
    K l t yX7_operatorAt cX7_operatorAt 2 (some (.object "OnePassJudge$Operator")) (rD 0) N ad w [.ref (ad 0), .int i]
      (fun res w' => w = w' ∧ ((∃ j, ix n i = some j ∧ res = some (.ref (ad (24 + 9 * j)))) ∨ (ix n i = none ∧ res = some .null))) := by
  obtain ⟨f, f0, f1⟩ := hOA
  refine K.of (own := RX7) (lv := [(0, .ref (ad 0)), (1, .int i)]) (by decide +kernel) rfl (Nat.le_of_ble_eq_true rfl) rfl (fun P post hret => ?_)
  refine G.iload_n 1 rfl rfl dX7_operatorAt_0 ?_
  refine G.if_lt 30 dX7_operatorAt_1 rfl (fun c1 => ?_) (fun c1 => ?_)
  · skip
    refine G.aconst_null dX7_operatorAt_30 ?_
    refine G.aret rfl (Or.inl rfl) rfl rfl dX7_operatorAt_31 ?_
    exact hret _ _ ⟨rfl, Or.inr ⟨by rw [ix, if_pos c1], rfl⟩⟩
  · skip
    obtain ⟨j, hj, rfl⟩ := nI_of c1
    refine G.iload_n 1 rfl rfl dX7_operatorAt_4 ?_
    refine G.aload_n 0 rfl rfl dX7_operatorAt_5 ?_
    refine G.get 0 (by omega) h0 rfl twX7 5 (by decide) tb_219 rfl rfl dX7_operatorAt_6 ?_
    refine G.ncmp_ge 30 dX7_operatorAt_9 rfl (by omega) (by omega) (fun c9 => ?_) (fun c9 => ?_)
    · skip
      refine G.aconst_null dX7_operatorAt_30 ?_
      refine G.aret rfl (Or.inl rfl) rfl rfl dX7_operatorAt_31 ?_
      exact hret _ _ ⟨rfl, Or.inr ⟨by rw [ix_n hj, if_neg (by omega)], rfl⟩⟩
    · skip
      refine G.iload_n 1 rfl rfl dX7_operatorAt_12 ?_
      refine G.aload_n 0 rfl rfl dX7_operatorAt_13 ?_
      refine G.get 0 (by omega) h0 rfl twX7 2 (by decide) tb_216 rfl rfl dX7_operatorAt_14 ?_
      refine G.alen 9 (by omega) 3 f0 rfl (v := nI 12) rfl dX7_operatorAt_17 ?_
      refine G.ncmp_ge 30 dX7_operatorAt_18 rfl (by omega) (by omega) (fun c18 => ?_) (fun c18 => ?_)
      · skip
        omega
      · skip
        refine G.aload_n 0 rfl rfl dX7_operatorAt_21 ?_
        refine G.get 0 (by omega) h0 rfl twX7 2 (by decide) tb_216 rfl rfl dX7_operatorAt_22 ?_
        refine G.iload_n 1 rfl rfl dX7_operatorAt_25 ?_
        refine G.aldq 9 (by omega) f0 j (rfl) (by omega) (by omega) dX7_operatorAt_26 ?_
        rw [f1 j (by omega)]
        refine G.goto 31 dX7_operatorAt_27 rfl ?_
        refine G.aret rfl (Or.inr ⟨_, rfl⟩) rfl rfl dX7_operatorAt_31 ?_
        exact hret _ _ ⟨rfl, Or.inl ⟨j, by rw [ix_n hj, if_pos c9], rfl⟩⟩
theorem c_X7_isOperator {n fc jb : Nat} (h0 : w 0 = .inr (7, jF ad n fc jb)) (hOA : isOA t ad w) (hn : n ≤ 12) (hN : 132 ≤ N) (i : Int32) :
    K l t yX7_isOperator cX7_isOperator 2 (some .boolean) (rD 1) N ad w [.ref (ad 0), .int i]
      (fun res w' => w = w' ∧ res = some (.int (nI (bN (ix n i).isSome)))) := by
  refine K.of (own := RX7) (lv := [(0, .ref (ad 0)), (1, .int i)]) (by decide +kernel) rfl (Nat.le_of_ble_eq_true rfl) rfl (fun P post hret => ?_)
  refine G.aload_n 0 rfl rfl dX7_isOperator_0 ?_
  refine G.iload_n 1 rfl rfl dX7_isOperator_1 ?_
  refine G.callV (n := 1) 0 (c_X7_operatorAt h0 hOA hn hN i) rfl (by omega) h0 rfl tb_308 tb_310 tb_3 tb_33 tb_311 (by decide +kernel) rfl ⟨(Nat.le_of_ble_eq_true rfl), (Nat.le_of_ble_eq_true rfl)⟩ ⟨rfl, rfl⟩ (Nat.le_of_ble_eq_true rfl) ⟨Nat.zero_le _, Nat.zero_le _⟩ dX7_isOperator_2 (fun gr2 gw1 hp => ?_)
  obtain ⟨rfl, zc⟩ := hp
  rcases zc with ⟨j, zj, rfl⟩ | ⟨zj, rfl⟩
  · skip
    refine G.ifnull dX7_isOperator_5 ?_
    refine G.iconst (v := nI 1) dX7_isOperator_8 (by decide +kernel) ?_
    refine G.goto 13 dX7_isOperator_9 rfl ?_
    refine G.zret rfl (by decide) rfl rfl dX7_isOperator_13 ?_
    exact hret _ _ ⟨rfl, by rw [zj]; rfl⟩
  · skip
    refine G.ifnullN 12 dX7_isOperator_5 rfl ?_
    refine G.iconst (v := nI 0) dX7_isOperator_12 (by decide +kernel) ?_
    refine G.zret rfl (by decide) rfl rfl dX7_isOperator_13 ?_
    exact hret _ _ ⟨rfl, by rw [zj]; rfl⟩
theorem c_X7_forgetJudged {n fc jb : Nat} (h0 : w 0 = .inr (7, jF ad n fc jb)) (hC : isCmp t ad w 15 df) (hN : 132 ≤ N) :
    K l t yX7_forgetJudged cX7_forgetJudged 1 none (rD 1) N ad w [.ref (ad 0)]
      (fun res w' => res = none ∧ w' 0 = .inr (7, jF ad n fc 0) ∧ isCmp t ad w' 15 none ∧ ∀ i, i ≠ 0 → i ≠ 15 → w' i = w i) := by
  obtain ⟨d, pl, tm, ky, c0, -⟩ := hC
  refine K.of (own := RX7) (lv := [(0, .ref (ad 0))]) (by decide +kernel) rfl (Nat.le_of_ble_eq_true rfl) rfl (fun P post hret => ?_)
  refine G.aload_n 0 rfl rfl dX7_forgetJudged_0 ?_
  refine G.iconst (v := nI 0) dX7_forgetJudged_1 (by decide +kernel) ?_
  refine G.put 0 (by omega) h0 rfl twX7 7 (by decide) tyX7 tyX7_ok nmX7 tb_221 rfl rfl (tyX7_ok 7 (by decide)) (nb_n (Or.inl nI_0)) (nb_f (Or.inl nI_0)) (Nat.le_of_ble_eq_true rfl) dX7_forgetJudged_2 (fun gw1 gh2 gf3 => ?_)
  refine G.aload_n 0 rfl rfl dX7_forgetJudged_5 ?_
  refine G.get 0 (by omega) gh2 rfl twX7 4 (by decide) tb_218 rfl rfl dX7_forgetJudged_6 ?_
  have gh4 := (gf3 15 (by omega)).trans c0
  have zc := gh4
  refine G.callV (n := 0) 15 (c_X1_forget (k := 15) zc (by omega)) rfl (by omega) gh4 rfl tb_296 tb_297 tb_298 tb_38 tb_299 (by decide +kernel) rfl ⟨(Nat.le_of_ble_eq_true rfl), (Nat.le_of_ble_eq_true rfl)⟩ ⟨rfl, rfl⟩ (Nat.le_of_ble_eq_true rfl) ⟨Nat.zero_le _, Nat.zero_le _⟩ dX7_forgetJudged_9 (fun gr5 zw hp => ?_)
  obtain ⟨rfl, z1, hf⟩ := hp
  refine G.vret rfl rfl rfl dX7_forgetJudged_12 ?_
  have gh6 := (hf 0 (by omega)).trans gh2
  have z0 := gh6
  exact hret _ _ ⟨rfl, z0, isCmp.none z1, fun i i1 i2 => (hf i i2).trans (gf3 i i1)⟩
theorem c_X7_refusalToShow {n fc jb i : Nat} {kd p q a b u z x : Int32} (h0 : w 0 = .inr (7, jF ad n fc jb)) (h1 : w (24 + 9 * i) = .inr (2, opF ad (24 + 9 * i) kd p q a b u z x)) (hi : i < 12) (hN : 132 ≤ N) (hjb : jb < 2) :
    K l t yX7_refusalToShow cX7_refusalToShow 2 (some .int) (rD 0) N ad w [.ref (ad 0), .ref (ad (24 + 9 * i))]
      (fun res w' => w = w' ∧ res = some (.int (if jb = 0 then -3 else if u = 0 then nI 0 else -6))) := by
  refine K.of (own := RX7) (lv := [(0, .ref (ad 0)), (1, .ref (ad (24 + 9 * i)))]) (by decide +kernel) rfl (Nat.le_of_ble_eq_true rfl) rfl (fun P post hret => ?_)
  refine G.aload_n 1 rfl rfl dX7_refusalToShow_0 ?_
  refine G.ifnonnull 6 dX7_refusalToShow_1 rfl ?_
  refine G.aload_n 0 rfl rfl dX7_refusalToShow_6 ?_
  refine G.get 0 (by omega) h0 rfl twX7 7 (by decide) tb_221 rfl rfl dX7_refusalToShow_7 ?_
  refine G.nif_ne 16 dX7_refusalToShow_10 rfl (by omega) (fun c10 => ?_) (fun c10 => ?_)
  · skip
    refine G.aload_n 1 rfl rfl dX7_refusalToShow_16 ?_
    refine G.getN (24 + 9 * i) (by omega) h1 rfl twX2 7 (by decide) _ (List.mem_of_getElem? (i := 10) rfl) rfl rfl rfl dX7_refusalToShow_17 ?_
    refine G.if_eq 28 dX7_refusalToShow_20 rfl (fun c20 => ?_) (fun c20 => ?_)
    · skip
      refine G.iconst (v := nI 0) dX7_refusalToShow_28 (by decide +kernel) ?_
      refine G.iret rfl rfl rfl dX7_refusalToShow_29 ?_
      exact hret _ _ ⟨rfl, by rw [if_neg (by omega), if_pos c20]⟩
    · skip
      refine G.bipush (v := -6) dX7_refusalToShow_23 (by decide +kernel) ?_
      refine G.goto 29 dX7_refusalToShow_25 rfl ?_
      refine G.iret rfl rfl rfl dX7_refusalToShow_29 ?_
      exact hret _ _ ⟨rfl, by rw [if_neg (by omega), if_neg c20]⟩
  · skip
    refine G.bipush (v := -3) dX7_refusalToShow_13 (by decide +kernel) ?_
    refine G.iret rfl rfl rfl dX7_refusalToShow_15 ?_
    exact hret _ _ ⟨rfl, by rw [if_pos c10]⟩
theorem c_X7_row (hC : isC t ad w A I O Td jd J fc df) (hN : 132 ≤ N) (s ti y v z : Int32) (hz : z = 0 ∨ z = 1) :
    K l t yX7_row cX7_row 6 (some .int) (rD 1) N ad w [.ref (ad 0), .int s, .int ti, .int y, .int v, .int z]
      (fun res w' => res = some (.int (if rowOK s ti y v = true then (if A.length < 60 then nI A.length else -2) else -1)) ∧ isC t ad w' (if rowOK s ti y v = true ∧ A.length < 60 then A ++ [(s, ti, y, v, z)] else A) I O Td jd J fc df ∧ ∀ i, 132 ≤ i → w' i = w i) := by
  have zC := hC
  obtain ⟨c0, cA, cT, cOA, cP, cC, cCR, cO, cw, cd⟩ := hC
  refine K.of (own := RX7) (lv := [(0, .ref (ad 0)), (1, .int s), (2, .int ti), (3, .int y), (4, .int v), (5, .int z)]) (by decide +kernel) rfl (Nat.le_of_ble_eq_true rfl) rfl (fun P post hret => ?_)
  have bad : rowOK s ti y v = false → G l t (rD 1) P cX7_row 6 RX7 (some .int) post 0 0 N ad 0 0 41 [(0, .ref (ad 0)), (1, .int s), (2, .int ti), (3, .int y), (4, .int v), (5, .int z)] [] w := by
    intro zb
    rw [zb] at hret
    refine G.iconst (v := -1) dX7_row_41 (by decide +kernel) ?_
    refine G.iret rfl rfl rfl dX7_row_42 ?_
    exact hret _ _ ⟨rfl, by simpa using zC, fun _ _ => rfl⟩
  refine G.iload_n 1 rfl rfl dX7_row_0 ?_
  refine G.iconst (v := nI 0) dX7_row_1 (by decide +kernel) ?_
  refine G.iconst (v := nI 2) dX7_row_2 (by decide +kernel) ?_
  refine G.callS (n := 3) (c_X7_within s (nI 0) (nI 2)) rfl tb_243 tb_244 tb_33 tb_245 (by decide +kernel) rfl ⟨(Nat.le_of_ble_eq_true rfl), (Nat.le_of_ble_eq_true rfl)⟩ ⟨rfl, rfl⟩ (Nat.le_of_ble_eq_true rfl) ⟨Nat.zero_le _, Nat.zero_le _⟩ dX7_row_3 (fun gr2 gw1 hp => ?_)
  obtain ⟨rfl, rfl⟩ := hp
  cases z1 : wi s (nI 0) (nI 2)
  · skip
    refine G.nif_eq 41 dX7_row_6 rfl (by decide) (fun _ => ?_) (fun zz => absurd zz (by decide))
    exact bad (by rw [rowOK, z1]; rfl)
  · skip
    refine G.nif_eq 41 dX7_row_6 rfl (by decide) (fun zz => absurd zz (by decide)) (fun _ => ?_)
    refine G.iload_n 2 rfl rfl dX7_row_9 ?_
    refine G.iconst (v := nI 0) dX7_row_10 (by decide +kernel) ?_
    refine G.sipush (v := nI 999) dX7_row_11 (by decide +kernel) ?_
    refine G.callS (n := 3) (c_X7_within ti (nI 0) (nI 999)) rfl tb_243 tb_244 tb_33 tb_245 (by decide +kernel) rfl ⟨(Nat.le_of_ble_eq_true rfl), (Nat.le_of_ble_eq_true rfl)⟩ ⟨rfl, rfl⟩ (Nat.le_of_ble_eq_true rfl) ⟨Nat.zero_le _, Nat.zero_le _⟩ dX7_row_14 (fun gr4 gw3 hp => ?_)
    obtain ⟨rfl, rfl⟩ := hp
    cases z2 : wi ti (nI 0) (nI 999)
    · skip
      refine G.nif_eq 41 dX7_row_17 rfl (by decide) (fun _ => ?_) (fun zz => absurd zz (by decide))
      exact bad (by rw [rowOK, z1, z2]; rfl)
    · skip
      refine G.nif_eq 41 dX7_row_17 rfl (by decide) (fun zz => absurd zz (by decide)) (fun _ => ?_)
      refine G.iload_n 3 rfl rfl dX7_row_20 ?_
      refine G.iconst (v := nI 0) dX7_row_21 (by decide +kernel) ?_
      refine G.iconst (v := nI 5) dX7_row_22 (by decide +kernel) ?_
      refine G.callS (n := 3) (c_X7_within y (nI 0) (nI 5)) rfl tb_243 tb_244 tb_33 tb_245 (by decide +kernel) rfl ⟨(Nat.le_of_ble_eq_true rfl), (Nat.le_of_ble_eq_true rfl)⟩ ⟨rfl, rfl⟩ (Nat.le_of_ble_eq_true rfl) ⟨Nat.zero_le _, Nat.zero_le _⟩ dX7_row_23 (fun gr6 gw5 hp => ?_)
      obtain ⟨rfl, rfl⟩ := hp
      cases z3 : wi y (nI 0) (nI 5)
      · skip
        refine G.nif_eq 41 dX7_row_26 rfl (by decide) (fun _ => ?_) (fun zz => absurd zz (by decide))
        exact bad (by rw [rowOK, z1, z2, z3]; rfl)
      · skip
        refine G.nif_eq 41 dX7_row_26 rfl (by decide) (fun zz => absurd zz (by decide)) (fun _ => ?_)
        refine G.iload 4 rfl dX7_row_29 ?_
        refine G.ldc dX7_row_31 tb_246 ?_
        refine G.ldc dX7_row_33 tb_247 ?_
        refine G.callS (n := 3) (c_X7_within v (-1000000) 1000000) rfl tb_243 tb_244 tb_33 tb_245 (by decide +kernel) rfl ⟨(Nat.le_of_ble_eq_true rfl), (Nat.le_of_ble_eq_true rfl)⟩ ⟨rfl, rfl⟩ (Nat.le_of_ble_eq_true rfl) ⟨Nat.zero_le _, Nat.zero_le _⟩ dX7_row_35 (fun gr8 gw7 hp => ?_)
        obtain ⟨rfl, rfl⟩ := hp
        cases z4 : wi v (-1000000) 1000000
        · skip
          refine G.nif_ne 43 dX7_row_38 rfl (by decide) (fun zz => absurd zz (by decide)) (fun _ => ?_)
          exact bad (by rw [rowOK, z1, z2, z3, z4]; rfl)
        · skip
          have zok : rowOK s ti y v = true := by rw [rowOK, z1, z2, z3, z4]; rfl
          rw [zok] at hret
          refine G.nif_ne 43 dX7_row_38 rfl (by decide) (fun _ => ?_) (fun zz => absurd zz (by decide))
          refine G.aload_n 0 rfl rfl dX7_row_43 ?_
          refine G.get 0 (by omega) c0 rfl twX7 0 (by decide) tb_214 rfl rfl dX7_row_44 ?_
          refine G.iload_n 1 rfl rfl dX7_row_47 ?_
          refine G.iload_n 2 rfl rfl dX7_row_48 ?_
          refine G.iload_n 3 rfl rfl dX7_row_49 ?_
          refine G.iload 4 rfl dX7_row_50 ?_
          refine G.iload 5 rfl dX7_row_52 ?_
          refine G.callV (n := 5) 1 (c_X0_take (k := 1) cA (by omega) s ti y v z hz) rfl (by omega) cA.obj.1 rfl tb_248 tb_249 tb_250 tb_34 tb_251 (by decide +kernel) rfl ⟨(Nat.le_of_ble_eq_true rfl), (Nat.le_of_ble_eq_true rfl)⟩ ⟨rfl, rfl⟩ (Nat.le_of_ble_eq_true rfl) ⟨Nat.zero_le _, Nat.zero_le _⟩ dX7_row_54 (fun gr9 zw hp => ?_)
          obtain ⟨rfl, hA2, hf⟩ := hp
          have mk : ∀ A' : List AR, isArr t ad zw 1 A' → okS A' O fc → isC t ad zw A' I O Td jd J fc df := fun A' h1 h2 => ⟨(hf 0 (by omega)).trans c0, h1, cT.keep (fun i i1 i2 => hf i (by omega)), cOA.keep (hf 9 (by omega)), cP.keep (fun i i1 i2 => hf i (by omega)), cC.keep (hf 15 (by omega)), cCR.keep (fun i i1 i2 => hf i (by omega)), cO.keep (fun i i1 i2 => hf i (by omega)), h2, cd⟩
          by_cases zl : A.length < 60
          · skip
            rw [if_pos zl] at hA2 ⊢
            refine G.if_eq 72 dX7_row_57 rfl (fun c57 => ?_) (fun c57 => ?_)
            · skip
              exact absurd c57 (by decide)
            · skip
              refine G.aload_n 0 rfl rfl dX7_row_60 ?_
              have gh10 := (hf 0 (by omega)).trans c0
              refine G.get 0 (by omega) gh10 rfl twX7 0 (by decide) tb_214 rfl rfl dX7_row_61 ?_
              refine G.callV (n := 0) 1 (c_X0_size (k := 1) hA2 (by omega)) rfl (by omega) hA2.obj.1 rfl tb_252 tb_253 tb_254 tb_34 tb_255 (by decide +kernel) rfl ⟨(Nat.le_of_ble_eq_true rfl), (Nat.le_of_ble_eq_true rfl)⟩ ⟨rfl, rfl⟩ (Nat.le_of_ble_eq_true rfl) ⟨Nat.zero_le _, Nat.zero_le _⟩ dX7_row_64 (fun gr12 gw11 hp => ?_)
              obtain ⟨rfl, rfl⟩ := hp
              refine G.topi (nI (A.length + 1)) ((by rw [List.length_append]; rfl)) ?_
              refine G.iconst (v := nI 1) dX7_row_67 (by decide +kernel) ?_
              refine G.isub dX7_row_68 ?_
              refine G.topi (nI A.length) (pk_sub (by omega)) ?_
              refine G.goto 74 dX7_row_69 rfl ?_
              refine G.iret rfl rfl rfl dX7_row_74 ?_
              refine hret _ _ ⟨by rw [if_pos rfl, if_pos zl], ?_, fun i hi => hf i (by omega)⟩
              rw [if_pos ⟨rfl, zl⟩]
              refine mk _ hA2 ⟨by rw [List.length_append]; simp; omega, cw.2.1, cw.2.2.1, cw.2.2.2.1, fun i hi => ?_⟩
              rw [List.length_append] at hi
              simp at hi
              by_cases q : i < A.length
              · rw [List.getD_eq_getElem?_getD, List.getElem?_append_left q, ← List.getD_eq_getElem?_getD]; exact cw.2.2.2.2 i q
              · have e : i = A.length := by omega
                subst e
                obtain ⟨tn, t1, t2⟩ := wi_so (by omega) z2
                obtain ⟨yn, y1, y2⟩ := wi_so (by omega) z3
                rw [List.getD_eq_getElem?_getD, List.getElem?_append_right (Nat.le_refl _), Nat.sub_self]
                exact ⟨hz, tn, yn, by omega, by omega, t2, y2⟩
          · skip
            rw [if_neg zl] at hA2 ⊢
            refine G.if_eq 72 dX7_row_57 rfl (fun c57 => ?_) (fun c57 => ?_)
            · skip
              refine G.bipush (v := -2) dX7_row_72 (by decide +kernel) ?_
              refine G.iret rfl rfl rfl dX7_row_74 ?_
              refine hret _ _ ⟨by rw [if_pos rfl, if_neg zl], ?_, fun i hi => hf i (by omega)⟩
              rw [if_neg (fun q => zl q.2)]
              exact mk _ hA2 cw
            · skip
              exact absurd rfl c57
end TopA

