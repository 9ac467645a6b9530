/-! OnePassJudge: what is shown, told, compared, counted, cleared -/
section TopC
variable {l : Launch} {t : TT} {N : Nat} {ad : Nat → Nat} {w : Nat → va_E} {A : List AR} {I : Nat → Int32} {O : List OD} {Td : Nat → List RW} {jd : Bool} {J : Nat → JR} {fc : Nat} {df : DF}
theorem c_X7_refusalN {n fc jb : Nat} (h0 : w 0 = .inr (7, jF ad n fc jb)) (hN : 132 ≤ N) :
    K l t yX7_refusalToShow cX7_refusalToShow 2 (some .int) (rD 0) N ad w [.ref (ad 0), .null]
      (fun res w' => w = w' ∧ res = some (.int (-1))) := by
  refine K.of (own := RX7) (lv := [(0, .ref (ad 0)), (1, .null)]) (by decide +kernel) rfl (Nat.le_of_ble_eq_true rfl) rfl (fun P post hret => ?_)
  refine G.aload_nN 1 rfl rfl dX7_refusalToShow_0 ?_
  refine G.ifnonnullN dX7_refusalToShow_1 ?_
  refine G.iconst (v := -1) dX7_refusalToShow_4 (by decide +kernel) ?_
  refine G.iret rfl rfl rfl dX7_refusalToShow_5 ?_
  exact hret _ _ ⟨rfl, rfl⟩
theorem c_X7_rows (hC : isC t ad w A I O Td jd J fc df) (hN : 132 ≤ N) (op : Int32) :
    K l t yX7_rows cX7_rows 4 (some .int) (rD 1) N ad w [.ref (ad 0), .int op]
      (fun res w' => w = w' ∧ res = some (.int (sRows O jd J op))) := by
  have zC := hC
  obtain ⟨c0, cA, cT, cOA, cP, cC, cCR, cOps, cw, cd⟩ := hC
  have z12 := cw.2.1
  have z6k := cw.2.2.1
  refine K.of (own := RX7) (lv := [(0, .ref (ad 0)), (1, .int op)]) (by decide +kernel) rfl (Nat.le_of_ble_eq_true rfl) rfl (fun P post hret => ?_)
  refine G.aload_n 0 rfl rfl dX7_rows_0 ?_
  refine G.iload_n 1 rfl rfl dX7_rows_1 ?_
  refine G.callV (n := 1) 0 (c_X7_operatorAt c0 cOA cw.2.1 hN op) rfl (by omega) c0 rfl tb_308 tb_310 tb_3 tb_33 tb_311 (by decide +kernel) rfl ⟨(Nat.le_of_ble_eq_true rfl), (Nat.le_of_ble_eq_true rfl)⟩ ⟨rfl, rfl⟩ (Nat.le_of_ble_eq_true rfl) ⟨Nat.zero_le _, Nat.zero_le _⟩ dX7_rows_2 (fun gr2 gw1 hp => ?_)
  obtain ⟨rfl, zc⟩ := hp
  rcases zc with ⟨j, zj, rfl⟩ | ⟨zj, rfl⟩
  · skip
    obtain ⟨zj1, zj2, rfl⟩ := ix_some zj
    obtain ⟨kd, p, q, a, b, u, z, x, G1, ⟨g0, g1, g2⟩, g3⟩ := cOps j (by have := cw.2.1; omega)
    obtain ⟨-, g4⟩ := g3 zj1
    refine G.astore_n [(2, .ref (ad (24 + 9 * j))), (0, .ref (ad 0)), (1, .int (nI j))] dX7_rows_5 rfl (by decide) rfl ?_
    refine G.aload_n 1 rfl rfl dX7_rows_6 ?_
    refine G.aload_n 0 rfl rfl dX7_rows_7 ?_
    refine G.callV (n := 1) 0 (c_X7_refusalToShow c0 g0 (by have := cw.2.1; omega) hN (jb_cases jd)) rfl (by omega) c0 rfl tb_488 tb_490 tb_10 tb_33 tb_491 (by decide +kernel) rfl ⟨(Nat.le_of_ble_eq_true rfl), (Nat.le_of_ble_eq_true rfl)⟩ ⟨rfl, rfl⟩ (Nat.le_of_ble_eq_true rfl) ⟨Nat.zero_le _, Nat.zero_le _⟩ dX7_rows_8 (fun gr4 gw3 hp => ?_)
    obtain ⟨rfl, rfl⟩ := hp
    cases jd
    · skip
      rw [if_pos (show bN false = 0 from rfl)]
      refine G.istore_n [(3, .int (-3)), (2, .ref (ad (24 + 9 * j))), (0, .ref (ad 0)), (1, .int (nI j))] dX7_rows_11 rfl (by decide) rfl ?_
      refine G.aload_n 1 rfl rfl dX7_rows_12 ?_
      refine G.ifnull dX7_rows_13 ?_
      refine G.iload_n 0 rfl rfl dX7_rows_16 ?_
      refine G.if_eq 24 dX7_rows_17 rfl (fun c17 => ?_) (fun c17 => ?_)
      · skip
        exact absurd c17 (by decide)
      · skip
        refine G.iload_n 0 rfl rfl dX7_rows_20 ?_
        refine G.goto 31 dX7_rows_21 rfl ?_
        refine G.iret rfl rfl rfl dX7_rows_31 ?_
        exact hret _ _ ⟨rfl, by simp only [sRows, zj]; rfl⟩
    · skip
      obtain ⟨g5, g6, g7, g8⟩ := g4 rfl
      rw [if_neg (show ¬ bN true = 0 by decide)]
      cases zu : (J j).1
      · skip
        rw [zu, if_neg (by decide)] at g5
        subst g5
        rw [if_pos nI_0]
        refine G.istore_n [(3, .int (nI 0)), (2, .ref (ad (24 + 9 * j))), (0, .ref (ad 0)), (1, .int (nI j))] dX7_rows_11 rfl (by decide) rfl ?_
        refine G.aload_n 1 rfl rfl dX7_rows_12 ?_
        refine G.ifnull dX7_rows_13 ?_
        refine G.iload_n 0 rfl rfl dX7_rows_16 ?_
        refine G.nif_eq 24 dX7_rows_17 rfl (by decide) (fun _ => ?_) (fun zz => absurd zz (by decide))
        refine G.aload_n 1 rfl rfl dX7_rows_24 ?_
        refine G.getN (24 + 9 * j) (by omega) g0 rfl twX2 0 (by decide) _ (List.mem_of_getElem? (i := 1) rfl) rfl rfl rfl dX7_rows_25 ?_
        refine G.callV (n := 0) (24 + 9 * j + 1) (c_X4_size g1 (by omega)) rfl (by omega) g1.obj rfl tb_492 tb_377 tb_378 tb_39 tb_379 (by decide +kernel) rfl ⟨(Nat.le_of_ble_eq_true rfl), (Nat.le_of_ble_eq_true rfl)⟩ ⟨rfl, rfl⟩ (Nat.le_of_ble_eq_true rfl) ⟨Nat.zero_le _, Nat.zero_le _⟩ dX7_rows_28 (fun gr6 gw5 hp => ?_)
        obtain ⟨rfl, rfl⟩ := hp
        refine G.iret rfl rfl rfl dX7_rows_31 ?_
        exact hret _ _ ⟨rfl, by simp only [sRows, zj, shw, zu, g6]; rfl⟩
      · skip
        rw [zu, if_pos rfl] at g5
        subst g5
        rw [if_neg (show ¬ nI 1 = 0 by decide)]
        refine G.istore_n [(3, .int (-6)), (2, .ref (ad (24 + 9 * j))), (0, .ref (ad 0)), (1, .int (nI j))] dX7_rows_11 rfl (by decide) rfl ?_
        refine G.aload_n 1 rfl rfl dX7_rows_12 ?_
        refine G.ifnull dX7_rows_13 ?_
        refine G.iload_n 0 rfl rfl dX7_rows_16 ?_
        refine G.if_eq 24 dX7_rows_17 rfl (fun c17 => ?_) (fun c17 => ?_)
        · skip
          exact absurd c17 (by decide)
        · skip
          refine G.iload_n 0 rfl rfl dX7_rows_20 ?_
          refine G.goto 31 dX7_rows_21 rfl ?_
          refine G.iret rfl rfl rfl dX7_rows_31 ?_
          exact hret _ _ ⟨rfl, by simp only [sRows, zj, shw, zu]; rfl⟩
  · skip
    refine G.astore_nN [(2, .null), (0, .ref (ad 0)), (1, .int op)] dX7_rows_5 rfl (by decide) rfl ?_
    refine G.aload_n 1 rfl rfl dX7_rows_6 ?_
    refine G.aload_nN 0 rfl rfl dX7_rows_7 ?_
    refine G.callV (n := 1) 0 (c_X7_refusalN c0 hN) rfl (by omega) c0 rfl tb_488 tb_490 tb_10 tb_33 tb_491 (by decide +kernel) rfl ⟨(Nat.le_of_ble_eq_true rfl), (Nat.le_of_ble_eq_true rfl)⟩ ⟨rfl, rfl⟩ (Nat.le_of_ble_eq_true rfl) ⟨Nat.zero_le _, Nat.zero_le _⟩ dX7_rows_8 (fun gr8 gw7 hp => ?_)
    obtain ⟨rfl, rfl⟩ := hp
    refine G.istore_n [(3, .int (-1)), (2, .null), (0, .ref (ad 0)), (1, .int op)] dX7_rows_11 rfl (by decide) rfl ?_
    refine G.aload_nN 1 rfl rfl dX7_rows_12 ?_
    refine G.ifnullN 20 dX7_rows_13 rfl ?_
    refine G.iload_n 0 rfl rfl dX7_rows_20 ?_
    refine G.goto 31 dX7_rows_21 rfl ?_
    refine G.iret rfl rfl rfl dX7_rows_31 ?_
    exact hret _ _ ⟨rfl, by rw [sRows, zj]⟩
theorem c_X7_value (hC : isC t ad w A I O Td jd J fc df) (hN : 132 ≤ N) (op i : Int32) :
    K l t yX7_value cX7_value 4 (some .long) (rD 1) N ad w [.ref (ad 0), .int op, .int i]
      (fun res w' => w = w' ∧ res = some (.long (sValue O jd J op i))) := by
  have zC := hC
  obtain ⟨c0, cA, cT, cOA, cP, cC, cCR, cOps, cw, cd⟩ := hC
  have z12 := cw.2.1
  have z6k := cw.2.2.1
  refine K.of (own := RX7) (lv := [(0, .ref (ad 0)), (1, .int op), (2, .int i)]) (by decide +kernel) rfl (Nat.le_of_ble_eq_true rfl) rfl (fun P post hret => ?_)
  refine G.aload_n 0 rfl rfl dX7_value_0 ?_
  refine G.iload_n 1 rfl rfl dX7_value_1 ?_
  refine G.callV (n := 1) 0 (c_X7_operatorAt c0 cOA cw.2.1 hN op) rfl (by omega) c0 rfl tb_308 tb_310 tb_3 tb_33 tb_311 (by decide +kernel) rfl ⟨(Nat.le_of_ble_eq_true rfl), (Nat.le_of_ble_eq_true rfl)⟩ ⟨rfl, rfl⟩ (Nat.le_of_ble_eq_true rfl) ⟨Nat.zero_le _, Nat.zero_le _⟩ dX7_value_2 (fun gr2 gw1 hp => ?_)
  obtain ⟨rfl, zc⟩ := hp
  rcases zc with ⟨j, zj, rfl⟩ | ⟨zj, rfl⟩
  · skip
    obtain ⟨zj1, zj2, rfl⟩ := ix_some zj
    obtain ⟨kd, p, q, a, b, u, z, x, G1, ⟨g0, g1, g2⟩, g3⟩ := cOps j (by have := cw.2.1; omega)
    obtain ⟨-, g4⟩ := g3 zj1
    refine G.astore_n [(3, .ref (ad (24 + 9 * j))), (0, .ref (ad 0)), (1, .int (nI j)), (2, .int i)] dX7_value_5 rfl (by decide) rfl ?_
    refine G.aload_n 0 rfl rfl dX7_value_6 ?_
    refine G.ifnull dX7_value_7 ?_
    refine G.aload_n 1 rfl rfl dX7_value_10 ?_
    refine G.aload_n 0 rfl rfl dX7_value_11 ?_
    refine G.callV (n := 1) 0 (c_X7_refusalToShow c0 g0 (by have := cw.2.1; omega) hN (jb_cases jd)) rfl (by omega) c0 rfl tb_488 tb_490 tb_10 tb_33 tb_491 (by decide +kernel) rfl ⟨(Nat.le_of_ble_eq_true rfl), (Nat.le_of_ble_eq_true rfl)⟩ ⟨rfl, rfl⟩ (Nat.le_of_ble_eq_true rfl) ⟨Nat.zero_le _, Nat.zero_le _⟩ dX7_value_12 (fun gr4 gw3 hp => ?_)
    obtain ⟨rfl, rfl⟩ := hp
    cases jd
    · skip
      rw [if_pos (show bN false = 0 from rfl)]
      refine G.if_eq 22 dX7_value_15 rfl (fun c15 => ?_) (fun c15 => ?_)
      · skip
        exact absurd c15 (by decide)
      · skip
        refine G.lconst (v := 0) dX7_value_18 (by decide +kernel) ?_
        refine G.goto 30 dX7_value_19 rfl ?_
        refine G.lret rfl rfl rfl dX7_value_30 ?_
        exact hret _ _ ⟨rfl, by simp only [sValue, zj]; rw [if_neg (fun q => by cases q.1)]⟩
    · skip
      obtain ⟨g5, g6, g7, g8⟩ := g4 rfl
      rw [if_neg (show ¬ bN true = 0 by decide)]
      cases zu : (J j).1
      · skip
        rw [zu, if_neg (by decide)] at g5
        subst g5
        rw [if_pos nI_0]
        refine G.nif_eq 22 dX7_value_15 rfl (by decide) (fun _ => ?_) (fun zz => absurd zz (by decide))
        refine G.aload_n 0 rfl rfl dX7_value_22 ?_
        refine G.getN (24 + 9 * j) (by omega) g0 rfl twX2 0 (by decide) _ (List.mem_of_getElem? (i := 1) rfl) rfl rfl rfl dX7_value_23 ?_
        refine G.iload_n 3 rfl rfl dX7_value_26 ?_
        refine G.callV (n := 1) (24 + 9 * j + 1) (c_X4_valueAt g1 (by omega) (by decide) i) rfl (by omega) g1.obj rfl tb_503 tb_381 tb_382 tb_39 tb_383 (by decide +kernel) rfl ⟨(Nat.le_of_ble_eq_true rfl), (Nat.le_of_ble_eq_true rfl)⟩ ⟨rfl, rfl⟩ (Nat.le_of_ble_eq_true rfl) ⟨Nat.zero_le _, Nat.zero_le _⟩ dX7_value_27 (fun gr6 gw5 hp => ?_)
        obtain ⟨rfl, rfl⟩ := hp
        refine G.lret rfl rfl rfl dX7_value_30 ?_
        exact hret _ _ ⟨rfl, by simp [sValue, zj, zu, ← g6]⟩
      · skip
        rw [zu, if_pos rfl] at g5
        subst g5
        rw [if_neg (show ¬ nI 1 = 0 by decide)]
        refine G.if_eq 22 dX7_value_15 rfl (fun c15 => ?_) (fun c15 => ?_)
        · skip
          exact absurd c15 (by decide)
        · skip
          refine G.lconst (v := 0) dX7_value_18 (by decide +kernel) ?_
          refine G.goto 30 dX7_value_19 rfl ?_
          refine G.lret rfl rfl rfl dX7_value_30 ?_
          exact hret _ _ ⟨rfl, by simp only [sValue, zj]; rw [if_neg (fun q => by rw [zu] at q; cases q.2)]⟩
  · skip
    refine G.astore_nN [(3, .null), (0, .ref (ad 0)), (1, .int op), (2, .int i)] dX7_value_5 rfl (by decide) rfl ?_
    refine G.aload_nN 0 rfl rfl dX7_value_6 ?_
    refine G.ifnullN 18 dX7_value_7 rfl ?_
    refine G.lconst (v := 0) dX7_value_18 (by decide +kernel) ?_
    refine G.goto 30 dX7_value_19 rfl ?_
    refine G.lret rfl rfl rfl dX7_value_30 ?_
    exact hret _ _ ⟨rfl, by simp only [sValue, zj]⟩
theorem c_X7_told (hC : isC t ad w A I O Td jd J fc df) (hN : 132 ≤ N) (op i what : Int32) :
    K l t yX7_told cX7_told 6 (some .int) (rD 1) N ad w [.ref (ad 0), .int op, .int i, .int what]
      (fun res w' => w = w' ∧ res = some (.int (sTold O jd J op i what))) := by
  have zC := hC
  obtain ⟨c0, cA, cT, cOA, cP, cC, cCR, cOps, cw, cd⟩ := hC
  have z12 := cw.2.1
  have z6k := cw.2.2.1
  refine K.of (own := RX7) (lv := [(0, .ref (ad 0)), (1, .int op), (2, .int i), (3, .int what)]) (by decide +kernel) rfl (Nat.le_of_ble_eq_true rfl) rfl (fun P post hret => ?_)
  refine G.aload_n 0 rfl rfl dX7_told_0 ?_
  refine G.iload_n 1 rfl rfl dX7_told_1 ?_
  refine G.callV (n := 1) 0 (c_X7_operatorAt c0 cOA cw.2.1 hN op) rfl (by omega) c0 rfl tb_308 tb_310 tb_3 tb_33 tb_311 (by decide +kernel) rfl ⟨(Nat.le_of_ble_eq_true rfl), (Nat.le_of_ble_eq_true rfl)⟩ ⟨rfl, rfl⟩ (Nat.le_of_ble_eq_true rfl) ⟨Nat.zero_le _, Nat.zero_le _⟩ dX7_told_2 (fun gr2 gw1 hp => ?_)
  obtain ⟨rfl, zc⟩ := hp
  rcases zc with ⟨j, zj, rfl⟩ | ⟨zj, rfl⟩
  · skip
    obtain ⟨zj1, zj2, rfl⟩ := ix_some zj
    obtain ⟨kd, p, q, a, b, u, z, x, G1, ⟨g0, g1, g2⟩, g3⟩ := cOps j (by have := cw.2.1; omega)
    obtain ⟨-, g4⟩ := g3 zj1
    refine G.astore [(4, .ref (ad (24 + 9 * j))), (0, .ref (ad 0)), (1, .int (nI j)), (2, .int i), (3, .int what)] dX7_told_5 (by decide) rfl ?_
    refine G.aload 0 rfl dX7_told_7 ?_
    refine G.ifnull dX7_told_9 ?_
    refine G.iload_n 4 rfl rfl dX7_told_12 ?_
    refine G.iconst (v := nI 0) dX7_told_13 (by decide +kernel) ?_
    refine G.iconst (v := nI 1) dX7_told_14 (by decide +kernel) ?_
    refine G.callS (n := 3) (c_X7_within what (nI 0) (nI 1)) rfl tb_243 tb_244 tb_33 tb_245 (by decide +kernel) rfl ⟨(Nat.le_of_ble_eq_true rfl), (Nat.le_of_ble_eq_true rfl)⟩ ⟨rfl, rfl⟩ (Nat.le_of_ble_eq_true rfl) ⟨Nat.zero_le _, Nat.zero_le _⟩ dX7_told_15 (fun gr4 gw3 hp => ?_)
    obtain ⟨rfl, rfl⟩ := hp
    cases zw1 : wi what (nI 0) (nI 1)
    · skip
      refine G.nif_ne 23 dX7_told_18 rfl (by decide) (fun zz => absurd zz (by decide)) (fun _ => ?_)
      refine G.iconst (v := -1) dX7_told_21 (by decide +kernel) ?_
      refine G.iret rfl rfl rfl dX7_told_22 ?_
      exact hret _ _ ⟨rfl, by simp only [sTold, zj, zw1]; rfl⟩
    · skip
      refine G.nif_ne 23 dX7_told_18 rfl (by decide) (fun _ => ?_) (fun zz => absurd zz (by decide))
      refine G.aload_n 1 rfl rfl dX7_told_23 ?_
      refine G.aload 0 rfl dX7_told_24 ?_
      refine G.callV (n := 1) 0 (c_X7_refusalToShow c0 g0 (by have := cw.2.1; omega) hN (jb_cases jd)) rfl (by omega) c0 rfl tb_488 tb_490 tb_10 tb_33 tb_491 (by decide +kernel) rfl ⟨(Nat.le_of_ble_eq_true rfl), (Nat.le_of_ble_eq_true rfl)⟩ ⟨rfl, rfl⟩ (Nat.le_of_ble_eq_true rfl) ⟨Nat.zero_le _, Nat.zero_le _⟩ dX7_told_26 (fun gr6 gw5 hp => ?_)
      obtain ⟨rfl, rfl⟩ := hp
      cases jd
      · skip
        rw [if_pos (show bN false = 0 from rfl)]
        refine G.istore [(5, .int (-3)), (4, .ref (ad (24 + 9 * j))), (0, .ref (ad 0)), (1, .int (nI j)), (2, .int i), (3, .int what)] dX7_told_29 (by decide) rfl ?_
        refine G.iload 0 rfl dX7_told_31 ?_
        refine G.if_eq 39 dX7_told_33 rfl (fun c33 => ?_) (fun c33 => ?_)
        · skip
          exact absurd c33 (by decide)
        · skip
          refine G.iload 0 rfl dX7_told_36 ?_
          refine G.iret rfl rfl rfl dX7_told_38 ?_
          exact hret _ _ ⟨rfl, by simp only [sTold, zj, zw1]; rfl⟩
      · skip
        obtain ⟨g5, g6, g7, g8⟩ := g4 rfl
        rw [if_neg (show ¬ bN true = 0 by decide)]
        cases zu : (J j).1
        · skip
          rw [zu, if_neg (by decide)] at g5
          subst g5
          rw [if_pos nI_0]
          refine G.istore [(5, .int (nI 0)), (4, .ref (ad (24 + 9 * j))), (0, .ref (ad 0)), (1, .int (nI j)), (2, .int i), (3, .int what)] dX7_told_29 (by decide) rfl ?_
          refine G.iload 0 rfl dX7_told_31 ?_
          refine G.nif_eq 39 dX7_told_33 rfl (by decide) (fun _ => ?_) (fun zz => absurd zz (by decide))
          refine G.iload_n 4 rfl rfl dX7_told_39 ?_
          refine G.iconst (v := nI 0) dX7_told_40 (by decide +kernel) ?_
          refine G.aload 1 rfl dX7_told_41 ?_
          refine G.getN (24 + 9 * j) (by omega) g0 rfl twX2 0 (by decide) _ (List.mem_of_getElem? (i := 1) rfl) rfl rfl rfl dX7_told_43 ?_
          refine G.callV (n := 0) (24 + 9 * j + 1) (c_X4_size g1 (by omega)) rfl (by omega) g1.obj rfl tb_492 tb_377 tb_378 tb_39 tb_379 (by decide +kernel) rfl ⟨(Nat.le_of_ble_eq_true rfl), (Nat.le_of_ble_eq_true rfl)⟩ ⟨rfl, rfl⟩ (Nat.le_of_ble_eq_true rfl) ⟨Nat.zero_le _, Nat.zero_le _⟩ dX7_told_46 (fun gr8 gw7 hp => ?_)
          obtain ⟨rfl, rfl⟩ := hp
          refine G.iconst (v := nI 1) dX7_told_49 (by decide +kernel) ?_
          refine G.isub dX7_told_50 ?_
          refine G.callS (n := 3) (c_X7_within i (nI 0) (nI G1.length - nI 1)) rfl tb_243 tb_244 tb_33 tb_245 (by decide +kernel) rfl ⟨(Nat.le_of_ble_eq_true rfl), (Nat.le_of_ble_eq_true rfl)⟩ ⟨rfl, rfl⟩ (Nat.le_of_ble_eq_true rfl) ⟨Nat.zero_le _, Nat.zero_le _⟩ dX7_told_51 (fun gr10 gw9 hp => ?_)
          obtain ⟨rfl, rfl⟩ := hp
          have zgl := g1.le
          rw [wi_ix (by omega)]
          cases zi : ix G1.length i with
          | none =>
            refine G.nif_ne 60 dX7_told_54 rfl (by decide) (fun zz => absurd zz (by decide)) (fun _ => ?_)
            refine G.bipush (v := -4) dX7_told_57 (by decide +kernel) ?_
            refine G.iret rfl rfl rfl dX7_told_59 ?_
            exact hret _ _ ⟨rfl, by simp only [sTold, zj, zw1, shw, zu, ← g6, zi]; rfl⟩
          | some k =>
            rw [show (some k).isSome = true from rfl]
            obtain ⟨k1, k2, rfl⟩ := ix_some zi
            refine G.nif_ne 60 dX7_told_54 rfl (by decide) (fun _ => ?_) (fun zz => absurd zz (by decide))
            refine G.iload_n 5 rfl rfl dX7_told_60 ?_
            refine G.if_ne 76 dX7_told_61 rfl (fun c61 => ?_) (fun c61 => ?_)
            · skip
              refine G.aload 1 rfl dX7_told_76 ?_
              refine G.getN (24 + 9 * j) (by omega) g0 rfl twX2 0 (by decide) _ (List.mem_of_getElem? (i := 1) rfl) rfl rfl rfl dX7_told_78 ?_
              refine G.iload_n 4 rfl rfl dX7_told_81 ?_
              refine G.callV (n := 1) (24 + 9 * j + 1) (c_X4_keyAt g1 (by omega) (by decide) (nI k)) rfl (by omega) g1.obj rfl tb_498 tb_408 tb_409 tb_39 tb_410 (by decide +kernel) rfl ⟨(Nat.le_of_ble_eq_true rfl), (Nat.le_of_ble_eq_true rfl)⟩ ⟨rfl, rfl⟩ (Nat.le_of_ble_eq_true rfl) ⟨Nat.zero_le _, Nat.zero_le _⟩ dX7_told_82 (fun gr12 gw11 hp => ?_)
              obtain ⟨rfl, rfl⟩ := hp
              refine G.iret rfl rfl rfl dX7_told_85 ?_
              exact hret _ _ ⟨rfl, by simp [sTold, zj, zw1, shw, zu, ← g6, zi, rAt_n _ k2, c61]⟩
            · skip
              refine G.aload 1 rfl dX7_told_64 ?_
              refine G.getN (24 + 9 * j) (by omega) g0 rfl twX2 0 (by decide) _ (List.mem_of_getElem? (i := 1) rfl) rfl rfl rfl dX7_told_66 ?_
              refine G.iload_n 4 rfl rfl dX7_told_69 ?_
              refine G.callV (n := 1) (24 + 9 * j + 1) (c_X4_timeAt g1 (by omega) (by decide) (nI k)) rfl (by omega) g1.obj rfl tb_497 tb_404 tb_405 tb_39 tb_406 (by decide +kernel) rfl ⟨(Nat.le_of_ble_eq_true rfl), (Nat.le_of_ble_eq_true rfl)⟩ ⟨rfl, rfl⟩ (Nat.le_of_ble_eq_true rfl) ⟨Nat.zero_le _, Nat.zero_le _⟩ dX7_told_70 (fun gr14 gw13 hp => ?_)
              obtain ⟨rfl, rfl⟩ := hp
              refine G.goto 85 dX7_told_73 rfl ?_
              refine G.iret rfl rfl rfl dX7_told_85 ?_
              subst c61
              exact hret _ _ ⟨rfl, by simp [sTold, zj, zw1, shw, zu, ← g6, zi, rAt_n _ k2]⟩
        · skip
          rw [zu, if_pos rfl] at g5
          subst g5
          rw [if_neg (show ¬ nI 1 = 0 by decide)]
          refine G.istore [(5, .int (-6)), (4, .ref (ad (24 + 9 * j))), (0, .ref (ad 0)), (1, .int (nI j)), (2, .int i), (3, .int what)] dX7_told_29 (by decide) rfl ?_
          refine G.iload 0 rfl dX7_told_31 ?_
          refine G.if_eq 39 dX7_told_33 rfl (fun c33 => ?_) (fun c33 => ?_)
          · skip
            exact absurd c33 (by decide)
          · skip
            refine G.iload 0 rfl dX7_told_36 ?_
            refine G.iret rfl rfl rfl dX7_told_38 ?_
            exact hret _ _ ⟨rfl, by simp only [sTold, zj, zw1, shw, zu]; rfl⟩
  · skip
    refine G.astoreN [(4, .null), (0, .ref (ad 0)), (1, .int op), (2, .int i), (3, .int what)] dX7_told_5 (by decide) rfl ?_
    refine G.aloadN 0 rfl dX7_told_7 ?_
    refine G.ifnullN 21 dX7_told_9 rfl ?_
    refine G.iconst (v := -1) dX7_told_21 (by decide +kernel) ?_
    refine G.iret rfl rfl rfl dX7_told_22 ?_
    exact hret _ _ ⟨rfl, by simp only [sTold, zj]⟩
theorem c_X7_fails (hC : isC t ad w A I O Td jd J fc df) (hN : 132 ≤ N) (op kind : Int32) :
    K l t yX7_fails cX7_fails 4 (some .int) (rD 1) N ad w [.ref (ad 0), .int op, .int kind]
      (fun res w' => w = w' ∧ res = some (.int (sFails O jd J op kind))) := by
  have zC := hC
  obtain ⟨c0, cA, cT, cOA, cP, cC, cCR, cOps, cw, cd⟩ := hC
  have z12 := cw.2.1
  have z6k := cw.2.2.1
  refine K.of (own := RX7) (lv := [(0, .ref (ad 0)), (1, .int op), (2, .int kind)]) (by decide +kernel) rfl (Nat.le_of_ble_eq_true rfl) rfl (fun P post hret => ?_)
  refine G.aload_n 0 rfl rfl dX7_fails_0 ?_
  refine G.iload_n 1 rfl rfl dX7_fails_1 ?_
  refine G.callV (n := 1) 0 (c_X7_operatorAt c0 cOA cw.2.1 hN op) rfl (by omega) c0 rfl tb_308 tb_310 tb_3 tb_33 tb_311 (by decide +kernel) rfl ⟨(Nat.le_of_ble_eq_true rfl), (Nat.le_of_ble_eq_true rfl)⟩ ⟨rfl, rfl⟩ (Nat.le_of_ble_eq_true rfl) ⟨Nat.zero_le _, Nat.zero_le _⟩ dX7_fails_2 (fun gr2 gw1 hp => ?_)
  obtain ⟨rfl, zc⟩ := hp
  rcases zc with ⟨j, zj, rfl⟩ | ⟨zj, rfl⟩
  · skip
    obtain ⟨zj1, zj2, rfl⟩ := ix_some zj
    obtain ⟨kd, p, q, a, b, u, z, x, G1, ⟨g0, g1, g2⟩, g3⟩ := cOps j (by have := cw.2.1; omega)
    obtain ⟨-, g4⟩ := g3 zj1
    refine G.astore_n [(3, .ref (ad (24 + 9 * j))), (0, .ref (ad 0)), (1, .int (nI j)), (2, .int kind)] dX7_fails_5 rfl (by decide) rfl ?_
    refine G.aload_n 0 rfl rfl dX7_fails_6 ?_
    refine G.ifnull dX7_fails_7 ?_
    refine G.iload_n 3 rfl rfl dX7_fails_10 ?_
    refine G.iconst (v := nI 0) dX7_fails_11 (by decide +kernel) ?_
    refine G.iconst (v := nI 1) dX7_fails_12 (by decide +kernel) ?_
    refine G.callS (n := 3) (c_X7_within kind (nI 0) (nI 1)) rfl tb_243 tb_244 tb_33 tb_245 (by decide +kernel) rfl ⟨(Nat.le_of_ble_eq_true rfl), (Nat.le_of_ble_eq_true rfl)⟩ ⟨rfl, rfl⟩ (Nat.le_of_ble_eq_true rfl) ⟨Nat.zero_le _, Nat.zero_le _⟩ dX7_fails_13 (fun gr4 gw3 hp => ?_)
    obtain ⟨rfl, rfl⟩ := hp
    cases zw1 : wi kind (nI 0) (nI 1)
    · skip
      refine G.nif_ne 21 dX7_fails_16 rfl (by decide) (fun zz => absurd zz (by decide)) (fun _ => ?_)
      refine G.iconst (v := -1) dX7_fails_19 (by decide +kernel) ?_
      refine G.iret rfl rfl rfl dX7_fails_20 ?_
      exact hret _ _ ⟨rfl, by simp only [sFails, zj, zw1]; rfl⟩
    · skip
      obtain ⟨kn, kn1, rfl⟩ := wi_so (m := 1) (by omega) zw1
      cases jd
      · skip
        refine G.nif_ne 21 dX7_fails_16 rfl (by decide) (fun _ => ?_) (fun zz => absurd zz (by decide))
        refine G.aload_n 1 rfl rfl dX7_fails_21 ?_
        refine G.get 0 (by omega) c0 rfl twX7 7 (by decide) tb_221 rfl rfl dX7_fails_22 ?_
        refine G.topi (nI 0) (rfl) ?_
        refine G.nif_eq 36 dX7_fails_25 rfl (by decide) (fun _ => ?_) (fun zz => absurd zz (by decide))
        refine G.bipush (v := -3) dX7_fails_36 (by decide +kernel) ?_
        refine G.iret rfl rfl rfl dX7_fails_38 ?_
        exact hret _ _ ⟨rfl, by simp only [sFails, zj, zw1]; rfl⟩
      · skip
        obtain ⟨g5, g6, g7, g8⟩ := g4 rfl
        refine G.nif_ne 21 dX7_fails_16 rfl (by decide) (fun _ => ?_) (fun zz => absurd zz (by decide))
        refine G.aload_n 1 rfl rfl dX7_fails_21 ?_
        refine G.get 0 (by omega) c0 rfl twX7 7 (by decide) tb_221 rfl rfl dX7_fails_22 ?_
        refine G.topi (nI 1) (rfl) ?_
        refine G.nif_eq 36 dX7_fails_25 rfl (by decide) (fun zz => absurd zz (by decide)) (fun _ => ?_)
        refine G.aload_n 0 rfl rfl dX7_fails_28 ?_
        refine G.iload_n 3 rfl rfl dX7_fails_29 ?_
        refine G.callV (n := 1) (24 + 9 * j) (c_X2_failuresBy g0 (by have := cw.2.1; omega) kn (by omega)) rfl (by omega) g0 rfl tb_480 tb_481 tb_482 tb_41 tb_483 (by decide +kernel) rfl ⟨(Nat.le_of_ble_eq_true rfl), (Nat.le_of_ble_eq_true rfl)⟩ ⟨rfl, rfl⟩ (Nat.le_of_ble_eq_true rfl) ⟨Nat.zero_le _, Nat.zero_le _⟩ dX7_fails_30 (fun gr6 gw5 hp => ?_)
        obtain ⟨rfl, rfl⟩ := hp
        refine G.goto 38 dX7_fails_33 rfl ?_
        refine G.iret rfl rfl rfl dX7_fails_38 ?_
        refine hret _ _ ⟨rfl, ?_⟩
        rcases (show kn = 0 ∨ kn = 1 by omega) with rfl | rfl
        · simp [sFails, zj, show wi 0 0 (nI 1) = true from zw1, g7, nI_0]
        · simp [sFails, zj, zw1, g8, show ¬ nI 1 = 0 by decide]
  · skip
    refine G.astore_nN [(3, .null), (0, .ref (ad 0)), (1, .int op), (2, .int kind)] dX7_fails_5 rfl (by decide) rfl ?_
    refine G.aload_nN 0 rfl rfl dX7_fails_6 ?_
    refine G.ifnullN 19 dX7_fails_7 rfl ?_
    refine G.iconst (v := -1) dX7_fails_19 (by decide +kernel) ?_
    refine G.iret rfl rfl rfl dX7_fails_20 ?_
    exact hret _ _ ⟨rfl, by simp only [sFails, zj]⟩
theorem ops_told {w' : Nat → va_E} {T' : List RW} {j : Nat} (h : isOps t ad w O Td jd J) (hj : j < 12) (h1 : isRows t ad w' (24 + 9 * j + 5) 40 T') (hk : ∀ i, i < 24 + 9 * j + 5 ∨ 24 + 9 * j + 9 ≤ i → w' i = w i) : isOps t ad w' O (va_up Td j T') jd J := by
  intro i hi
  obtain ⟨kd, p, q, a, b, u, z, x, G1, ⟨y1, y2, y3⟩, y4⟩ := h i hi
  refine ⟨kd, p, q, a, b, u, z, x, G1, ⟨(hk _ (by omega)).trans y1, y2.keep (fun k k1 k2 => hk k (by omega)), ?_⟩, y4⟩
  by_cases q : i = j
  · subst q; rw [va_up_self]; exact h1
  · rw [va_up_ne _ _ q]; exact y3.keep (fun k k1 k2 => hk k (by omega))
theorem c_X7_tell (hC : isC t ad w A I O Td jd J fc df) (hN : 132 ≤ N) (op time key : Int32) (v : Int64) :
    K l t yX7_tell cX7_tell 7 (some .int) (rD 2) N ad w [.ref (ad 0), .int op, .int time, .int key, .long v]
      (fun res w' => res = some (.int (sTell O Td op time key v).1) ∧ isC t ad w' A I O (sTell O Td op time key v).2 jd J fc df ∧ ∀ i, 132 ≤ i → w' i = w i) := by
  have zC := hC
  obtain ⟨c0, cA, cT, cOA, cP, cC, cCR, cOps, cw, cd⟩ := hC
  have z12 := cw.2.1
  have z6k := cw.2.2.1
  refine K.of (own := RX7) (lv := [(0, .ref (ad 0)), (1, .int op), (2, .int time), (3, .int key), (4, .long v)]) (by decide +kernel) rfl (Nat.le_of_ble_eq_true rfl) rfl (fun P post hret => ?_)
  refine G.aload_n 0 rfl rfl dX7_tell_0 ?_
  refine G.iload_n 1 rfl rfl dX7_tell_1 ?_
  refine G.callV (n := 1) 0 (c_X7_operatorAt c0 cOA cw.2.1 hN op) rfl (by omega) c0 rfl tb_308 tb_310 tb_3 tb_33 tb_311 (by decide +kernel) rfl ⟨(Nat.le_of_ble_eq_true rfl), (Nat.le_of_ble_eq_true rfl)⟩ ⟨rfl, rfl⟩ (Nat.le_of_ble_eq_true rfl) ⟨Nat.zero_le _, Nat.zero_le _⟩ dX7_tell_2 (fun gr2 gw1 hp => ?_)
  obtain ⟨rfl, zc⟩ := hp
  rcases zc with ⟨j, zj, rfl⟩ | ⟨zj, rfl⟩
  · skip
    obtain ⟨zj1, zj2, rfl⟩ := ix_some zj
    obtain ⟨kd, p, q, a, b, u, z, x, G1, ⟨g0, g1, g2⟩, g3⟩ := cOps j (by have := cw.2.1; omega)
    obtain ⟨-, g4⟩ := g3 zj1
    refine G.astore [(6, .ref (ad (24 + 9 * j))), (0, .ref (ad 0)), (1, .int (nI j)), (2, .int time), (3, .int key), (4, .long v)] dX7_tell_5 (by decide) rfl ?_
    refine G.aload 0 rfl dX7_tell_7 ?_
    refine G.ifnull dX7_tell_9 ?_
    refine G.iload_n 3 rfl rfl dX7_tell_12 ?_
    refine G.iconst (v := nI 0) dX7_tell_13 (by decide +kernel) ?_
    refine G.sipush (v := nI 20000) dX7_tell_14 (by decide +kernel) ?_
    refine G.callS (n := 3) (c_X7_within time (nI 0) (nI 20000)) rfl tb_243 tb_244 tb_33 tb_245 (by decide +kernel) rfl ⟨(Nat.le_of_ble_eq_true rfl), (Nat.le_of_ble_eq_true rfl)⟩ ⟨rfl, rfl⟩ (Nat.le_of_ble_eq_true rfl) ⟨Nat.zero_le _, Nat.zero_le _⟩ dX7_tell_17 (fun gr4 gw3 hp => ?_)
    obtain ⟨rfl, rfl⟩ := hp
    cases z1 : wi time (nI 0) (nI 20000)
    · skip
      refine G.nif_eq 32 dX7_tell_20 rfl (by decide) (fun _ => ?_) (fun zz => absurd zz (by decide))
      refine G.iconst (v := -1) dX7_tell_32 (by decide +kernel) ?_
      refine G.iret rfl rfl rfl dX7_tell_33 ?_
      have ze : sTell O Td (nI j) time key v = (-1, Td) := by simp [sTell, zj, tellOK, z1]
      rw [ze] at hret
      exact hret _ _ ⟨rfl, zC, fun _ _ => rfl⟩
    · skip
      refine G.nif_eq 32 dX7_tell_20 rfl (by decide) (fun zz => absurd zz (by decide)) (fun _ => ?_)
      refine G.iload_n 4 rfl rfl dX7_tell_23 ?_
      refine G.iconst (v := nI 0) dX7_tell_24 (by decide +kernel) ?_
      refine G.iconst (v := nI 5) dX7_tell_25 (by decide +kernel) ?_
      refine G.callS (n := 3) (c_X7_within key (nI 0) (nI 5)) rfl tb_243 tb_244 tb_33 tb_245 (by decide +kernel) rfl ⟨(Nat.le_of_ble_eq_true rfl), (Nat.le_of_ble_eq_true rfl)⟩ ⟨rfl, rfl⟩ (Nat.le_of_ble_eq_true rfl) ⟨Nat.zero_le _, Nat.zero_le _⟩ dX7_tell_26 (fun gr6 gw5 hp => ?_)
      obtain ⟨rfl, rfl⟩ := hp
      cases z2 : wi key (nI 0) (nI 5)
      · skip
        refine G.nif_ne 34 dX7_tell_29 rfl (by decide) (fun zz => absurd zz (by decide)) (fun _ => ?_)
        refine G.iconst (v := -1) dX7_tell_32 (by decide +kernel) ?_
        refine G.iret rfl rfl rfl dX7_tell_33 ?_
        have ze : sTell O Td (nI j) time key v = (-1, Td) := by simp [sTell, zj, tellOK, z1, z2]
        rw [ze] at hret
        exact hret _ _ ⟨rfl, zC, fun _ _ => rfl⟩
      · skip
        refine G.nif_ne 34 dX7_tell_29 rfl (by decide) (fun _ => ?_) (fun zz => absurd zz (by decide))
        refine G.aload 0 rfl dX7_tell_34 ?_
        refine G.getN (24 + 9 * j) (by omega) g0 rfl twX2 1 (by decide) _ (List.mem_of_getElem? (i := 2) rfl) rfl rfl rfl dX7_tell_36 ?_
        refine G.iload_n 3 rfl rfl dX7_tell_39 ?_
        refine G.iload_n 4 rfl rfl dX7_tell_40 ?_
        refine G.lload 5 rfl dX7_tell_41 ?_
        refine G.callV (n := 3) (24 + 9 * j + 5) (c_X4_add g2 (by omega) (by decide) time key v) rfl (by omega) g2.obj rfl tb_512 tb_412 tb_413 tb_39 tb_414 (by decide +kernel) rfl ⟨(Nat.le_of_ble_eq_true rfl), (Nat.le_of_ble_eq_true rfl)⟩ ⟨rfl, rfl⟩ (Nat.le_of_ble_eq_true rfl) ⟨Nat.zero_le _, Nat.zero_le _⟩ dX7_tell_43 (fun gr7 zw hp => ?_)
        obtain ⟨rfl, hR1, hf⟩ := hp
        by_cases zl : (Td j).length < 40
        · skip
          rw [if_pos zl] at hR1 ⊢
          have ze : sTell O Td (nI j) time key v = (nI ((Td j).length + 1), va_up Td j (Td j ++ [(time, key, v)])) := by simp [sTell, zj, tellOK, z1, z2, zl]
          rw [ze] at hret
          refine G.if_eq 60 dX7_tell_46 rfl (fun c46 => ?_) (fun c46 => ?_)
          · skip
            exact absurd c46 (by decide)
          · skip
            refine G.aload 0 rfl dX7_tell_49 ?_
            have gh8 := (hf (24 + 9 * j) (by omega)).trans g0
            refine G.getN (24 + 9 * j) (by omega) gh8 rfl twX2 1 (by decide) _ (List.mem_of_getElem? (i := 2) rfl) rfl rfl rfl dX7_tell_51 ?_
            refine G.callV (n := 0) (24 + 9 * j + 5) (c_X4_size hR1 (by omega)) rfl (by omega) hR1.obj rfl tb_492 tb_377 tb_378 tb_39 tb_379 (by decide +kernel) rfl ⟨(Nat.le_of_ble_eq_true rfl), (Nat.le_of_ble_eq_true rfl)⟩ ⟨rfl, rfl⟩ (Nat.le_of_ble_eq_true rfl) ⟨Nat.zero_le _, Nat.zero_le _⟩ dX7_tell_54 (fun gr10 gw9 hp => ?_)
            obtain ⟨rfl, rfl⟩ := hp
            refine G.topi (nI ((Td j).length + 1)) ((by rw [List.length_append]; rfl)) ?_
            refine G.goto 62 dX7_tell_57 rfl ?_
            refine G.iret rfl rfl rfl dX7_tell_62 ?_
            refine hret _ _ ⟨rfl, ⟨(hf 0 (by omega)).trans c0, cA.keep (fun i i1 i2 => hf i (by omega)), cT.keep (fun i i1 i2 => hf i (by omega)), cOA.keep (hf 9 (by omega)), cP.keep (fun i i1 i2 => hf i (by omega)), cC.keep (hf 15 (by omega)), cCR.keep (fun i i1 i2 => hf i (by omega)), ops_told cOps (by omega) hR1 hf, cw, fun i i1 i2 => ?_⟩, fun i hi => hf i (by omega)⟩
            show va_up _ _ _ i = []
            rw [va_up_ne _ _ (show i ≠ j by omega)]; exact cd i i1 i2
        · skip
          rw [if_neg zl] at hR1 ⊢
          have ze : sTell O Td (nI j) time key v = (-2, Td) := by simp [sTell, zj, tellOK, z1, z2, zl]
          rw [ze] at hret
          refine G.if_eq 60 dX7_tell_46 rfl (fun c46 => ?_) (fun c46 => ?_)
          · skip
            refine G.bipush (v := -2) dX7_tell_60 (by decide +kernel) ?_
            refine G.iret rfl rfl rfl dX7_tell_62 ?_
            refine hret _ _ ⟨rfl, ⟨(hf 0 (by omega)).trans c0, cA.keep (fun i i1 i2 => hf i (by omega)), cT.keep (fun i i1 i2 => hf i (by omega)), cOA.keep (hf 9 (by omega)), cP.keep (fun i i1 i2 => hf i (by omega)), cC.keep (hf 15 (by omega)), cCR.keep (fun i i1 i2 => hf i (by omega)), ?_, cw, cd⟩, fun i hi => hf i (by omega)⟩
            have := ops_told cOps (by omega) hR1 hf
            rw [show va_up Td j (Td j) = Td from funext (fun i => by by_cases q : i = j; subst q; rw [va_up_self]; rw [va_up_ne _ _ q])] at this
            exact this
          · skip
            exact absurd rfl c46
  · skip
    refine G.astoreN [(6, .null), (0, .ref (ad 0)), (1, .int op), (2, .int time), (3, .int key), (4, .long v)] dX7_tell_5 (by decide) rfl ?_
    refine G.aloadN 0 rfl dX7_tell_7 ?_
    refine G.ifnullN 32 dX7_tell_9 rfl ?_
    refine G.iconst (v := -1) dX7_tell_32 (by decide +kernel) ?_
    refine G.iret rfl rfl rfl dX7_tell_33 ?_
    have ze : sTell O Td op time key v = (-1, Td) := by simp only [sTell, zj]
    rw [ze] at hret
    exact hret _ _ ⟨rfl, zC, fun _ _ => rfl⟩
theorem c_X7_untell (hC : isC t ad w A I O Td jd J fc df) (hN : 132 ≤ N) (op : Int32) :
    K l t yX7_untell cX7_untell 4 (some .int) (rD 1) N ad w [.ref (ad 0), .int op]
      (fun res w' => res = some (.int (sUntell O Td op).1) ∧ isC t ad w' A I O (sUntell O Td op).2 jd J fc df ∧ ∀ i, 132 ≤ i → w' i = w i) := by
  have zC := hC
  obtain ⟨c0, cA, cT, cOA, cP, cC, cCR, cOps, cw, cd⟩ := hC
  have z12 := cw.2.1
  have z6k := cw.2.2.1
  refine K.of (own := RX7) (lv := [(0, .ref (ad 0)), (1, .int op)]) (by decide +kernel) rfl (Nat.le_of_ble_eq_true rfl) rfl (fun P post hret => ?_)
  refine G.aload_n 0 rfl rfl dX7_untell_0 ?_
  refine G.iload_n 1 rfl rfl dX7_untell_1 ?_
  refine G.callV (n := 1) 0 (c_X7_operatorAt c0 cOA cw.2.1 hN op) rfl (by omega) c0 rfl tb_308 tb_310 tb_3 tb_33 tb_311 (by decide +kernel) rfl ⟨(Nat.le_of_ble_eq_true rfl), (Nat.le_of_ble_eq_true rfl)⟩ ⟨rfl, rfl⟩ (Nat.le_of_ble_eq_true rfl) ⟨Nat.zero_le _, Nat.zero_le _⟩ dX7_untell_2 (fun gr2 gw1 hp => ?_)
  obtain ⟨rfl, zc⟩ := hp
  rcases zc with ⟨j, zj, rfl⟩ | ⟨zj, rfl⟩
  · skip
    obtain ⟨zj1, zj2, rfl⟩ := ix_some zj
    obtain ⟨kd, p, q, a, b, u, z, x, G1, ⟨g0, g1, g2⟩, g3⟩ := cOps j (by have := cw.2.1; omega)
    obtain ⟨-, g4⟩ := g3 zj1
    have ze : sUntell O Td (nI j) = (nI (Td j).length, va_up Td j []) := by simp only [sUntell, zj]
    rw [ze] at hret
    refine G.astore_n [(2, .ref (ad (24 + 9 * j))), (0, .ref (ad 0)), (1, .int (nI j))] dX7_untell_5 rfl (by decide) rfl ?_
    refine G.aload_n 0 rfl rfl dX7_untell_6 ?_
    refine G.ifnonnull 12 dX7_untell_7 rfl ?_
    refine G.aload_n 0 rfl rfl dX7_untell_12 ?_
    refine G.getN (24 + 9 * j) (by omega) g0 rfl twX2 1 (by decide) _ (List.mem_of_getElem? (i := 2) rfl) rfl rfl rfl dX7_untell_13 ?_
    refine G.callV (n := 0) (24 + 9 * j + 5) (c_X4_size g2 (by omega)) rfl (by omega) g2.obj rfl tb_492 tb_377 tb_378 tb_39 tb_379 (by decide +kernel) rfl ⟨(Nat.le_of_ble_eq_true rfl), (Nat.le_of_ble_eq_true rfl)⟩ ⟨rfl, rfl⟩ (Nat.le_of_ble_eq_true rfl) ⟨Nat.zero_le _, Nat.zero_le _⟩ dX7_untell_16 (fun gr4 gw3 hp => ?_)
    obtain ⟨rfl, rfl⟩ := hp
    refine G.istore_n [(3, .int (nI (Td j).length)), (2, .ref (ad (24 + 9 * j))), (0, .ref (ad 0)), (1, .int (nI j))] dX7_untell_19 rfl (by decide) rfl ?_
    refine G.aload_n 1 rfl rfl dX7_untell_20 ?_
    refine G.getN (24 + 9 * j) (by omega) g0 rfl twX2 1 (by decide) _ (List.mem_of_getElem? (i := 2) rfl) rfl rfl rfl dX7_untell_21 ?_
    refine G.callV (n := 0) (24 + 9 * j + 5) (c_X4_empty g2 (by omega)) rfl (by omega) g2.obj rfl tb_336 tb_337 tb_338 tb_39 tb_339 (by decide +kernel) rfl ⟨(Nat.le_of_ble_eq_true rfl), (Nat.le_of_ble_eq_true rfl)⟩ ⟨rfl, rfl⟩ (Nat.le_of_ble_eq_true rfl) ⟨Nat.zero_le _, Nat.zero_le _⟩ dX7_untell_24 (fun gr5 zw hp => ?_)
    obtain ⟨rfl, hR1, hf⟩ := hp
    refine G.iload_n 0 rfl rfl dX7_untell_27 ?_
    refine G.iret rfl rfl rfl dX7_untell_28 ?_
    refine hret _ _ ⟨rfl, ⟨(hf 0 (by omega)).trans c0, cA.keep (fun i i1 i2 => hf i (by omega)), cT.keep (fun i i1 i2 => hf i (by omega)), cOA.keep (hf 9 (by omega)), cP.keep (fun i i1 i2 => hf i (by omega)), cC.keep (hf 15 (by omega)), cCR.keep (fun i i1 i2 => hf i (by omega)), ops_told cOps (by omega) hR1 hf, cw, fun i i1 i2 => ?_⟩, fun i hi => hf i (by omega)⟩
    show va_up _ _ _ i = []
    rw [va_up_ne _ _ (show i ≠ j by omega)]; exact cd i i1 i2
  · skip
    refine G.astore_nN [(2, .null), (0, .ref (ad 0)), (1, .int op)] dX7_untell_5 rfl (by decide) rfl ?_
    refine G.aload_nN 0 rfl rfl dX7_untell_6 ?_
    refine G.ifnonnullN dX7_untell_7 ?_
    refine G.iconst (v := -1) dX7_untell_10 (by decide +kernel) ?_
    refine G.iret rfl rfl rfl dX7_untell_11 ?_
    have ze : sUntell O Td op = (-1, Td) := by simp only [sUntell, zj]
    rw [ze] at hret
    exact hret _ _ ⟨rfl, zC, fun _ _ => rfl⟩
theorem c_X7_compare (hC : isC t ad w A I O Td jd J fc df) (hN : 132 ≤ N) (op how : Int32) :
    K l t yX7_compare cX7_compare 5 (some .int) (rD 6) N ad w [.ref (ad 0), .int op, .int how]
      (fun res w' => res = some (.int (sComp O Td jd J df op how).1) ∧ isC t ad w' A I O Td jd J fc (sComp O Td jd J df op how).2 ∧ ∀ i, 132 ≤ i → w' i = w i) := by
  have zC := hC
  obtain ⟨c0, cA, cT, cOA, cP, cC, cCR, cOps, cw, cd⟩ := hC
  have z12 := cw.2.1
  have z6k := cw.2.2.1
  obtain ⟨d9, pl, tm, ky, k0, -⟩ := id cC
  refine K.of (own := RX7) (lv := [(0, .ref (ad 0)), (1, .int op), (2, .int how)]) (by decide +kernel) rfl (Nat.le_of_ble_eq_true rfl) rfl (fun P post hret => ?_)
  refine G.aload_n 0 rfl rfl dX7_compare_0 ?_
  refine G.iload_n 1 rfl rfl dX7_compare_1 ?_
  refine G.callV (n := 1) 0 (c_X7_operatorAt c0 cOA cw.2.1 hN op) rfl (by omega) c0 rfl tb_308 tb_310 tb_3 tb_33 tb_311 (by decide +kernel) rfl ⟨(Nat.le_of_ble_eq_true rfl), (Nat.le_of_ble_eq_true rfl)⟩ ⟨rfl, rfl⟩ (Nat.le_of_ble_eq_true rfl) ⟨Nat.zero_le _, Nat.zero_le _⟩ dX7_compare_2 (fun gr2 gw1 hp => ?_)
  obtain ⟨rfl, zc⟩ := hp
  rcases zc with ⟨j, zj, rfl⟩ | ⟨zj, rfl⟩
  · skip
    obtain ⟨zj1, zj2, rfl⟩ := ix_some zj
    obtain ⟨kd, p, q, a, b, u, z, x, G1, ⟨g0, g1, g2⟩, g3⟩ := cOps j (by have := cw.2.1; omega)
    obtain ⟨-, g4⟩ := g3 zj1
    refine G.astore_n [(3, .ref (ad (24 + 9 * j))), (0, .ref (ad 0)), (1, .int (nI j)), (2, .int how)] dX7_compare_5 rfl (by decide) rfl ?_
    refine G.aload_n 0 rfl rfl dX7_compare_6 ?_
    refine G.ifnull dX7_compare_7 ?_
    refine G.iload_n 3 rfl rfl dX7_compare_10 ?_
    refine G.iconst (v := nI 0) dX7_compare_11 (by decide +kernel) ?_
    refine G.iconst (v := nI 1) dX7_compare_12 (by decide +kernel) ?_
    refine G.callS (n := 3) (c_X7_within how (nI 0) (nI 1)) rfl tb_243 tb_244 tb_33 tb_245 (by decide +kernel) rfl ⟨(Nat.le_of_ble_eq_true rfl), (Nat.le_of_ble_eq_true rfl)⟩ ⟨rfl, rfl⟩ (Nat.le_of_ble_eq_true rfl) ⟨Nat.zero_le _, Nat.zero_le _⟩ dX7_compare_13 (fun gr4 gw3 hp => ?_)
    obtain ⟨rfl, rfl⟩ := hp
    cases zw1 : wi how (nI 0) (nI 1)
    · skip
      refine G.nif_ne 21 dX7_compare_16 rfl (by decide) (fun zz => absurd zz (by decide)) (fun _ => ?_)
      refine G.iconst (v := -1) dX7_compare_19 (by decide +kernel) ?_
      refine G.iret rfl rfl rfl dX7_compare_20 ?_
      have ze : sComp O Td jd J df (nI j) how = (-1, df) := by simp [sComp, zj, zw1]
      rw [ze] at hret
      exact hret _ _ ⟨rfl, zC, fun _ _ => rfl⟩
    · skip
      refine G.nif_ne 21 dX7_compare_16 rfl (by decide) (fun _ => ?_) (fun zz => absurd zz (by decide))
      refine G.aload_n 1 rfl rfl dX7_compare_21 ?_
      refine G.aload_n 0 rfl rfl dX7_compare_22 ?_
      refine G.callV (n := 1) 0 (c_X7_refusalToShow c0 g0 (by have := cw.2.1; omega) hN (jb_cases jd)) rfl (by omega) c0 rfl tb_488 tb_490 tb_10 tb_33 tb_491 (by decide +kernel) rfl ⟨(Nat.le_of_ble_eq_true rfl), (Nat.le_of_ble_eq_true rfl)⟩ ⟨rfl, rfl⟩ (Nat.le_of_ble_eq_true rfl) ⟨Nat.zero_le _, Nat.zero_le _⟩ dX7_compare_23 (fun gr6 gw5 hp => ?_)
      obtain ⟨rfl, rfl⟩ := hp
      cases jd
      · skip
        rw [if_pos (show bN false = 0 from rfl)]
        refine G.istore [(4, .int (-3)), (3, .ref (ad (24 + 9 * j))), (0, .ref (ad 0)), (1, .int (nI j)), (2, .int how)] dX7_compare_26 (by decide) rfl ?_
        refine G.iload 0 rfl dX7_compare_28 ?_
        refine G.if_eq 36 dX7_compare_30 rfl (fun c30 => ?_) (fun c30 => ?_)
        · skip
          exact absurd c30 (by decide)
        · skip
          refine G.iload 0 rfl dX7_compare_33 ?_
          refine G.iret rfl rfl rfl dX7_compare_35 ?_
          have ze : sComp O Td false J df (nI j) how = (-3, df) := by simp [sComp, zj, zw1]
          rw [ze] at hret
          exact hret _ _ ⟨rfl, zC, fun _ _ => rfl⟩
      · skip
        obtain ⟨g5, g6, g7, g8⟩ := g4 rfl
        rw [if_neg (show ¬ bN true = 0 by decide)]
        cases zu : (J j).1
        · skip
          rw [zu, if_neg (by decide)] at g5
          subst g5
          rw [if_pos nI_0]
          refine G.istore [(4, .int (nI 0)), (3, .ref (ad (24 + 9 * j))), (0, .ref (ad 0)), (1, .int (nI j)), (2, .int how)] dX7_compare_26 (by decide) rfl ?_
          refine G.iload 0 rfl dX7_compare_28 ?_
          refine G.nif_eq 36 dX7_compare_30 rfl (by decide) (fun _ => ?_) (fun zz => absurd zz (by decide))
          refine G.iload_n 4 rfl rfl dX7_compare_36 ?_
          refine G.if_ne 58 dX7_compare_37 rfl (fun c37 => ?_) (fun c37 => ?_)
          · skip
            refine G.aload_n 2 rfl rfl dX7_compare_58 ?_
            refine G.get 0 (by omega) c0 rfl twX7 4 (by decide) tb_218 rfl rfl dX7_compare_59 ?_
            refine G.aload_n 1 rfl rfl dX7_compare_62 ?_
            refine G.getN (24 + 9 * j) (by omega) g0 rfl twX2 0 (by decide) _ (List.mem_of_getElem? (i := 1) rfl) rfl rfl rfl dX7_compare_63 ?_
            refine G.aload_n 1 rfl rfl dX7_compare_66 ?_
            refine G.getN (24 + 9 * j) (by omega) g0 rfl twX2 1 (by decide) _ (List.mem_of_getElem? (i := 2) rfl) rfl rfl rfl dX7_compare_67 ?_
            refine G.callV (n := 2) 15 (c_X1_bySets (k := 15) k0 cCR g1 g2 (by omega) (by omega) (by omega) (by omega) (by omega)) rfl (by omega) k0 rfl tb_550 tb_551 tb_552 tb_38 tb_553 (by decide +kernel) rfl ⟨(Nat.le_of_ble_eq_true rfl), (Nat.le_of_ble_eq_true rfl)⟩ ⟨rfl, rfl⟩ (Nat.le_of_ble_eq_true rfl) ⟨Nat.zero_le _, Nat.zero_le _⟩ dX7_compare_70 (fun gr7 zw hp => ?_)
            obtain ⟨rfl, h1, h2, hf⟩ := hp
            refine G.iret rfl rfl rfl dX7_compare_73 ?_
            have ze : sComp O Td true J df (nI j) how = (nI (cS G1 (Td j)).1, (cS G1 (Td j)).2) := by simp [sComp, zj, zw1, zu, ← g6, c37]
            rw [ze] at hret
            exact hret _ _ ⟨rfl, ⟨(hf 0 (by omega)).trans c0, cA.keep (fun i i1 i2 => hf i (by omega)), cT.keep (fun i i1 i2 => hf i (by omega)), cOA.keep (hf 9 (by omega)), cP.keep (fun i i1 i2 => hf i (by omega)), h1, h2, cOps.keep (fun i i1 i2 => hf i (by omega)), cw, cd⟩, fun i hi => hf i (by omega)⟩
          · skip
            refine G.aload_n 2 rfl rfl dX7_compare_40 ?_
            refine G.get 0 (by omega) c0 rfl twX7 4 (by decide) tb_218 rfl rfl dX7_compare_41 ?_
            refine G.aload_n 1 rfl rfl dX7_compare_44 ?_
            refine G.getN (24 + 9 * j) (by omega) g0 rfl twX2 0 (by decide) _ (List.mem_of_getElem? (i := 1) rfl) rfl rfl rfl dX7_compare_45 ?_
            refine G.aload_n 1 rfl rfl dX7_compare_48 ?_
            refine G.getN (24 + 9 * j) (by omega) g0 rfl twX2 1 (by decide) _ (List.mem_of_getElem? (i := 2) rfl) rfl rfl rfl dX7_compare_49 ?_
            refine G.callV (n := 2) 15 (c_X1_byOrder (k := 15) k0 g1 g2 (by omega) (by omega) (by omega) (by decide) (by decide) (by omega) (by omega)) rfl (by omega) k0 rfl tb_521 tb_522 tb_523 tb_38 tb_524 (by decide +kernel) rfl ⟨(Nat.le_of_ble_eq_true rfl), (Nat.le_of_ble_eq_true rfl)⟩ ⟨rfl, rfl⟩ (Nat.le_of_ble_eq_true rfl) ⟨Nat.zero_le _, Nat.zero_le _⟩ dX7_compare_52 (fun gr8 zw hp => ?_)
            obtain ⟨rfl, h1, hf⟩ := hp
            refine G.goto 73 dX7_compare_55 rfl ?_
            refine G.iret rfl rfl rfl dX7_compare_73 ?_
            subst c37
            have ze : sComp O Td true J df (nI j) 0 = (nI (cO G1 (Td j)).1, (cO G1 (Td j)).2) := by simp [sComp, zj, zw1, zu, ← g6]
            rw [ze] at hret
            exact hret _ _ ⟨rfl, ⟨(hf 0 (by omega)).trans c0, cA.keep (fun i i1 i2 => hf i (by omega)), cT.keep (fun i i1 i2 => hf i (by omega)), cOA.keep (hf 9 (by omega)), cP.keep (fun i i1 i2 => hf i (by omega)), h1, cCR.keep (fun i i1 i2 => hf i (by omega)), cOps.keep (fun i i1 i2 => hf i (by omega)), cw, cd⟩, fun i hi => hf i (by omega)⟩
        · skip
          rw [zu, if_pos rfl] at g5
          subst g5
          rw [if_neg (show ¬ nI 1 = 0 by decide)]
          refine G.istore [(4, .int (-6)), (3, .ref (ad (24 + 9 * j))), (0, .ref (ad 0)), (1, .int (nI j)), (2, .int how)] dX7_compare_26 (by decide) rfl ?_
          refine G.iload 0 rfl dX7_compare_28 ?_
          refine G.if_eq 36 dX7_compare_30 rfl (fun c30 => ?_) (fun c30 => ?_)
          · skip
            exact absurd c30 (by decide)
          · skip
            refine G.iload 0 rfl dX7_compare_33 ?_
            refine G.iret rfl rfl rfl dX7_compare_35 ?_
            have ze : sComp O Td true J df (nI j) how = (-6, df) := by simp [sComp, zj, zw1, zu]
            rw [ze] at hret
            exact hret _ _ ⟨rfl, zC, fun _ _ => rfl⟩
  · skip
    refine G.astore_nN [(3, .null), (0, .ref (ad 0)), (1, .int op), (2, .int how)] dX7_compare_5 rfl (by decide) rfl ?_
    refine G.aload_nN 0 rfl rfl dX7_compare_6 ?_
    refine G.ifnullN 19 dX7_compare_7 rfl ?_
    refine G.iconst (v := -1) dX7_compare_19 (by decide +kernel) ?_
    refine G.iret rfl rfl rfl dX7_compare_20 ?_
    have ze : sComp O Td jd J df op how = (-1, df) := by simp only [sComp, zj]
    rw [ze] at hret
    exact hret _ _ ⟨rfl, zC, fun _ _ => rfl⟩
theorem c_X7_where (hC : isC t ad w A I O Td jd J fc df) (hN : 132 ≤ N) (what : Int32) :
    K l t yX7_where cX7_where 2 (some .int) (rD 1) N ad w [.ref (ad 0), .int what]
      (fun res w' => w = w' ∧ res = some (.int (sWhere jd df what))) := by
  have zC := hC
  obtain ⟨c0, cA, cT, cOA, cP, cC, cCR, cOps, cw, cd⟩ := hC
  have z12 := cw.2.1
  have z6k := cw.2.2.1
  obtain ⟨d9, pl, tm, ky, k0, k1, k2⟩ := id cC
  refine K.of (own := RX7) (lv := [(0, .ref (ad 0)), (1, .int what)]) (by decide +kernel) rfl (Nat.le_of_ble_eq_true rfl) rfl (fun P post hret => ?_)
  refine G.iload_n 1 rfl rfl dX7_where_0 ?_
  refine G.iconst (v := nI 0) dX7_where_1 (by decide +kernel) ?_
  refine G.iconst (v := nI 2) dX7_where_2 (by decide +kernel) ?_
  refine G.callS (n := 3) (c_X7_within what (nI 0) (nI 2)) rfl tb_243 tb_244 tb_33 tb_245 (by decide +kernel) rfl ⟨(Nat.le_of_ble_eq_true rfl), (Nat.le_of_ble_eq_true rfl)⟩ ⟨rfl, rfl⟩ (Nat.le_of_ble_eq_true rfl) ⟨Nat.zero_le _, Nat.zero_le _⟩ dX7_where_3 (fun gr2 gw1 hp => ?_)
  obtain ⟨rfl, rfl⟩ := hp
  cases zw1 : wi what (nI 0) (nI 2)
  · skip
    refine G.nif_ne 11 dX7_where_6 rfl (by decide) (fun zz => absurd zz (by decide)) (fun _ => ?_)
    refine G.iconst (v := -1) dX7_where_9 (by decide +kernel) ?_
    refine G.iret rfl rfl rfl dX7_where_10 ?_
    exact hret _ _ ⟨rfl, by simp [sWhere, zw1]⟩
  · skip
    obtain ⟨wn, wn1, rfl⟩ := wi_so (m := 2) (by omega) zw1
    cases jd
    · skip
      refine G.nif_ne 11 dX7_where_6 rfl (by decide) (fun _ => ?_) (fun zz => absurd zz (by decide))
      refine G.aload_n 0 rfl rfl dX7_where_11 ?_
      refine G.get 0 (by omega) c0 rfl twX7 7 (by decide) tb_221 rfl rfl dX7_where_12 ?_
      refine G.topi (nI 0) (rfl) ?_
      refine G.nif_eq 39 dX7_where_15 rfl (by decide) (fun _ => ?_) (fun zz => absurd zz (by decide))
      refine G.bipush (v := -4) dX7_where_39 (by decide +kernel) ?_
      refine G.iret rfl rfl rfl dX7_where_41 ?_
      exact hret _ _ ⟨rfl, by simp [sWhere, zw1]⟩
    · skip
      refine G.nif_ne 11 dX7_where_6 rfl (by decide) (fun _ => ?_) (fun zz => absurd zz (by decide))
      refine G.aload_n 0 rfl rfl dX7_where_11 ?_
      refine G.get 0 (by omega) c0 rfl twX7 7 (by decide) tb_221 rfl rfl dX7_where_12 ?_
      refine G.topi (nI 1) (rfl) ?_
      refine G.nif_eq 39 dX7_where_15 rfl (by decide) (fun zz => absurd zz (by decide)) (fun _ => ?_)
      refine G.aload_n 0 rfl rfl dX7_where_18 ?_
      refine G.get 0 (by omega) c0 rfl twX7 4 (by decide) tb_218 rfl rfl dX7_where_19 ?_
      cases df with
      | none =>
        have kd := k1 rfl
        subst kd
        refine G.callV (n := 0) 15 (c_X1_hasDifference (k := 15) k0 (by omega) (Or.inl nI_0)) rfl (by omega) k0 rfl tb_578 tb_579 tb_580 tb_38 tb_581 (by decide +kernel) rfl ⟨(Nat.le_of_ble_eq_true rfl), (Nat.le_of_ble_eq_true rfl)⟩ ⟨rfl, rfl⟩ (Nat.le_of_ble_eq_true rfl) ⟨Nat.zero_le _, Nat.zero_le _⟩ dX7_where_22 (fun gr4 gw3 hp => ?_)
        obtain ⟨rfl, rfl⟩ := hp
        refine G.nif_eq 39 dX7_where_25 rfl (by decide) (fun _ => ?_) (fun zz => absurd zz (by decide))
        refine G.bipush (v := -4) dX7_where_39 (by decide +kernel) ?_
        refine G.iret rfl rfl rfl dX7_where_41 ?_
        exact hret _ _ ⟨rfl, by simp [sWhere, zw1]⟩
      | some y =>
        obtain ⟨kd, kx⟩ := k2 y rfl
        subst kd
        subst kx
        refine G.callV (n := 0) 15 (c_X1_hasDifference (k := 15) k0 (by omega) (Or.inr rfl)) rfl (by omega) k0 rfl tb_578 tb_579 tb_580 tb_38 tb_581 (by decide +kernel) rfl ⟨(Nat.le_of_ble_eq_true rfl), (Nat.le_of_ble_eq_true rfl)⟩ ⟨rfl, rfl⟩ (Nat.le_of_ble_eq_true rfl) ⟨Nat.zero_le _, Nat.zero_le _⟩ dX7_where_22 (fun gr6 gw5 hp => ?_)
        obtain ⟨rfl, rfl⟩ := hp
        refine G.nif_eq 39 dX7_where_25 rfl (by decide) (fun zz => absurd zz (by decide)) (fun _ => ?_)
        refine G.aload_n 0 rfl rfl dX7_where_28 ?_
        refine G.get 0 (by omega) c0 rfl twX7 4 (by decide) tb_218 rfl rfl dX7_where_29 ?_
        refine G.iload_n 1 rfl rfl dX7_where_32 ?_
        refine G.callV (n := 1) 15 (c_X1_partOfDifference (k := 15) k0 (by omega) (show wn < 3 by omega)) rfl (by omega) k0 rfl tb_582 tb_583 tb_584 tb_38 tb_585 (by decide +kernel) rfl ⟨(Nat.le_of_ble_eq_true rfl), (Nat.le_of_ble_eq_true rfl)⟩ ⟨rfl, rfl⟩ (Nat.le_of_ble_eq_true rfl) ⟨Nat.zero_le _, Nat.zero_le _⟩ dX7_where_33 (fun gr8 gw7 hp => ?_)
        obtain ⟨rfl, rfl⟩ := hp
        refine G.goto 41 dX7_where_36 rfl ?_
        refine G.iret rfl rfl rfl dX7_where_41 ?_
        refine hret _ _ ⟨rfl, ?_⟩
        rcases (show wn = 0 ∨ wn = 1 ∨ wn = 2 by omega) with rfl | rfl | rfl
        · simp [sWhere, show wi 0 0 (nI 2) = true from zw1, nI_0]
        · simp [sWhere, zw1, show ¬ nI 1 = 0 by decide, show nI 1 = 1 by decide]
          simp [show wi 1 (nI 0) (nI 2) = true from zw1]
        · simp [sWhere, zw1, show ¬ nI 2 = 0 by decide, show ¬ nI 2 = 1 by decide]
theorem c_X7_count (hC : isC t ad w A I O Td jd J fc df) (hN : 132 ≤ N) (what : Int32) :
    K l t yX7_count cX7_count 2 (some .int) (rD 1) N ad w [.ref (ad 0), .int what]
      (fun res w' => w = w' ∧ res = some (.int (sCount A O fc what))) := by
  have zC := hC
  obtain ⟨c0, cA, cT, cOA, cP, cC, cCR, cOps, cw, cd⟩ := hC
  have z12 := cw.2.1
  have z6k := cw.2.2.1
  refine K.of (own := RX7) (lv := [(0, .ref (ad 0)), (1, .int what)]) (by decide +kernel) rfl (Nat.le_of_ble_eq_true rfl) rfl (fun P post hret => ?_)
  refine G.iload_n 1 rfl rfl dX7_count_0 ?_
  rcases pk_ix what (n := 3) (by omega) with q | q | ⟨j, hj, rfl⟩
  · skip
    refine G.tableOut 46 dX7_count_1 ((by left; rw [Int32.lt_iff_toInt_lt] at q; exact q)) rfl ?_
    refine G.iconst (v := -1) dX7_count_46 (by decide +kernel) ?_
    refine G.iret rfl rfl rfl dX7_count_47 ?_
    have q0 : ¬ what = 0 := fun e => by rw [e] at q; exact absurd q (by decide)
    have q1 : ¬ what = 1 := fun e => by rw [e] at q; exact absurd q (by decide)
    have q2 : ¬ what = 2 := fun e => by rw [e] at q; exact absurd q (by decide)
    exact hret _ _ ⟨rfl, by rw [sCount, if_neg q0, if_neg q1, if_neg q2]⟩
  · skip
    refine G.tableOut 46 dX7_count_1 ((by right; rw [Int32.le_iff_toInt_le] at q; exact Int.lt_of_lt_of_le (by decide) q)) rfl ?_
    refine G.iconst (v := -1) dX7_count_46 (by decide +kernel) ?_
    refine G.iret rfl rfl rfl dX7_count_47 ?_
    have q0 : ¬ what = 0 := fun e => by rw [e] at q; exact absurd q (by decide)
    have q1 : ¬ what = 1 := fun e => by rw [e] at q; exact absurd q (by decide)
    have q2 : ¬ what = 2 := fun e => by rw [e] at q; exact absurd q (by decide)
    exact hret _ _ ⟨rfl, by rw [sCount, if_neg q0, if_neg q1, if_neg q2]⟩
  · skip
    rcases (show j = 0 ∨ j = 1 ∨ j = 2 by omega) with rfl | rfl | rfl
    · skip
      refine G.tableIn (off := 27) 28 dX7_count_1 (by decide +kernel) (by decide +kernel) (by decide +kernel) rfl ?_
      refine G.aload_n 0 rfl rfl dX7_count_28 ?_
      refine G.get 0 (by omega) c0 rfl twX7 0 (by decide) tb_214 rfl rfl dX7_count_29 ?_
      refine G.callV (n := 0) 1 (c_X0_size (k := 1) cA (by omega)) rfl (by omega) cA.obj.1 rfl tb_252 tb_253 tb_254 tb_34 tb_255 (by decide +kernel) rfl ⟨(Nat.le_of_ble_eq_true rfl), (Nat.le_of_ble_eq_true rfl)⟩ ⟨rfl, rfl⟩ (Nat.le_of_ble_eq_true rfl) ⟨Nat.zero_le _, Nat.zero_le _⟩ dX7_count_32 (fun gr2 gw1 hp => ?_)
      obtain ⟨rfl, rfl⟩ := hp
      refine G.iret rfl rfl rfl dX7_count_35 ?_
      exact hret _ _ ⟨rfl, by rw [sCount, if_pos nI_0]⟩
    · skip
      refine G.tableIn (off := 35) 36 dX7_count_1 (by decide +kernel) (by decide +kernel) (by decide +kernel) rfl ?_
      refine G.aload_n 0 rfl rfl dX7_count_36 ?_
      refine G.get 0 (by omega) c0 rfl twX7 5 (by decide) tb_219 rfl rfl dX7_count_37 ?_
      refine G.iret rfl rfl rfl dX7_count_40 ?_
      exact hret _ _ ⟨rfl, by rw [sCount, if_neg (by decide), if_pos (by decide)]⟩
    · skip
      refine G.tableIn (off := 40) 41 dX7_count_1 (by decide +kernel) (by decide +kernel) (by decide +kernel) rfl ?_
      refine G.aload_n 0 rfl rfl dX7_count_41 ?_
      refine G.get 0 (by omega) c0 rfl twX7 6 (by decide) tb_220 rfl rfl dX7_count_42 ?_
      refine G.iret rfl rfl rfl dX7_count_45 ?_
      exact hret _ _ ⟨rfl, by rw [sCount, if_neg (by decide), if_neg (by decide), if_pos (by decide)]⟩
theorem c_X7_drop (hC : isC t ad w A I O Td jd J fc df) (hN : 132 ≤ N) :
    K l t yX7_drop cX7_drop 2 (some .int) (rD 2) N ad w [.ref (ad 0)]
      (fun res w' => res = some (.int (if O.length = 0 then -3 else nI (O.length - 1))) ∧ isC t ad w' A I O.dropLast (if O.length = 0 then Td else va_up Td (O.length - 1) []) (if O.length = 0 then jd else false) J fc (if O.length = 0 then df else none) ∧ ∀ i, 132 ≤ i → w' i = w i) := by
  have zC := hC
  obtain ⟨c0, cA, cT, cOA, cP, cC, cCR, cOps, cw, cd⟩ := hC
  have z12 := cw.2.1
  have z6k := cw.2.2.1
  refine K.of (own := RX7) (lv := [(0, .ref (ad 0))]) (by decide +kernel) rfl (Nat.le_of_ble_eq_true rfl) rfl (fun P post hret => ?_)
  cases hn : O.length with
  | zero =>
    have hO : O = [] := List.eq_nil_of_length_eq_zero hn
    rw [hn, if_pos rfl, if_pos rfl, if_pos rfl, if_pos rfl] at hret
    rw [hn] at c0
    refine G.aload_n 0 rfl rfl dX7_drop_0 ?_
    refine G.aload_n 0 rfl rfl dX7_drop_1 ?_
    refine G.get 0 (by omega) c0 rfl twX7 5 (by decide) tb_219 rfl rfl dX7_drop_2 ?_
    refine G.iconst (v := nI 1) dX7_drop_5 (by decide +kernel) ?_
    refine G.isub dX7_drop_6 ?_
    refine G.callV (n := 1) 0 (c_X7_operatorAt c0 cOA (by omega) hN (nI 0 - nI 1)) rfl (by omega) c0 rfl tb_308 tb_310 tb_3 tb_33 tb_311 (by decide +kernel) rfl ⟨(Nat.le_of_ble_eq_true rfl), (Nat.le_of_ble_eq_true rfl)⟩ ⟨rfl, rfl⟩ (Nat.le_of_ble_eq_true rfl) ⟨Nat.zero_le _, Nat.zero_le _⟩ dX7_drop_7 (fun gr2 gw1 hp => ?_)
    obtain ⟨rfl, zc⟩ := hp
    rcases zc with ⟨j, zj, -⟩ | ⟨-, rfl⟩
    · have := (ix_some zj).1; omega
    refine G.astore_nN [(1, .null), (0, .ref (ad 0))] dX7_drop_10 rfl (by decide) rfl ?_
    refine G.aload_nN 0 rfl rfl dX7_drop_11 ?_
    refine G.ifnonnullN dX7_drop_12 ?_
    refine G.bipush (v := -3) dX7_drop_15 (by decide +kernel) ?_
    refine G.iret rfl rfl rfl dX7_drop_17 ?_
    refine hret _ _ ⟨rfl, ?_, fun _ _ => rfl⟩
    rw [hO] at zC ⊢
    exact zC
  | succ n =>
    rw [hn, if_neg (by omega), if_neg (by omega), if_neg (by omega), if_neg (by omega)] at hret
    rw [hn] at c0
    obtain ⟨kd, p, q, a, b, u, z, x, G1, ⟨g0, g1, g2⟩, g3⟩ := cOps n (by omega)
    refine G.aload_n 0 rfl rfl dX7_drop_0 ?_
    refine G.aload_n 0 rfl rfl dX7_drop_1 ?_
    refine G.get 0 (by omega) c0 rfl twX7 5 (by decide) tb_219 rfl rfl dX7_drop_2 ?_
    refine G.iconst (v := nI 1) dX7_drop_5 (by decide +kernel) ?_
    refine G.isub dX7_drop_6 ?_
    refine G.topi (nI n) (pk_sub (by omega)) ?_
    refine G.callV (n := 1) 0 (c_X7_operatorAt c0 cOA (by omega) hN (nI n)) rfl (by omega) c0 rfl tb_308 tb_310 tb_3 tb_33 tb_311 (by decide +kernel) rfl ⟨(Nat.le_of_ble_eq_true rfl), (Nat.le_of_ble_eq_true rfl)⟩ ⟨rfl, rfl⟩ (Nat.le_of_ble_eq_true rfl) ⟨Nat.zero_le _, Nat.zero_le _⟩ dX7_drop_7 (fun gr4 gw3 hp => ?_)
    obtain ⟨rfl, zc⟩ := hp
    rcases zc with ⟨j, zj, rfl⟩ | ⟨zj, -⟩
    rotate_left
    · rw [ix_n (by omega), if_pos (by omega)] at zj; cases zj
    obtain rfl : n = j := by rw [ix_n (by omega), if_pos (by omega)] at zj; cases zj; rfl
    refine G.astore_n [(1, .ref (ad (24 + 9 * n))), (0, .ref (ad 0))] dX7_drop_10 rfl (by decide) rfl ?_
    refine G.aload_n 0 rfl rfl dX7_drop_11 ?_
    refine G.ifnonnull 18 dX7_drop_12 rfl ?_
    refine G.aload_n 0 rfl rfl dX7_drop_18 ?_
    refine G.getN (24 + 9 * n) (by omega) g0 rfl twX2 1 (by decide) _ (List.mem_of_getElem? (i := 2) rfl) rfl rfl rfl dX7_drop_19 ?_
    refine G.callV (n := 0) (24 + 9 * n + 5) (c_X4_empty g2 (by omega)) rfl (by omega) g2.obj rfl tb_336 tb_337 tb_338 tb_39 tb_339 (by decide +kernel) rfl ⟨(Nat.le_of_ble_eq_true rfl), (Nat.le_of_ble_eq_true rfl)⟩ ⟨rfl, rfl⟩ (Nat.le_of_ble_eq_true rfl) ⟨Nat.zero_le _, Nat.zero_le _⟩ dX7_drop_22 (fun gr5 zw hp => ?_)
    obtain ⟨rfl, hR1, hf⟩ := hp
    refine G.aload_n 1 rfl rfl dX7_drop_25 ?_
    refine G.dup rfl dX7_drop_26 ?_
    have gh6 := (hf 0 (by omega)).trans c0
    refine G.get 0 (by omega) gh6 rfl twX7 5 (by decide) tb_219 rfl rfl dX7_drop_27 ?_
    refine G.iconst (v := nI 1) dX7_drop_30 (by decide +kernel) ?_
    refine G.isub dX7_drop_31 ?_
    refine G.topi (nI n) (pk_sub (by omega)) ?_
    refine G.put 0 (by omega) gh6 rfl twX7 5 (by decide) tyX7 tyX7_ok nmX7 tb_219 rfl rfl (tyX7_ok 5 (by decide)) rfl rfl (Nat.le_of_ble_eq_true rfl) dX7_drop_32 (fun gw7 gh8 gf9 => ?_)
    refine G.aload_n 1 rfl rfl dX7_drop_35 ?_
    have zc0 := gh8
    have hfr : ∀ i, i ≠ 0 → gw7 i = zw i := fun i hi => gf9 i (by omega)
    have zcm : isCmp t ad gw7 15 df := cC.keep ((hfr 15 (by omega)).trans (hf 15 (by omega)))
    refine G.callV (n := 0) 0 (c_X7_forgetJudged zc0 zcm hN) rfl (by omega) gh8 rfl tb_292 tb_294 tb_1 tb_33 tb_295 (by decide +kernel) rfl ⟨(Nat.le_of_ble_eq_true rfl), (Nat.le_of_ble_eq_true rfl)⟩ ⟨rfl, rfl⟩ (Nat.le_of_ble_eq_true rfl) ⟨Nat.zero_le _, Nat.zero_le _⟩ dX7_drop_36 (fun gr10 zw2 hp => ?_)
    obtain ⟨rfl, h0, h1, hf2⟩ := hp
    refine G.aload_n 1 rfl rfl dX7_drop_39 ?_
    refine G.get 0 (by omega) h0 rfl twX7 5 (by decide) tb_219 rfl rfl dX7_drop_40 ?_
    refine G.iret rfl rfl rfl dX7_drop_43 ?_
    have zf : ∀ i, i ≠ 0 → i ≠ 15 → (i < 24 + 9 * n + 5 ∨ 24 + 9 * n + 9 ≤ i) → zw2 i = w i := fun i i1 i2 i3 => (hf2 i i1 i2).trans ((hfr i i1).trans (hf i i3))
    have zl : O.dropLast.length = n := by rw [List.length_dropLast, hn]; rfl
    have zg : ∀ i, i < n → O.dropLast.getD i o0 = O.getD i o0 := fun i hi => by
      rw [List.getD_eq_getElem?_getD, List.getD_eq_getElem?_getD, List.getElem?_dropLast, if_pos (by omega)]
    have hT2 : isRows t ad zw2 (24 + 9 * n + 5) 40 [] := hR1.keep (fun i i1 i2 => (hf2 i (by omega) (by omega)).trans (hfr i (by omega)))
    refine hret _ _ ⟨rfl, ⟨by rw [zl]; exact h0, cA.keep (fun i i1 i2 => zf i (by omega) (by omega) (by omega)), cT.keep (fun i i1 i2 => zf i (by omega) (by omega) (by omega)), cOA.keep (zf 9 (by omega) (by omega) (by omega)), cP.keep (fun i i1 i2 => zf i (by omega) (by omega) (by omega)), h1, cCR.keep (fun i i1 i2 => zf i (by omega) (by omega) (by omega)), ?_, ⟨cw.1, by rw [zl]; omega, cw.2.2.1, fun i hi => by rw [zl] at hi; rw [zg i hi]; exact cw.2.2.2.1 i (by omega), cw.2.2.2.2⟩, fun i i1 i2 => ?_⟩, fun i hi => zf i (by omega) (by omega) (by omega)⟩
    · intro i hi
      obtain ⟨kd', p', q', a', b', u', z', x', G', ⟨y1, y2, y3⟩, y4⟩ := cOps i hi
      refine ⟨kd', p', q', a', b', u', z', x', G', ⟨(zf _ (by omega) (by omega) (by omega)).trans y1, y2.keep (fun k k1 k2 => zf k (by omega) (by omega) (by omega)), ?_⟩, fun h => ?_⟩
      · show isRows t ad zw2 (24 + 9 * i + 5) 40 (va_up Td (n + 1 - 1) [] i)
        rw [Nat.add_sub_cancel]
        by_cases q : i = n
        · subst q; rw [va_up_self]; exact hT2
        · rw [va_up_ne _ _ q]; exact y3.keep (fun k k1 k2 => zf k (by omega) (by omega) (by omega))
      · rw [zl] at h
        rw [zg i h]
        exact ⟨(y4 (by omega)).1, fun h => by cases h⟩
    · rw [zl] at i1
      show va_up Td (n + 1 - 1) [] i = []
      rw [Nat.add_sub_cancel]
      by_cases q : i = n
      · subst q; rw [va_up_self]
      · rw [va_up_ne _ _ q]; exact cd i (by omega) i2
theorem c_X7_clear (hC : isC t ad w A I O Td jd J fc df) (hN : 132 ≤ N) :
    K l t yX7_clear cX7_clear 4 (some .int) (rD 2) N ad w [.ref (ad 0)]
      (fun res w' => res = some (.int (nI O.length)) ∧ isC t ad w' [] (fun _ => 0) [] (fun _ => []) false J fc none ∧ ∀ i, 132 ≤ i → w' i = w i) := by
  have zC := hC
  obtain ⟨c0, cA, cT, cOA, cP, cC, cCR, cOps, cw, cd⟩ := hC
  have z12 := cw.2.1
  have z6k := cw.2.2.1
  obtain ⟨f, f0, f1⟩ := id cOA
  refine K.of (own := RX7) (lv := [(0, .ref (ad 0))]) (by decide +kernel) rfl (Nat.le_of_ble_eq_true rfl) rfl (fun P post hret => ?_)
  refine G.aload_n 0 rfl rfl dX7_clear_0 ?_
  refine G.get 0 (by omega) c0 rfl twX7 5 (by decide) tb_219 rfl rfl dX7_clear_1 ?_
  refine G.istore_n [(1, .int (nI O.length)), (0, .ref (ad 0))] dX7_clear_4 rfl (by decide) rfl ?_
  refine G.iconst (v := nI 0) dX7_clear_5 (by decide +kernel) ?_
  refine G.istore_n [(2, .int (nI 0)), (1, .int (nI O.length)), (0, .ref (ad 0))] dX7_clear_6 rfl (by decide) rfl ?_
  refine G.pick [2, 1, 0] [(0, .ref (ad 0)), (1, .int (nI O.length)), (2, .int (nI 0))] rfl ?_
  have loop : ∀ (m i : Nat) (zw : Nat → va_E) (T' : Nat → List RW), i + m = 12 → isOps t ad zw O T' jd J → (∀ k, k < i → T' k = []) → (∀ k, k < 24 ∨ 132 ≤ k → zw k = w k) → G l t (rD 2) P cX7_clear 4 RX7 (some .int) post 0 0 N ad 0 0 7 [(0, .ref (ad 0)), (1, .int (nI O.length)), (2, .int (nI i))] [] zw := by
    intro m
    induction m with
    | zero =>
      intro i zw T' hi hO2 hT2 hf
      have cA2 : isArr t ad zw 1 A := cA.keep (fun i i1 i2 => hf i (by omega))
      refine G.iload_n 2 rfl rfl dX7_clear_7 ?_
      refine G.aload_n 0 rfl rfl dX7_clear_8 ?_
      refine G.get 0 (by omega) ((hf 0 (by omega)).trans c0) rfl twX7 2 (by decide) tb_216 rfl rfl dX7_clear_9 ?_
      refine G.alen 9 (by omega) 3 ((hf 9 (by omega)).trans f0) rfl (v := nI 12) rfl dX7_clear_12 ?_
      refine G.ncmp_ge 40 dX7_clear_13 rfl (by omega) (by omega) (fun c13 => ?_) (fun c13 => ?_)
      · skip
        refine G.aload_n 0 rfl rfl dX7_clear_40 ?_
        refine G.get 0 (by omega) ((hf 0 (by omega)).trans c0) rfl twX7 0 (by decide) tb_214 rfl rfl dX7_clear_41 ?_
        refine G.callV (n := 0) 1 (c_X0_empty (k := 1) cA2 (by omega)) rfl (by omega) cA2.obj.1 rfl tb_276 tb_277 tb_278 tb_34 tb_279 (by decide +kernel) rfl ⟨(Nat.le_of_ble_eq_true rfl), (Nat.le_of_ble_eq_true rfl)⟩ ⟨rfl, rfl⟩ (Nat.le_of_ble_eq_true rfl) ⟨Nat.zero_le _, Nat.zero_le _⟩ dX7_clear_44 (fun gr1 zw2 hp => ?_)
        obtain ⟨rfl, hA2, hf2⟩ := hp
        have cT2 : isTab t ad zw2 7 I := cT.keep (fun i i1 i2 => (hf2 i (by omega)).trans (hf i (by omega)))
        obtain ⟨I', t0, t1, t2⟩ := id cT2
        refine G.aload_n 0 rfl rfl dX7_clear_47 ?_
        have gh2 := (hf2 0 (by omega)).trans ((hf 0 (by omega)).trans c0)
        refine G.get 0 (by omega) gh2 rfl twX7 1 (by decide) tb_215 rfl rfl dX7_clear_48 ?_
        refine G.callV (n := 0) 7 (c_X6_empty (k := 7) cT2 (by omega)) rfl (by omega) t0 rfl tb_594 tb_595 tb_596 tb_35 tb_597 (by decide +kernel) rfl ⟨(Nat.le_of_ble_eq_true rfl), (Nat.le_of_ble_eq_true rfl)⟩ ⟨rfl, rfl⟩ (Nat.le_of_ble_eq_true rfl) ⟨Nat.zero_le _, Nat.zero_le _⟩ dX7_clear_51 (fun gr3 zw3 hp => ?_)
        obtain ⟨rfl, hT3, hf3⟩ := hp
        refine G.aload_n 0 rfl rfl dX7_clear_54 ?_
        refine G.iconst (v := nI 0) dX7_clear_55 (by decide +kernel) ?_
        have gh4 := (hf3 0 (by omega)).trans gh2
        refine G.put 0 (by omega) gh4 rfl twX7 5 (by decide) tyX7 tyX7_ok nmX7 tb_219 rfl rfl (tyX7_ok 5 (by decide)) rfl rfl (Nat.le_of_ble_eq_true rfl) dX7_clear_56 (fun gw5 gh6 gf7 => ?_)
        refine G.aload_n 0 rfl rfl dX7_clear_59 ?_
        have zc0 := gh6
        have hfr : ∀ i, i ≠ 0 → gw5 i = zw3 i := fun i hi => gf7 i (by omega)
        have zg : ∀ i, i ≠ 0 → (i < 1 ∨ 9 ≤ i) → i ≠ 15 → (i < 24 ∨ 132 ≤ i) → gw5 i = w i := fun i i1 i2 i3 i4 => (hfr i i1).trans ((hf3 i (by omega)).trans ((hf2 i (by omega)).trans (hf i i4)))
        have zcm : isCmp t ad gw5 15 df := cC.keep ((hfr 15 (by omega)).trans ((hf3 15 (by omega)).trans ((hf2 15 (by omega)).trans (hf 15 (by omega)))))
        refine G.callV (n := 0) 0 (c_X7_forgetJudged zc0 zcm hN) rfl (by omega) gh6 rfl tb_292 tb_294 tb_1 tb_33 tb_295 (by decide +kernel) rfl ⟨(Nat.le_of_ble_eq_true rfl), (Nat.le_of_ble_eq_true rfl)⟩ ⟨rfl, rfl⟩ (Nat.le_of_ble_eq_true rfl) ⟨Nat.zero_le _, Nat.zero_le _⟩ dX7_clear_60 (fun gr8 zw4 hp => ?_)
        obtain ⟨rfl, h0, h1, hf4⟩ := hp
        refine G.iload_n 1 rfl rfl dX7_clear_63 ?_
        refine G.iret rfl rfl rfl dX7_clear_64 ?_
        have zf : ∀ i, i ≠ 0 → (i < 1 ∨ 9 ≤ i) → i ≠ 15 → (i < 24 ∨ 132 ≤ i) → zw4 i = w i := fun i i1 i2 i3 i4 => (hf4 i i1 i3).trans (zg i i1 i2 i3 i4)
        refine hret _ _ ⟨rfl, ⟨h0, hA2.keep (fun i i1 i2 => (hf4 i (by omega) (by omega)).trans ((hfr i (by omega)).trans (hf3 i (by omega)))), hT3.keep (fun i i1 i2 => (hf4 i (by omega) (by omega)).trans (hfr i (by omega))), cOA.keep (zf 9 (by omega) (by omega) (by omega) (by omega)), cP.keep (fun i i1 i2 => zf i (by omega) (by omega) (by omega) (by omega)), h1, cCR.keep (fun i i1 i2 => zf i (by omega) (by omega) (by omega) (by omega)), ?_, ⟨by simp, by simp, cw.2.2.1, fun i hi => by simp at hi, fun i hi => by simp at hi⟩, fun _ _ _ => rfl⟩, fun i hi => zf i (by omega) (by omega) (by omega) (by omega)⟩
        intro k hk
        obtain ⟨kd', p', q', a', b', u', z', x', G', y1, y4⟩ := hO2 k hk
        rw [hT2 k (by omega)] at y1
        exact ⟨kd', p', q', a', b', u', z', x', G', y1.keep (fun i i1 i2 => (hf4 i (by omega) (by omega)).trans ((hfr i (by omega)).trans ((hf3 i (by omega)).trans (hf2 i (by omega))))), fun h => by simp at h⟩
      · skip
        omega
    | succ m ih =>
      intro i zw T' hi hO2 hT2 hf
      obtain ⟨kd, p, q, a, b, u, z, x, G1, ⟨g0, g1, g2⟩, g3⟩ := hO2 i (by omega)
      refine G.iload_n 2 rfl rfl dX7_clear_7 ?_
      refine G.aload_n 0 rfl rfl dX7_clear_8 ?_
      refine G.get 0 (by omega) ((hf 0 (by omega)).trans c0) rfl twX7 2 (by decide) tb_216 rfl rfl dX7_clear_9 ?_
      refine G.alen 9 (by omega) 3 ((hf 9 (by omega)).trans f0) rfl (v := nI 12) rfl dX7_clear_12 ?_
      refine G.ncmp_ge 40 dX7_clear_13 rfl (by omega) (by omega) (fun c13 => ?_) (fun c13 => ?_)
      · skip
        omega
      · skip
        refine G.aload_n 0 rfl rfl dX7_clear_16 ?_
        refine G.get 0 (by omega) ((hf 0 (by omega)).trans c0) rfl twX7 2 (by decide) tb_216 rfl rfl dX7_clear_17 ?_
        refine G.iload_n 2 rfl rfl dX7_clear_20 ?_
        refine G.aldq 9 (by omega) ((hf 9 (by omega)).trans f0) i (rfl) (by omega) (by omega) dX7_clear_21 ?_
        rw [f1 i (by omega)]
        refine G.astore_n [(3, .ref (ad (24 + 9 * i))), (0, .ref (ad 0)), (1, .int (nI O.length)), (2, .int (nI i))] dX7_clear_22 rfl (by decide) rfl ?_
        refine G.aload_n 0 rfl rfl dX7_clear_23 ?_
        refine G.ifnull dX7_clear_24 ?_
        refine G.aload_n 0 rfl rfl dX7_clear_27 ?_
        refine G.getN (24 + 9 * i) (by omega) g0 rfl twX2 1 (by decide) _ (List.mem_of_getElem? (i := 2) rfl) rfl rfl rfl dX7_clear_28 ?_
        refine G.callV (n := 0) (24 + 9 * i + 5) (c_X4_empty g2 (by omega)) rfl (by omega) g2.obj rfl tb_336 tb_337 tb_338 tb_39 tb_339 (by decide +kernel) rfl ⟨(Nat.le_of_ble_eq_true rfl), (Nat.le_of_ble_eq_true rfl)⟩ ⟨rfl, rfl⟩ (Nat.le_of_ble_eq_true rfl) ⟨Nat.zero_le _, Nat.zero_le _⟩ dX7_clear_31 (fun gr9 zw2 hp => ?_)
        obtain ⟨rfl, hR1, hf2⟩ := hp
        refine G.iinc (v := nI (i + 1)) [(2, .int (nI (i + 1))), (3, .ref (ad (24 + 9 * i))), (0, .ref (ad 0)), (1, .int (nI O.length))] 3 dX7_clear_34 rfl (nI_add i 1) (by decide) rfl ?_
        refine G.goto 7 dX7_clear_37 rfl ?_
        refine G.pick [2, 3, 0] [(0, .ref (ad 0)), (1, .int (nI O.length)), (2, .int (nI (i + 1)))] rfl ?_
        refine ih (i + 1) zw2 (va_up T' i []) (by omega) (ops_told hO2 (by omega) hR1 hf2) (fun k hk => ?_) (fun k hk => (hf2 k (by omega)).trans (hf k hk))
        by_cases q : k = i
        · subst q; rw [va_up_self]
        · rw [va_up_ne _ _ q]; exact hT2 k (by omega)
  exact loop 12 0 w Td rfl cOps (fun k hk => by omega) (fun _ _ => rfl)
end TopC

