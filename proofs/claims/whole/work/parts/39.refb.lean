/-! the reference: what is shown, told, cleared -/
section RefB
variable {l : Launch} {t : TT} {N : Nat} {ad : Nat → Nat} {w : Nat → va_E} {A : List AR} {I : Nat → Int32} {O : List OD} {Td : Nat → List RW} {jd : Bool} {J : Nat → JR} {fc : Nat} {df : DF}
theorem c_X8_rows (hM : isM t ad w A I O Td jd J fc df) (cw : okS A O fc) (hN : 153 ≤ N) (op0 : Int32) :
    K l t yX8_rows cX8_rows 2 (some .int) (rD 2) N ad w [.ref (ad 132), .int op0]
      (fun res w' => w = w' ∧ res = some (.int (sRows O jd J op0))) := by
  have zM := hM
  obtain ⟨io, op, ot, ok, nw, fa, c0, cA, cT, cO, cR, cTd, cf⟩ := hM
  have zA := cw.1
  have z12 := cw.2.1
  have z9k := cw.2.2.1
  obtain ⟨Ur, Mr, Fr, Tr, Yr, Vr, r1, r2, r3, r4, r5, r6, r7⟩ := id cR
  refine K.of (own := RX8) (lv := [(0, .ref (ad 132)), (1, .int op0)]) (by decide +kernel) rfl (Nat.le_of_ble_eq_true rfl) rfl (fun P post hret => ?_)
  refine G.aload_n 0 rfl rfl dX8_rows_0 ?_
  refine G.iload_n 1 rfl rfl dX8_rows_1 ?_
  refine G.callV (n := 1) 132 (c_X8_isOperator c0 (by omega) (by omega) op0) rfl (by omega) c0 rfl tb_728 tb_730 tb_15 tb_42 tb_731 (by decide +kernel) rfl ⟨(Nat.le_of_ble_eq_true rfl), (Nat.le_of_ble_eq_true rfl)⟩ ⟨rfl, rfl⟩ (Nat.le_of_ble_eq_true rfl) ⟨Nat.zero_le _, Nat.zero_le _⟩ dX8_rows_2 (fun gr2 gw1 hp => ?_)
  obtain ⟨rfl, rfl⟩ := hp
  cases zi : ix O.length op0 with
  | none =>
    refine G.nif_ne 12 dX8_rows_5 rfl (by decide) (fun zz => absurd zz (by decide)) (fun _ => ?_)
    refine G.iconst (v := -1) dX8_rows_8 (by decide +kernel) ?_
    refine G.goto 44 dX8_rows_9 rfl ?_
    refine G.iret rfl rfl rfl dX8_rows_44 ?_
    exact hret _ _ ⟨rfl, by simp only [sRows, zi]⟩
  | some j =>
    rw [show (some j).isSome = true from rfl]
    obtain ⟨j1, j2, rfl⟩ := ix_some zi
    cases jd
    · skip
      refine G.nif_ne 12 dX8_rows_5 rfl (by decide) (fun _ => ?_) (fun zz => absurd zz (by decide))
      refine G.aload_n 0 rfl rfl dX8_rows_12 ?_
      refine G.get 132 (by omega) c0 rfl twX8 12 (by decide) tb_616 rfl rfl dX8_rows_13 ?_
      refine G.nif_ne 24 dX8_rows_16 rfl (by decide) (fun zz => absurd zz (by decide)) (fun _ => ?_)
      refine G.bipush (v := -3) dX8_rows_19 (by decide +kernel) ?_
      refine G.goto 44 dX8_rows_21 rfl ?_
      refine G.iret rfl rfl rfl dX8_rows_44 ?_
      exact hret _ _ ⟨rfl, by simp only [sRows, zi]; rfl⟩
    · skip
      obtain ⟨u1, u2, u3, u4, u5, u6⟩ := r7 j j1
      refine G.nif_ne 12 dX8_rows_5 rfl (by decide) (fun _ => ?_) (fun zz => absurd zz (by decide))
      refine G.aload_n 0 rfl rfl dX8_rows_12 ?_
      refine G.get 132 (by omega) c0 rfl twX8 12 (by decide) tb_616 rfl rfl dX8_rows_13 ?_
      refine G.nif_ne 24 dX8_rows_16 rfl (by decide) (fun _ => ?_) (fun zz => absurd zz (by decide))
      refine G.aload_n 0 rfl rfl dX8_rows_24 ?_
      refine G.get 132 (by omega) c0 rfl twX8 13 (by decide) tb_617 rfl rfl dX8_rows_25 ?_
      refine G.iload_n 1 rfl rfl dX8_rows_28 ?_
      refine G.zald 143 (by omega) r1 j (rfl) (by omega) (by omega) dX8_rows_29 ?_
      refine G.topi (nI (bN (J j).1)) (u1) ?_
      cases zu : (J j).1
      · skip
        refine G.nif_eq 38 dX8_rows_30 rfl (by decide) (fun _ => ?_) (fun zz => absurd zz (by decide))
        refine G.aload_n 0 rfl rfl dX8_rows_38 ?_
        refine G.get 132 (by omega) c0 rfl twX8 14 (by decide) tb_618 rfl rfl dX8_rows_39 ?_
        refine G.iload_n 1 rfl rfl dX8_rows_42 ?_
        refine G.iald 144 (by omega) r2 j (rfl) (by omega) (by omega) dX8_rows_43 ?_
        refine G.iret rfl rfl rfl dX8_rows_44 ?_
        exact hret _ _ ⟨rfl, by simp only [sRows, zi, shw, zu, u2]; rfl⟩
      · skip
        refine G.nif_eq 38 dX8_rows_30 rfl (by decide) (fun zz => absurd zz (by decide)) (fun _ => ?_)
        refine G.bipush (v := -6) dX8_rows_33 (by decide +kernel) ?_
        refine G.goto 44 dX8_rows_35 rfl ?_
        refine G.iret rfl rfl rfl dX8_rows_44 ?_
        exact hret _ _ ⟨rfl, by simp only [sRows, zi, shw, zu]; rfl⟩
theorem c_X8_value (hM : isM t ad w A I O Td jd J fc df) (cw : okS A O fc) (hN : 153 ≤ N) (op0 i : Int32) :
    K l t yX8_value cX8_value 3 (some .long) (rD 2) N ad w [.ref (ad 132), .int op0, .int i]
      (fun res w' => w = w' ∧ res = some (.long (sValue O jd J op0 i))) := by
  have zM := hM
  obtain ⟨io, op, ot, ok, nw, fa, c0, cA, cT, cO, cR, cTd, cf⟩ := hM
  have zA := cw.1
  have z12 := cw.2.1
  have z9k := cw.2.2.1
  obtain ⟨Ur, Mr, Fr, Tr, Yr, Vr, r1, r2, r3, r4, r5, r6, r7⟩ := id cR
  refine K.of (own := RX8) (lv := [(0, .ref (ad 132)), (1, .int op0), (2, .int i)]) (by decide +kernel) rfl (Nat.le_of_ble_eq_true rfl) rfl (fun P post hret => ?_)
  refine G.aload_n 0 rfl rfl dX8_value_0 ?_
  refine G.iload_n 1 rfl rfl dX8_value_1 ?_
  refine G.callV (n := 1) 132 (c_X8_isOperator c0 (by omega) (by omega) op0) rfl (by omega) c0 rfl tb_728 tb_730 tb_15 tb_42 tb_731 (by decide +kernel) rfl ⟨(Nat.le_of_ble_eq_true rfl), (Nat.le_of_ble_eq_true rfl)⟩ ⟨rfl, rfl⟩ (Nat.le_of_ble_eq_true rfl) ⟨Nat.zero_le _, Nat.zero_le _⟩ dX8_value_2 (fun gr2 gw1 hp => ?_)
  obtain ⟨rfl, rfl⟩ := hp
  cases zi : ix O.length op0 with
  | none =>
    refine G.nif_eq 55 dX8_value_5 rfl (by decide) (fun _ => ?_) (fun zz => absurd zz (by decide))
    refine G.lconst (v := 0) dX8_value_55 (by decide +kernel) ?_
    refine G.lret rfl rfl rfl dX8_value_56 ?_
    exact hret _ _ ⟨rfl, by simp only [sValue, zi]⟩
  | some j =>
    rw [show (some j).isSome = true from rfl]
    obtain ⟨j1, j2, rfl⟩ := ix_some zi
    cases jd
    · skip
      refine G.nif_eq 55 dX8_value_5 rfl (by decide) (fun zz => absurd zz (by decide)) (fun _ => ?_)
      refine G.aload_n 0 rfl rfl dX8_value_8 ?_
      refine G.get 132 (by omega) c0 rfl twX8 12 (by decide) tb_616 rfl rfl dX8_value_9 ?_
      refine G.nif_eq 55 dX8_value_12 rfl (by decide) (fun _ => ?_) (fun zz => absurd zz (by decide))
      refine G.lconst (v := 0) dX8_value_55 (by decide +kernel) ?_
      refine G.lret rfl rfl rfl dX8_value_56 ?_
      exact hret _ _ ⟨rfl, by simp only [sValue, zi]; rw [if_neg (fun q => by cases q.1)]⟩
    · skip
      obtain ⟨u1, u2, u3, u4, u5, u6⟩ := r7 j j1
      refine G.nif_eq 55 dX8_value_5 rfl (by decide) (fun zz => absurd zz (by decide)) (fun _ => ?_)
      refine G.aload_n 0 rfl rfl dX8_value_8 ?_
      refine G.get 132 (by omega) c0 rfl twX8 12 (by decide) tb_616 rfl rfl dX8_value_9 ?_
      refine G.nif_eq 55 dX8_value_12 rfl (by decide) (fun zz => absurd zz (by decide)) (fun _ => ?_)
      refine G.aload_n 0 rfl rfl dX8_value_15 ?_
      refine G.get 132 (by omega) c0 rfl twX8 13 (by decide) tb_617 rfl rfl dX8_value_16 ?_
      refine G.iload_n 1 rfl rfl dX8_value_19 ?_
      refine G.zald 143 (by omega) r1 j (rfl) (by omega) (by omega) dX8_value_20 ?_
      refine G.topi (nI (bN (J j).1)) (u1) ?_
      cases zu : (J j).1
      · skip
        refine G.nif_ne 55 dX8_value_21 rfl (by decide) (fun zz => absurd zz (by decide)) (fun _ => ?_)
        refine G.iload_n 2 rfl rfl dX8_value_24 ?_
        refine G.iconst (v := nI 0) dX8_value_25 (by decide +kernel) ?_
        refine G.aload_n 0 rfl rfl dX8_value_26 ?_
        refine G.get 132 (by omega) c0 rfl twX8 14 (by decide) tb_618 rfl rfl dX8_value_27 ?_
        refine G.iload_n 1 rfl rfl dX8_value_30 ?_
        refine G.iald 144 (by omega) r2 j (rfl) (by omega) (by omega) dX8_value_31 ?_
        refine G.iconst (v := nI 1) dX8_value_32 (by decide +kernel) ?_
        refine G.isub dX8_value_33 ?_
        refine G.topi (nI (J j).2.1.length - nI 1) (by rw [u2]) ?_
        refine G.callS (n := 3) (c_X8_isIn i (nI 0) (nI (J j).2.1.length - nI 1)) rfl tb_699 tb_700 tb_42 tb_701 (by decide +kernel) rfl ⟨(Nat.le_of_ble_eq_true rfl), (Nat.le_of_ble_eq_true rfl)⟩ ⟨rfl, rfl⟩ (Nat.le_of_ble_eq_true rfl) ⟨Nat.zero_le _, Nat.zero_le _⟩ dX8_value_34 (fun gr4 gw3 hp => ?_)
        obtain ⟨rfl, rfl⟩ := hp
        rw [wi_ix (by omega)]
        cases zk : ix (J j).2.1.length i with
        | none =>
          refine G.nif_eq 55 dX8_value_37 rfl (by decide) (fun _ => ?_) (fun zz => absurd zz (by decide))
          refine G.lconst (v := 0) dX8_value_55 (by decide +kernel) ?_
          refine G.lret rfl rfl rfl dX8_value_56 ?_
          refine hret _ _ ⟨rfl, ?_⟩
          simp only [sValue, zi]
          rw [if_pos ⟨trivial, zu⟩]
          rcases ix_none zk with q | ⟨k, k1, k2, rfl⟩
          · rw [rAt_neg _ q]
          · rw [rAt_n _ k2, List.getD_eq_getElem?_getD, List.getElem?_eq_none k1]; rfl
        | some k =>
          rw [show (some k).isSome = true from rfl]
          obtain ⟨k1, k2, rfl⟩ := ix_some zk
          refine G.nif_eq 55 dX8_value_37 rfl (by decide) (fun zz => absurd zz (by decide)) (fun _ => ?_)
          refine G.aload_n 0 rfl rfl dX8_value_40 ?_
          refine G.get 132 (by omega) c0 rfl twX8 18 (by decide) tb_622 rfl rfl dX8_value_41 ?_
          refine G.sipush (v := nI 201) dX8_value_44 (by decide +kernel) ?_
          refine G.iload_n 1 rfl rfl dX8_value_47 ?_
          refine G.imul dX8_value_48 ?_
          refine G.topi (nI (201 * j)) (pk_mul 201 j) ?_
          refine G.iload_n 2 rfl rfl dX8_value_49 ?_
          refine G.iadd dX8_value_50 ?_
          refine G.topi (nI ((201 * j) + k)) (nI_add ((201 * j)) k) ?_
          refine G.lald 148 (by omega) r6 ((201 * j) + k) (rfl) (by omega) (by omega) dX8_value_51 ?_
          refine G.goto 56 dX8_value_52 rfl ?_
          refine G.lret rfl rfl rfl dX8_value_56 ?_
          refine hret _ _ ⟨rfl, ?_⟩
          simp only [sValue, zi]
          rw [if_pos ⟨trivial, zu⟩, rAt_n _ k2, u6 k k1]
      · skip
        refine G.nif_ne 55 dX8_value_21 rfl (by decide) (fun _ => ?_) (fun zz => absurd zz (by decide))
        refine G.lconst (v := 0) dX8_value_55 (by decide +kernel) ?_
        refine G.lret rfl rfl rfl dX8_value_56 ?_
        exact hret _ _ ⟨rfl, by simp only [sValue, zi]; rw [if_neg (fun q => by rw [zu] at q; cases q.2)]⟩
theorem c_X8_told (hM : isM t ad w A I O Td jd J fc df) (cw : okS A O fc) (hN : 153 ≤ N) (op0 i what : Int32) :
    K l t yX8_told cX8_told 4 (some .int) (rD 2) N ad w [.ref (ad 132), .int op0, .int i, .int what]
      (fun res w' => w = w' ∧ res = some (.int (sTold O jd J op0 i what))) := by
  have zM := hM
  obtain ⟨io, op, ot, ok, nw, fa, c0, cA, cT, cO, cR, cTd, cf⟩ := hM
  have zA := cw.1
  have z12 := cw.2.1
  have z9k := cw.2.2.1
  obtain ⟨Ur, Mr, Fr, Tr, Yr, Vr, r1, r2, r3, r4, r5, r6, r7⟩ := id cR
  refine K.of (own := RX8) (lv := [(0, .ref (ad 132)), (1, .int op0), (2, .int i), (3, .int what)]) (by decide +kernel) rfl (Nat.le_of_ble_eq_true rfl) rfl (fun P post hret => ?_)
  refine G.aload_n 0 rfl rfl dX8_told_0 ?_
  refine G.iload_n 1 rfl rfl dX8_told_1 ?_
  refine G.callV (n := 1) 132 (c_X8_isOperator c0 (by omega) (by omega) op0) rfl (by omega) c0 rfl tb_728 tb_730 tb_15 tb_42 tb_731 (by decide +kernel) rfl ⟨(Nat.le_of_ble_eq_true rfl), (Nat.le_of_ble_eq_true rfl)⟩ ⟨rfl, rfl⟩ (Nat.le_of_ble_eq_true rfl) ⟨Nat.zero_le _, Nat.zero_le _⟩ dX8_told_2 (fun gr2 gw1 hp => ?_)
  obtain ⟨rfl, rfl⟩ := hp
  cases zi : ix O.length op0 with
  | none =>
    refine G.nif_eq 17 dX8_told_5 rfl (by decide) (fun _ => ?_) (fun zz => absurd zz (by decide))
    refine G.iconst (v := -1) dX8_told_17 (by decide +kernel) ?_
    refine G.iret rfl rfl rfl dX8_told_18 ?_
    exact hret _ _ ⟨rfl, by simp only [sTold, zi]⟩
  | some j =>
    rw [show (some j).isSome = true from rfl]
    obtain ⟨j1, j2, rfl⟩ := ix_some zi
    refine G.nif_eq 17 dX8_told_5 rfl (by decide) (fun zz => absurd zz (by decide)) (fun _ => ?_)
    refine G.iload_n 3 rfl rfl dX8_told_8 ?_
    refine G.iconst (v := nI 0) dX8_told_9 (by decide +kernel) ?_
    refine G.iconst (v := nI 1) dX8_told_10 (by decide +kernel) ?_
    refine G.callS (n := 3) (c_X8_isIn what (nI 0) (nI 1)) rfl tb_699 tb_700 tb_42 tb_701 (by decide +kernel) rfl ⟨(Nat.le_of_ble_eq_true rfl), (Nat.le_of_ble_eq_true rfl)⟩ ⟨rfl, rfl⟩ (Nat.le_of_ble_eq_true rfl) ⟨Nat.zero_le _, Nat.zero_le _⟩ dX8_told_11 (fun gr4 gw3 hp => ?_)
    obtain ⟨rfl, rfl⟩ := hp
    cases zq : wi what (nI 0) (nI 1)
    · skip
      refine G.nif_ne 19 dX8_told_14 rfl (by decide) (fun zz => absurd zz (by decide)) (fun _ => ?_)
      refine G.iconst (v := -1) dX8_told_17 (by decide +kernel) ?_
      refine G.iret rfl rfl rfl dX8_told_18 ?_
      exact hret _ _ ⟨rfl, by simp only [sTold, zi, zq]; rfl⟩
    · skip
      cases jd
      · skip
        refine G.nif_ne 19 dX8_told_14 rfl (by decide) (fun _ => ?_) (fun zz => absurd zz (by decide))
        refine G.aload_n 0 rfl rfl dX8_told_19 ?_
        refine G.get 132 (by omega) c0 rfl twX8 12 (by decide) tb_616 rfl rfl dX8_told_20 ?_
        refine G.nif_ne 29 dX8_told_23 rfl (by decide) (fun zz => absurd zz (by decide)) (fun _ => ?_)
        refine G.bipush (v := -3) dX8_told_26 (by decide +kernel) ?_
        refine G.iret rfl rfl rfl dX8_told_28 ?_
        exact hret _ _ ⟨rfl, by simp only [sTold, zi, zq]; rfl⟩
      · skip
        obtain ⟨u1, u2, u3, u4, u5, u6⟩ := r7 j j1
        refine G.nif_ne 19 dX8_told_14 rfl (by decide) (fun _ => ?_) (fun zz => absurd zz (by decide))
        refine G.aload_n 0 rfl rfl dX8_told_19 ?_
        refine G.get 132 (by omega) c0 rfl twX8 12 (by decide) tb_616 rfl rfl dX8_told_20 ?_
        refine G.nif_ne 29 dX8_told_23 rfl (by decide) (fun _ => ?_) (fun zz => absurd zz (by decide))
        refine G.aload_n 0 rfl rfl dX8_told_29 ?_
        refine G.get 132 (by omega) c0 rfl twX8 13 (by decide) tb_617 rfl rfl dX8_told_30 ?_
        refine G.iload_n 1 rfl rfl dX8_told_33 ?_
        refine G.zald 143 (by omega) r1 j (rfl) (by omega) (by omega) dX8_told_34 ?_
        refine G.topi (nI (bN (J j).1)) (u1) ?_
        cases zu : (J j).1
        · skip
          refine G.nif_eq 43 dX8_told_35 rfl (by decide) (fun _ => ?_) (fun zz => absurd zz (by decide))
          refine G.iload_n 2 rfl rfl dX8_told_43 ?_
          refine G.iconst (v := nI 0) dX8_told_44 (by decide +kernel) ?_
          refine G.aload_n 0 rfl rfl dX8_told_45 ?_
          refine G.get 132 (by omega) c0 rfl twX8 14 (by decide) tb_618 rfl rfl dX8_told_46 ?_
          refine G.iload_n 1 rfl rfl dX8_told_49 ?_
          refine G.iald 144 (by omega) r2 j (rfl) (by omega) (by omega) dX8_told_50 ?_
          refine G.iconst (v := nI 1) dX8_told_51 (by decide +kernel) ?_
          refine G.isub dX8_told_52 ?_
          refine G.topi (nI (J j).2.1.length - nI 1) (by rw [u2]) ?_
          refine G.callS (n := 3) (c_X8_isIn i (nI 0) (nI (J j).2.1.length - nI 1)) rfl tb_699 tb_700 tb_42 tb_701 (by decide +kernel) rfl ⟨(Nat.le_of_ble_eq_true rfl), (Nat.le_of_ble_eq_true rfl)⟩ ⟨rfl, rfl⟩ (Nat.le_of_ble_eq_true rfl) ⟨Nat.zero_le _, Nat.zero_le _⟩ dX8_told_53 (fun gr6 gw5 hp => ?_)
          obtain ⟨rfl, rfl⟩ := hp
          rw [wi_ix (by omega)]
          cases zk : ix (J j).2.1.length i with
          | none =>
            refine G.nif_ne 64 dX8_told_56 rfl (by decide) (fun zz => absurd zz (by decide)) (fun _ => ?_)
            refine G.bipush (v := -4) dX8_told_59 (by decide +kernel) ?_
            refine G.goto 95 dX8_told_61 rfl ?_
            refine G.iret rfl rfl rfl dX8_told_95 ?_
            exact hret _ _ ⟨rfl, by simp only [sTold, zi, zq, shw, zu, zk]; rfl⟩
          | some k =>
            rw [show (some k).isSome = true from rfl]
            obtain ⟨k1, k2, rfl⟩ := ix_some zk
            refine G.nif_ne 64 dX8_told_56 rfl (by decide) (fun _ => ?_) (fun zz => absurd zz (by decide))
            refine G.iload_n 3 rfl rfl dX8_told_64 ?_
            refine G.if_ne 83 dX8_told_65 rfl (fun c65 => ?_) (fun c65 => ?_)
            · skip
              refine G.aload_n 0 rfl rfl dX8_told_83 ?_
              refine G.get 132 (by omega) c0 rfl twX8 17 (by decide) tb_621 rfl rfl dX8_told_84 ?_
              refine G.sipush (v := nI 201) dX8_told_87 (by decide +kernel) ?_
              refine G.iload_n 1 rfl rfl dX8_told_90 ?_
              refine G.imul dX8_told_91 ?_
              refine G.topi (nI (201 * j)) (pk_mul 201 j) ?_
              refine G.iload_n 2 rfl rfl dX8_told_92 ?_
              refine G.iadd dX8_told_93 ?_
              refine G.topi (nI ((201 * j) + k)) (nI_add ((201 * j)) k) ?_
              refine G.iald 147 (by omega) r5 ((201 * j) + k) (rfl) (by omega) (by omega) dX8_told_94 ?_
              refine G.iret rfl rfl rfl dX8_told_95 ?_
              refine hret _ _ ⟨rfl, ?_⟩
              simp only [sTold, zi, zq, shw, zu, zk]
              rw [if_neg c65, u6 k k1]; rfl
            · skip
              refine G.aload_n 0 rfl rfl dX8_told_68 ?_
              refine G.get 132 (by omega) c0 rfl twX8 16 (by decide) tb_620 rfl rfl dX8_told_69 ?_
              refine G.sipush (v := nI 201) dX8_told_72 (by decide +kernel) ?_
              refine G.iload_n 1 rfl rfl dX8_told_75 ?_
              refine G.imul dX8_told_76 ?_
              refine G.topi (nI (201 * j)) (pk_mul 201 j) ?_
              refine G.iload_n 2 rfl rfl dX8_told_77 ?_
              refine G.iadd dX8_told_78 ?_
              refine G.topi (nI ((201 * j) + k)) (nI_add ((201 * j)) k) ?_
              refine G.iald 146 (by omega) r4 ((201 * j) + k) (rfl) (by omega) (by omega) dX8_told_79 ?_
              refine G.goto 95 dX8_told_80 rfl ?_
              refine G.iret rfl rfl rfl dX8_told_95 ?_
              refine hret _ _ ⟨rfl, ?_⟩
              simp only [sTold, zi, zq, shw, zu, zk]
              rw [if_pos c65, u6 k k1]; rfl
        · skip
          refine G.nif_eq 43 dX8_told_35 rfl (by decide) (fun zz => absurd zz (by decide)) (fun _ => ?_)
          refine G.bipush (v := -6) dX8_told_38 (by decide +kernel) ?_
          refine G.goto 95 dX8_told_40 rfl ?_
          refine G.iret rfl rfl rfl dX8_told_95 ?_
          exact hret _ _ ⟨rfl, by simp only [sTold, zi, zq, shw, zu]; rfl⟩
theorem c_X8_fails (hM : isM t ad w A I O Td jd J fc df) (cw : okS A O fc) (hN : 153 ≤ N) (op0 what : Int32) :
    K l t yX8_fails cX8_fails 3 (some .int) (rD 2) N ad w [.ref (ad 132), .int op0, .int what]
      (fun res w' => w = w' ∧ res = some (.int (sFails O jd J op0 what))) := by
  have zM := hM
  obtain ⟨io, op, ot, ok, nw, fa, c0, cA, cT, cO, cR, cTd, cf⟩ := hM
  have zA := cw.1
  have z12 := cw.2.1
  have z9k := cw.2.2.1
  obtain ⟨Ur, Mr, Fr, Tr, Yr, Vr, r1, r2, r3, r4, r5, r6, r7⟩ := id cR
  refine K.of (own := RX8) (lv := [(0, .ref (ad 132)), (1, .int op0), (2, .int what)]) (by decide +kernel) rfl (Nat.le_of_ble_eq_true rfl) rfl (fun P post hret => ?_)
  refine G.aload_n 0 rfl rfl dX8_fails_0 ?_
  refine G.iload_n 1 rfl rfl dX8_fails_1 ?_
  refine G.callV (n := 1) 132 (c_X8_isOperator c0 (by omega) (by omega) op0) rfl (by omega) c0 rfl tb_728 tb_730 tb_15 tb_42 tb_731 (by decide +kernel) rfl ⟨(Nat.le_of_ble_eq_true rfl), (Nat.le_of_ble_eq_true rfl)⟩ ⟨rfl, rfl⟩ (Nat.le_of_ble_eq_true rfl) ⟨Nat.zero_le _, Nat.zero_le _⟩ dX8_fails_2 (fun gr2 gw1 hp => ?_)
  obtain ⟨rfl, rfl⟩ := hp
  cases zi : ix O.length op0 with
  | none =>
    refine G.nif_eq 17 dX8_fails_5 rfl (by decide) (fun _ => ?_) (fun zz => absurd zz (by decide))
    refine G.iconst (v := -1) dX8_fails_17 (by decide +kernel) ?_
    refine G.goto 43 dX8_fails_18 rfl ?_
    refine G.iret rfl rfl rfl dX8_fails_43 ?_
    exact hret _ _ ⟨rfl, by simp only [sFails, zi]⟩
  | some j =>
    rw [show (some j).isSome = true from rfl]
    obtain ⟨j1, j2, rfl⟩ := ix_some zi
    refine G.nif_eq 17 dX8_fails_5 rfl (by decide) (fun zz => absurd zz (by decide)) (fun _ => ?_)
    refine G.iload_n 2 rfl rfl dX8_fails_8 ?_
    refine G.iconst (v := nI 0) dX8_fails_9 (by decide +kernel) ?_
    refine G.iconst (v := nI 1) dX8_fails_10 (by decide +kernel) ?_
    refine G.callS (n := 3) (c_X8_isIn what (nI 0) (nI 1)) rfl tb_699 tb_700 tb_42 tb_701 (by decide +kernel) rfl ⟨(Nat.le_of_ble_eq_true rfl), (Nat.le_of_ble_eq_true rfl)⟩ ⟨rfl, rfl⟩ (Nat.le_of_ble_eq_true rfl) ⟨Nat.zero_le _, Nat.zero_le _⟩ dX8_fails_11 (fun gr4 gw3 hp => ?_)
    obtain ⟨rfl, rfl⟩ := hp
    cases zq : wi what (nI 0) (nI 1)
    · skip
      refine G.nif_ne 21 dX8_fails_14 rfl (by decide) (fun zz => absurd zz (by decide)) (fun _ => ?_)
      refine G.iconst (v := -1) dX8_fails_17 (by decide +kernel) ?_
      refine G.goto 43 dX8_fails_18 rfl ?_
      refine G.iret rfl rfl rfl dX8_fails_43 ?_
      exact hret _ _ ⟨rfl, by simp only [sFails, zi, zq]; rfl⟩
    · skip
      cases jd
      · skip
        refine G.nif_ne 21 dX8_fails_14 rfl (by decide) (fun _ => ?_) (fun zz => absurd zz (by decide))
        refine G.aload_n 0 rfl rfl dX8_fails_21 ?_
        refine G.get 132 (by omega) c0 rfl twX8 12 (by decide) tb_616 rfl rfl dX8_fails_22 ?_
        refine G.nif_ne 33 dX8_fails_25 rfl (by decide) (fun zz => absurd zz (by decide)) (fun _ => ?_)
        refine G.bipush (v := -3) dX8_fails_28 (by decide +kernel) ?_
        refine G.goto 43 dX8_fails_30 rfl ?_
        refine G.iret rfl rfl rfl dX8_fails_43 ?_
        exact hret _ _ ⟨rfl, by simp only [sFails, zi, zq]; rfl⟩
      · skip
        obtain ⟨u1, u2, u3, u4, u5, u6⟩ := r7 j j1
        obtain ⟨kn, kn1, rfl⟩ := wi_so (m := 1) (by omega) zq
        refine G.nif_ne 21 dX8_fails_14 rfl (by decide) (fun _ => ?_) (fun zz => absurd zz (by decide))
        refine G.aload_n 0 rfl rfl dX8_fails_21 ?_
        refine G.get 132 (by omega) c0 rfl twX8 12 (by decide) tb_616 rfl rfl dX8_fails_22 ?_
        refine G.nif_ne 33 dX8_fails_25 rfl (by decide) (fun _ => ?_) (fun zz => absurd zz (by decide))
        refine G.aload_n 0 rfl rfl dX8_fails_33 ?_
        refine G.get 132 (by omega) c0 rfl twX8 15 (by decide) tb_619 rfl rfl dX8_fails_34 ?_
        refine G.iconst (v := nI 2) dX8_fails_37 (by decide +kernel) ?_
        refine G.iload_n 1 rfl rfl dX8_fails_38 ?_
        refine G.imul dX8_fails_39 ?_
        refine G.topi (nI (2 * j)) (pk_mul 2 j) ?_
        refine G.iload_n 2 rfl rfl dX8_fails_40 ?_
        refine G.iadd dX8_fails_41 ?_
        refine G.topi (nI ((2 * j) + kn)) (nI_add ((2 * j)) kn) ?_
        refine G.iald 145 (by omega) r3 ((2 * j) + kn) (rfl) (by omega) (by omega) dX8_fails_42 ?_
        refine G.iret rfl rfl rfl dX8_fails_43 ?_
        refine hret _ _ ⟨rfl, ?_⟩
        rcases (show kn = 0 ∨ kn = 1 by omega) with rfl | rfl
        · simp only [sFails, zi, zq, Nat.add_zero]; rw [u4]; rfl
        · simp only [sFails, zi, zq]; rw [u5]; rfl
theorem c_X8_tell (hM : isM t ad w A I O Td jd J fc df) (cw : okS A O fc) (hN : 153 ≤ N) (op0 time key : Int32) (v : Int64) :
    K l t yX8_tell cX8_tell 7 (some .int) (rD 2) N ad w [.ref (ad 132), .int op0, .int time, .int key, .long v]
      (fun res w' => res = some (.int (sTell O Td op0 time key v).1) ∧ isM t ad w' A I O (sTell O Td op0 time key v).2 jd J fc df ∧ ∀ i, i < 132 ∨ 153 ≤ i → w' i = w i) := by
  have zM := hM
  obtain ⟨io, op, ot, ok, nw, fa, c0, cA, cT, cO, cR, cTd, cf⟩ := hM
  have zA := cw.1
  have z12 := cw.2.1
  have z9k := cw.2.2.1
  obtain ⟨Md, Te, Ye, Ve, s1, s2, s3, s4, s5⟩ := id cTd
  refine K.of (own := RX8) (lv := [(0, .ref (ad 132)), (1, .int op0), (2, .int time), (3, .int key), (4, .long v)]) (by decide +kernel) rfl (Nat.le_of_ble_eq_true rfl) rfl (fun P post hret => ?_)
  have bad : ((ix O.length op0).isSome && (wi time (nI 0) (nI 20000) && wi key (nI 0) (nI 5))) = false → G l t (rD 2) P cX8_tell 7 RX8 (some .int) post 0 0 N ad 0 0 28 [(0, .ref (ad 132)), (1, .int op0), (2, .int time), (3, .int key), (4, .long v)] [] w := by
    intro zb
    have zt : sTell O Td op0 time key v = (-1, Td) := by
      unfold sTell
      cases zi : ix O.length op0 with
      | none => rfl
      | some j =>
        rw [zi] at zb
        have zb2 : tellOK time key = false := zb
        dsimp only
        rw [zb2]; rfl
    rw [zt] at hret
    refine G.iconst (v := -1) dX8_tell_28 (by decide +kernel) ?_
    refine G.iret rfl rfl rfl dX8_tell_29 ?_
    exact hret _ _ ⟨rfl, zM, fun _ _ => rfl⟩
  refine G.aload_n 0 rfl rfl dX8_tell_0 ?_
  refine G.iload_n 1 rfl rfl dX8_tell_1 ?_
  refine G.callV (n := 1) 132 (c_X8_isOperator c0 (by omega) (by omega) op0) rfl (by omega) c0 rfl tb_728 tb_730 tb_15 tb_42 tb_731 (by decide +kernel) rfl ⟨(Nat.le_of_ble_eq_true rfl), (Nat.le_of_ble_eq_true rfl)⟩ ⟨rfl, rfl⟩ (Nat.le_of_ble_eq_true rfl) ⟨Nat.zero_le _, Nat.zero_le _⟩ dX8_tell_2 (fun gr2 gw1 hp => ?_)
  obtain ⟨rfl, rfl⟩ := hp
  cases z1 : (ix O.length op0).isSome
  · skip
    refine G.nif_eq 28 dX8_tell_5 rfl (by decide) (fun _ => ?_) (fun zz => absurd zz (by decide))
    exact bad (by rw [z1]; rfl)
  · skip
    refine G.nif_eq 28 dX8_tell_5 rfl (by decide) (fun zz => absurd zz (by decide)) (fun _ => ?_)
    refine G.iload_n 2 rfl rfl dX8_tell_8 ?_
    refine G.iconst (v := nI 0) dX8_tell_9 (by decide +kernel) ?_
    refine G.sipush (v := nI 20000) dX8_tell_10 (by decide +kernel) ?_
    refine G.callS (n := 3) (c_X8_isIn time (nI 0) (nI 20000)) rfl tb_699 tb_700 tb_42 tb_701 (by decide +kernel) rfl ⟨(Nat.le_of_ble_eq_true rfl), (Nat.le_of_ble_eq_true rfl)⟩ ⟨rfl, rfl⟩ (Nat.le_of_ble_eq_true rfl) ⟨Nat.zero_le _, Nat.zero_le _⟩ dX8_tell_13 (fun gr4 gw3 hp => ?_)
    obtain ⟨rfl, rfl⟩ := hp
    cases z2 : wi time (nI 0) (nI 20000)
    · skip
      refine G.nif_eq 28 dX8_tell_16 rfl (by decide) (fun _ => ?_) (fun zz => absurd zz (by decide))
      exact bad (by rw [z1, z2]; rfl)
    · skip
      refine G.nif_eq 28 dX8_tell_16 rfl (by decide) (fun zz => absurd zz (by decide)) (fun _ => ?_)
      refine G.iload_n 3 rfl rfl dX8_tell_19 ?_
      refine G.iconst (v := nI 0) dX8_tell_20 (by decide +kernel) ?_
      refine G.iconst (v := nI 5) dX8_tell_21 (by decide +kernel) ?_
      refine G.callS (n := 3) (c_X8_isIn key (nI 0) (nI 5)) rfl tb_699 tb_700 tb_42 tb_701 (by decide +kernel) rfl ⟨(Nat.le_of_ble_eq_true rfl), (Nat.le_of_ble_eq_true rfl)⟩ ⟨rfl, rfl⟩ (Nat.le_of_ble_eq_true rfl) ⟨Nat.zero_le _, Nat.zero_le _⟩ dX8_tell_22 (fun gr6 gw5 hp => ?_)
      obtain ⟨rfl, rfl⟩ := hp
      cases z3 : wi key (nI 0) (nI 5)
      · skip
        refine G.nif_ne 30 dX8_tell_25 rfl (by decide) (fun zz => absurd zz (by decide)) (fun _ => ?_)
        exact bad (by rw [z1, z2, z3]; rfl)
      · skip
        have zok : ((ix O.length op0).isSome && (wi time (nI 0) (nI 20000) && wi key (nI 0) (nI 5))) = true := by rw [z1, z2, z3]; rfl
        skip
        obtain ⟨j, j1, j2, zi⟩ : ∃ j, j < O.length ∧ j < 2 ^ 31 ∧ ix O.length op0 = some j ∧ op0 = nI j := by
          cases zz : ix O.length op0 with
          | none => rw [zz] at z1; cases z1
          | some j => obtain ⟨q1, q2, q3⟩ := ix_some zz; exact ⟨j, q1, q2, rfl, q3⟩
        obtain ⟨zi, rfl⟩ := zi
        have ztl : tellOK time key = true := by unfold tellOK; rw [z2, z3]; rfl
        obtain ⟨u1, u2, u3⟩ := s5 j j1
        refine G.nif_ne 30 dX8_tell_25 rfl (by decide) (fun _ => ?_) (fun zz => absurd zz (by decide))
        refine G.aload_n 0 rfl rfl dX8_tell_30 ?_
        refine G.get 132 (by omega) c0 rfl twX8 20 (by decide) tb_624 rfl rfl dX8_tell_31 ?_
        refine G.iload_n 1 rfl rfl dX8_tell_34 ?_
        refine G.iald 149 (by omega) s1 j (rfl) (by omega) (by omega) dX8_tell_35 ?_
        refine G.topi (nI ((Td j).length)) (u1) ?_
        refine G.bipush (v := nI 40) dX8_tell_36 (by decide +kernel) ?_
        refine G.ncmp_ne 44 dX8_tell_38 rfl (by omega) (by omega) (fun c38 => ?_) (fun c38 => ?_)
        · skip
          refine G.bipush (v := nI 40) dX8_tell_44 (by decide +kernel) ?_
          refine G.iload_n 1 rfl rfl dX8_tell_46 ?_
          refine G.imul dX8_tell_47 ?_
          refine G.topi (nI (40 * j)) (pk_mul 40 j) ?_
          refine G.aload_n 0 rfl rfl dX8_tell_48 ?_
          refine G.get 132 (by omega) c0 rfl twX8 20 (by decide) tb_624 rfl rfl dX8_tell_49 ?_
          refine G.iload_n 1 rfl rfl dX8_tell_52 ?_
          refine G.iald 149 (by omega) s1 j (rfl) (by omega) (by omega) dX8_tell_53 ?_
          refine G.topi (nI ((Td j).length)) (u1) ?_
          refine G.iadd dX8_tell_54 ?_
          refine G.topi (nI ((40 * j) + ((Td j).length))) (nI_add ((40 * j)) (((Td j).length))) ?_
          refine G.istore [(6, .int (nI ((40 * j) + ((Td j).length)))), (0, .ref (ad 132)), (1, .int (nI j)), (2, .int time), (3, .int key), (4, .long v)] dX8_tell_55 (by decide) rfl ?_
          refine G.aload_n 1 rfl rfl dX8_tell_57 ?_
          refine G.get 132 (by omega) c0 rfl twX8 21 (by decide) tb_625 rfl rfl dX8_tell_58 ?_
          refine G.iload 0 rfl dX8_tell_61 ?_
          refine G.iload_n 3 rfl rfl dX8_tell_63 ?_
          refine G.iast 150 (by omega) s2 ((40 * j) + ((Td j).length)) (rfl) (by omega) (by omega) dX8_tell_64 (fun gw7 gh8 gf9 => ?_)
          refine G.aload_n 1 rfl rfl dX8_tell_65 ?_
          have gh10 := (gf9 132 (by omega)).trans c0
          refine G.get 132 (by omega) gh10 rfl twX8 22 (by decide) tb_626 rfl rfl dX8_tell_66 ?_
          refine G.iload 0 rfl dX8_tell_69 ?_
          refine G.iload_n 4 rfl rfl dX8_tell_71 ?_
          have gh11 := (gf9 151 (by omega)).trans s3
          refine G.iast 151 (by omega) gh11 ((40 * j) + ((Td j).length)) (rfl) (by omega) (by omega) dX8_tell_72 (fun gw12 gh13 gf14 => ?_)
          refine G.aload_n 1 rfl rfl dX8_tell_73 ?_
          have gh15 := (gf14 132 (by omega)).trans gh10
          refine G.get 132 (by omega) gh15 rfl twX8 23 (by decide) tb_627 rfl rfl dX8_tell_74 ?_
          refine G.iload 0 rfl dX8_tell_77 ?_
          refine G.lload 5 rfl dX8_tell_79 ?_
          have gh16 := (gf9 152 (by omega)).trans s4
          have gh17 := (gf14 152 (by omega)).trans gh16
          refine G.last 152 (by omega) gh17 ((40 * j) + ((Td j).length)) (rfl) (by omega) (by omega) dX8_tell_81 (fun gw18 gh19 gf20 => ?_)
          refine G.aload_n 1 rfl rfl dX8_tell_82 ?_
          have gh21 := (gf20 132 (by omega)).trans gh15
          refine G.get 132 (by omega) gh21 rfl twX8 20 (by decide) tb_624 rfl rfl dX8_tell_83 ?_
          refine G.iload_n 2 rfl rfl dX8_tell_86 ?_
          refine G.dup2_11 rfl rfl dX8_tell_87 ?_
          have gh22 := (gf9 149 (by omega)).trans s1
          have gh23 := (gf14 149 (by omega)).trans gh22
          have gh24 := (gf20 149 (by omega)).trans gh23
          refine G.iald 149 (by omega) gh24 j (rfl) (by omega) (by omega) dX8_tell_88 ?_
          refine G.topi (nI ((Td j).length)) (u1) ?_
          refine G.iconst (v := nI 1) dX8_tell_89 (by decide +kernel) ?_
          refine G.iadd dX8_tell_90 ?_
          refine G.topi (nI (((Td j).length) + 1)) (nI_add (((Td j).length)) 1) ?_
          refine G.iast 149 (by omega) gh24 j (rfl) (by omega) (by omega) dX8_tell_91 (fun gw25 gh26 gf27 => ?_)
          refine G.aload_n 1 rfl rfl dX8_tell_92 ?_
          have gh28 := (gf27 132 (by omega)).trans gh21
          refine G.get 132 (by omega) gh28 rfl twX8 20 (by decide) tb_624 rfl rfl dX8_tell_93 ?_
          refine G.iload_n 2 rfl rfl dX8_tell_96 ?_
          refine G.iald 149 (by omega) gh26 j (rfl) (by omega) (by omega) dX8_tell_97 ?_
          refine G.topi (nI ((Td j).length + 1)) (upd_s) ?_
          have hx := gh28
          have b1 := gh26
          have gh29 := (gf14 150 (by omega)).trans gh8
          have gh30 := (gf20 150 (by omega)).trans gh29
          have gh31 := (gf27 150 (by omega)).trans gh30
          have b2 := gh31
          have gh32 := (gf20 151 (by omega)).trans gh13
          have gh33 := (gf27 151 (by omega)).trans gh32
          have b3 := gh33
          have gh34 := (gf27 152 (by omega)).trans gh19
          have b4 := gh34
          have hfr : ∀ i, i < 149 ∨ 153 ≤ i → gw25 i = w i := fun i hi => (gf27 i (by omega)).trans ((gf20 i (by omega)).trans ((gf14 i (by omega)).trans (gf9 i (by omega))))
          refine G.iret rfl rfl rfl dX8_tell_98 ?_
          have zs : sTell O Td (nI j) time key v = (nI ((Td j).length + 1), va_up Td j (Td j ++ [(time, key, v)])) := by
            simp only [sTell, zi, ztl]
            rw [if_pos trivial, if_pos (by omega)]
          rw [zs] at hret
          refine hret _ _ ⟨rfl, ⟨io, op, ot, ok, nw, fa, hx, cA.keep (fun i q1 q2 => hfr i (by omega)), cT.keep (hfr _ (by omega)), cO.keep (fun i q1 q2 => hfr i (by omega)), cR.keep (fun i q1 q2 => hfr i (by omega)), ⟨_, _, _, _, b1, b2, b3, b4, fun i hi => ?_⟩, cf⟩, fun i hi => hfr i (by omega)⟩
          dsimp only
          by_cases q : i = j
          · subst q
            rw [va_up_self, upd_s]
            refine ⟨by simp, by simp; omega, fun k hk => ?_⟩
            by_cases q : k = (Td i).length
            · subst q
              rw [getD_snoc, upd_s, upd_s, updL_s]
            · rw [List.length_append] at hk
              have hk2 : k < (Td i).length := by simp at hk; omega
              rw [getD_app hk2, upd_n (by omega), upd_n (by omega), updL_n (by omega)]
              exact u3 k hk2
          · rw [va_up_ne _ _ q, upd_n q]
            obtain ⟨v1, v2, v3⟩ := s5 i hi
            refine ⟨v1, v2, fun k hk => ?_⟩
            rw [upd_n (by omega), upd_n (by omega), updL_n (by omega)]
            exact v3 k hk
        · skip
          refine G.bipush (v := -2) dX8_tell_41 (by decide +kernel) ?_
          refine G.iret rfl rfl rfl dX8_tell_43 ?_
          have zs : sTell O Td (nI j) time key v = (-2, Td) := by
            simp only [sTell, zi, ztl]
            rw [if_pos trivial, if_neg (by omega)]
          rw [zs] at hret
          exact hret _ _ ⟨rfl, zM, fun _ _ => rfl⟩
theorem c_X8_untell (hM : isM t ad w A I O Td jd J fc df) (cw : okS A O fc) (hN : 153 ≤ N) (op0 : Int32) :
    K l t yX8_untell cX8_untell 3 (some .int) (rD 2) N ad w [.ref (ad 132), .int op0]
      (fun res w' => res = some (.int (sUntell O Td op0).1) ∧ isM t ad w' A I O (sUntell O Td op0).2 jd J fc df ∧ ∀ i, i < 132 ∨ 153 ≤ i → w' i = w i) := by
  have zM := hM
  obtain ⟨io, op, ot, ok, nw, fa, c0, cA, cT, cO, cR, cTd, cf⟩ := hM
  have zA := cw.1
  have z12 := cw.2.1
  have z9k := cw.2.2.1
  obtain ⟨Md, Te, Ye, Ve, s1, s2, s3, s4, s5⟩ := id cTd
  refine K.of (own := RX8) (lv := [(0, .ref (ad 132)), (1, .int op0)]) (by decide +kernel) rfl (Nat.le_of_ble_eq_true rfl) rfl (fun P post hret => ?_)
  refine G.aload_n 0 rfl rfl dX8_untell_0 ?_
  refine G.iload_n 1 rfl rfl dX8_untell_1 ?_
  refine G.callV (n := 1) 132 (c_X8_isOperator c0 (by omega) (by omega) op0) rfl (by omega) c0 rfl tb_728 tb_730 tb_15 tb_42 tb_731 (by decide +kernel) rfl ⟨(Nat.le_of_ble_eq_true rfl), (Nat.le_of_ble_eq_true rfl)⟩ ⟨rfl, rfl⟩ (Nat.le_of_ble_eq_true rfl) ⟨Nat.zero_le _, Nat.zero_le _⟩ dX8_untell_2 (fun gr2 gw1 hp => ?_)
  obtain ⟨rfl, rfl⟩ := hp
  cases zi : ix O.length op0 with
  | none =>
    refine G.nif_ne 10 dX8_untell_5 rfl (by decide) (fun zz => absurd zz (by decide)) (fun _ => ?_)
    refine G.iconst (v := -1) dX8_untell_8 (by decide +kernel) ?_
    refine G.iret rfl rfl rfl dX8_untell_9 ?_
    exact hret _ _ ⟨by simp only [sUntell, zi], by simp only [sUntell, zi]; exact zM, fun _ _ => rfl⟩
  | some j =>
    rw [show (some j).isSome = true from rfl]
    obtain ⟨j1, j2, rfl⟩ := ix_some zi
    obtain ⟨u1, u2, u3⟩ := s5 j j1
    refine G.nif_ne 10 dX8_untell_5 rfl (by decide) (fun _ => ?_) (fun zz => absurd zz (by decide))
    refine G.aload_n 0 rfl rfl dX8_untell_10 ?_
    refine G.get 132 (by omega) c0 rfl twX8 20 (by decide) tb_624 rfl rfl dX8_untell_11 ?_
    refine G.iload_n 1 rfl rfl dX8_untell_14 ?_
    refine G.iald 149 (by omega) s1 j (rfl) (by omega) (by omega) dX8_untell_15 ?_
    refine G.topi (nI ((Td j).length)) (u1) ?_
    refine G.istore_n [(2, .int (nI ((Td j).length))), (0, .ref (ad 132)), (1, .int (nI j))] dX8_untell_16 rfl (by decide) rfl ?_
    refine G.aload_n 1 rfl rfl dX8_untell_17 ?_
    refine G.get 132 (by omega) c0 rfl twX8 20 (by decide) tb_624 rfl rfl dX8_untell_18 ?_
    refine G.iload_n 2 rfl rfl dX8_untell_21 ?_
    refine G.iconst (v := nI 0) dX8_untell_22 (by decide +kernel) ?_
    refine G.iast 149 (by omega) s1 j (rfl) (by omega) (by omega) dX8_untell_23 (fun gw3 gh4 gf5 => ?_)
    refine G.iload_n 0 rfl rfl dX8_untell_24 ?_
    refine G.iret rfl rfl rfl dX8_untell_25 ?_
    have b1 := gh4
    have hfr : ∀ i, i ≠ 149 → gw3 i = w i := fun i hi => gf5 i (by omega)
    refine hret _ _ ⟨by simp only [sUntell, zi], ?_, fun i hi => hfr i (by omega)⟩
    simp only [sUntell, zi]
    refine ⟨io, op, ot, ok, nw, fa, (hfr _ (by omega)).trans c0, cA.keep (fun i q1 q2 => hfr i (by omega)), cT.keep (hfr _ (by omega)), cO.keep (fun i q1 q2 => hfr i (by omega)), cR.keep (fun i q1 q2 => hfr i (by omega)), ⟨_, Te, Ye, Ve, b1, (hfr _ (by omega)).trans s2, (hfr _ (by omega)).trans s3, (hfr _ (by omega)).trans s4, fun i hi => ?_⟩, cf⟩
    by_cases q : i = j
    · subst q
      rw [va_up_self, upd_s]
      exact ⟨rfl, Nat.zero_le _, fun k hk => (by simp at hk)⟩
    · rw [va_up_ne _ _ q, upd_n q]
      exact s5 i hi
theorem c_X8_other {n on jb fl io op ot ok nw fa : Int32} (h0 : w 132 = .inr (8, xF ad n on jb fl io op ot ok nw fa)) (hN : 153 ≤ N) (an pl tm ky : Int32) :
    K l t yX8_other cX8_other 5 (some .int) (rD 0) N ad w [.ref (ad 132), .int an, .int pl, .int tm, .int ky]
      (fun res w' => res = some (.int an) ∧ w' 132 = .inr (8, xF ad n on jb fl 1 pl tm ky nw fa) ∧ ∀ i, i ≠ 132 → w' i = w i) := by
  refine K.of (own := RX8) (lv := [(0, .ref (ad 132)), (1, .int an), (2, .int pl), (3, .int tm), (4, .int ky)]) (by decide +kernel) rfl (Nat.le_of_ble_eq_true rfl) rfl (fun P post hret => ?_)
  refine G.aload_n 0 rfl rfl dX8_other_0 ?_
  refine G.iconst (v := nI 1) dX8_other_1 (by decide +kernel) ?_
  refine G.put 132 (by omega) h0 rfl twX8 24 (by decide) tyX8 tyX8_ok nmX8 tb_628 rfl rfl (tyX8_ok 24 (by decide)) (nb_n (Or.inr rfl)) (nb_f (Or.inr rfl)) (Nat.le_of_ble_eq_true rfl) dX8_other_2 (fun gw1 gh2 gf3 => ?_)
  refine G.aload_n 0 rfl rfl dX8_other_5 ?_
  refine G.iload_n 2 rfl rfl dX8_other_6 ?_
  refine G.put 132 (by omega) gh2 rfl twX8 25 (by decide) tyX8 tyX8_ok nmX8 tb_629 rfl rfl (tyX8_ok 25 (by decide)) rfl rfl (Nat.le_of_ble_eq_true rfl) dX8_other_7 (fun gw4 gh5 gf6 => ?_)
  refine G.aload_n 0 rfl rfl dX8_other_10 ?_
  refine G.iload_n 3 rfl rfl dX8_other_11 ?_
  refine G.put 132 (by omega) gh5 rfl twX8 26 (by decide) tyX8 tyX8_ok nmX8 tb_630 rfl rfl (tyX8_ok 26 (by decide)) rfl rfl (Nat.le_of_ble_eq_true rfl) dX8_other_12 (fun gw7 gh8 gf9 => ?_)
  refine G.aload_n 0 rfl rfl dX8_other_15 ?_
  refine G.iload 4 rfl dX8_other_16 ?_
  refine G.put 132 (by omega) gh8 rfl twX8 27 (by decide) tyX8 tyX8_ok nmX8 tb_631 rfl rfl (tyX8_ok 27 (by decide)) rfl rfl (Nat.le_of_ble_eq_true rfl) dX8_other_18 (fun gw10 gh11 gf12 => ?_)
  refine G.iload_n 1 rfl rfl dX8_other_21 ?_
  refine G.iret rfl rfl rfl dX8_other_22 ?_
  have hx := gh11
  have hfr : ∀ i, i ≠ 132 → gw10 i = w i := fun i hi => (gf12 i (by omega)).trans ((gf9 i (by omega)).trans ((gf6 i (by omega)).trans (gf3 i (by omega))))
  exact hret _ _ ⟨rfl, hx, hfr⟩
theorem c_X8_clear (hM : isM t ad w A I O Td jd J fc df) (cw : okS A O fc) (hN : 153 ≤ N) :
    K l t yX8_clear cX8_clear 3 (some .int) (rD 0) N ad w [.ref (ad 132)]
      (fun res w' => res = some (.int (nI O.length)) ∧ isM t ad w' [] (fun _ => 0) [] (fun _ => []) false J fc none ∧ ∀ i, i < 132 ∨ 153 ≤ i → w' i = w i) := by
  have zM := hM
  obtain ⟨io, op, ot, ok, nw, fa, c0, cA, cT, cO, cR, cTd, cf⟩ := hM
  have zA := cw.1
  have z12 := cw.2.1
  have z9k := cw.2.2.1
  obtain ⟨tf, t1, t2⟩ := id cT
  obtain ⟨S, T, Y, V, Z, a1, a2, a3, a4, a5, a6⟩ := id cA
  obtain ⟨k1, o1, o2, nm, p1, p2, p3, p4, p5⟩ := id cO
  refine K.of (own := RX8) (lv := [(0, .ref (ad 132))]) (by decide +kernel) rfl (Nat.le_of_ble_eq_true rfl) rfl (fun P post hret => ?_)
  refine G.aload_n 0 rfl rfl dX8_clear_0 ?_
  refine G.get 132 (by omega) c0 rfl twX8 7 (by decide) tb_611 rfl rfl dX8_clear_1 ?_
  refine G.istore_n [(1, .int (nI O.length)), (0, .ref (ad 132))] dX8_clear_4 rfl (by decide) rfl ?_
  refine G.aload_n 1 rfl rfl dX8_clear_5 ?_
  refine G.iconst (v := nI 0) dX8_clear_6 (by decide +kernel) ?_
  refine G.put 132 (by omega) c0 rfl twX8 7 (by decide) tyX8 tyX8_ok nmX8 tb_611 rfl rfl (tyX8_ok 7 (by decide)) rfl rfl (Nat.le_of_ble_eq_true rfl) dX8_clear_7 (fun gw1 gh2 gf3 => ?_)
  refine G.aload_n 1 rfl rfl dX8_clear_10 ?_
  refine G.iconst (v := nI 0) dX8_clear_11 (by decide +kernel) ?_
  refine G.put 132 (by omega) gh2 rfl twX8 0 (by decide) tyX8 tyX8_ok nmX8 tb_604 rfl rfl (tyX8_ok 0 (by decide)) rfl rfl (Nat.le_of_ble_eq_true rfl) dX8_clear_12 (fun gw4 gh5 gf6 => ?_)
  refine G.aload_n 1 rfl rfl dX8_clear_15 ?_
  refine G.iconst (v := nI 0) dX8_clear_16 (by decide +kernel) ?_
  refine G.put 132 (by omega) gh5 rfl twX8 12 (by decide) tyX8 tyX8_ok nmX8 tb_616 rfl rfl (tyX8_ok 12 (by decide)) (nb_n (Or.inl rfl)) (nb_f (Or.inl rfl)) (Nat.le_of_ble_eq_true rfl) dX8_clear_17 (fun gw7 gh8 gf9 => ?_)
  refine G.iconst (v := nI 0) dX8_clear_20 (by decide +kernel) ?_
  refine G.istore_n [(2, .int (nI 0)), (1, .int (nI O.length)), (0, .ref (ad 132))] dX8_clear_21 rfl (by decide) rfl ?_
  have hx := gh8
  have gh10 := (gf3 138 (by omega)).trans t1
  have gh11 := (gf6 138 (by omega)).trans gh10
  have gh12 := (gf9 138 (by omega)).trans gh11
  have ht := gh12
  have hfr : ∀ i, i ≠ 132 → gw7 i = w i := fun i hi => (gf9 i (by omega)).trans ((gf6 i (by omega)).trans (gf3 i (by omega)))
  refine G.pick [2, 1, 0] [(0, .ref (ad 132)), (1, .int (nI O.length)), (2, .int (nI 0))] rfl ?_
  have loop : ∀ (mm ii : Nat) (zw : Nat → va_E) (zf : Nat → Int32), ii + mm = 8 → zw 132 = .inr (8, xF ad (nI 0) (nI 0) (nI 0) (nI fc) io op ot ok nw fa) → zw 138 = .inl (t.2.1, 8, .inl zf) → (∀ j, j < ii → zf j = 0) → (∀ i, i ≠ 132 → i ≠ 138 → zw i = w i) → G l t (rD 0) P cX8_clear 3 RX8 (some .int) post 0 0 N ad 0 0 22 [(0, .ref (ad 132)), (1, .int (nI O.length)), (2, .int (nI ii))] [] zw := by
    intro mm
    induction mm with
    | zero =>
      intro ii zw zf hi e0 e1 e2 hf
      obtain rfl : ii = 8 := by omega
      refine G.iload_n 2 rfl rfl dX8_clear_22 ?_
      refine G.bipush (v := nI 8) dX8_clear_23 (by decide +kernel) ?_
      refine G.ncmp_ge 41 dX8_clear_25 rfl (by omega) (by omega) (fun c25 => ?_) (fun c25 => ?_)
      · skip
        refine G.iload_n 1 rfl rfl dX8_clear_41 ?_
        refine G.iret rfl rfl rfl dX8_clear_42 ?_
        exact hret _ _ ⟨rfl, ⟨io, op, ot, ok, nw, fa, e0, ⟨S, T, Y, V, Z, (hf _ (by omega) (by omega)).trans a1, (hf _ (by omega) (by omega)).trans a2, (hf _ (by omega) (by omega)).trans a3, (hf _ (by omega) (by omega)).trans a4, (hf _ (by omega) (by omega)).trans a5, fun j hj => by simp at hj⟩, ⟨zf, e1, e2⟩, ⟨k1, o1, o2, nm, (hf _ (by omega) (by omega)).trans p1, (hf _ (by omega) (by omega)).trans p2, (hf _ (by omega) (by omega)).trans p3, (hf _ (by omega) (by omega)).trans p4, fun i hi => by simp at hi⟩, (cR.less (m := 0) (by omega)).keep (fun i q1 q2 => hf i (by omega) (by omega)), (cTd.less (m := 0) (by omega) (fun i hi => by omega)).keep (fun i q1 q2 => hf i (by omega) (by omega)), fun q => by cases q⟩, fun i hi => hf i (by omega) (by omega)⟩
      · skip
        omega
    | succ mm ih =>
      intro ii zw zf hi e0 e1 e2 hf
      refine G.iload_n 2 rfl rfl dX8_clear_22 ?_
      refine G.bipush (v := nI 8) dX8_clear_23 (by decide +kernel) ?_
      refine G.ncmp_ge 41 dX8_clear_25 rfl (by omega) (by omega) (fun c25 => ?_) (fun c25 => ?_)
      · skip
        omega
      · skip
        refine G.aload_n 0 rfl rfl dX8_clear_28 ?_
        refine G.get 132 (by omega) e0 rfl twX8 6 (by decide) tb_610 rfl rfl dX8_clear_29 ?_
        refine G.iload_n 2 rfl rfl dX8_clear_32 ?_
        refine G.iconst (v := nI 0) dX8_clear_33 (by decide +kernel) ?_
        refine G.iast 138 (by omega) e1 ii (rfl) (by omega) (by omega) dX8_clear_34 (fun gw13 gh14 gf15 => ?_)
        refine G.iinc (v := nI (ii + 1)) [(2, .int (nI (ii + 1))), (0, .ref (ad 132)), (1, .int (nI O.length))] 2 dX8_clear_35 rfl (nI_add ii 1) (by decide) rfl ?_
        refine G.goto 22 dX8_clear_38 rfl ?_
        have gh16 := (gf15 132 (by omega)).trans e0
        have b0 := gh16
        have b1 := gh14
        have hfr : ∀ i, i ≠ 138 → gw13 i = zw i := fun i hi => gf15 i (by omega)
        refine G.pick [1, 2, 0] [(0, .ref (ad 132)), (1, .int (nI O.length)), (2, .int (nI (ii + 1)))] rfl ?_
        refine ih (ii + 1) _ _ (by omega) b0 b1 (fun j hj => ?_) (fun i q1 q2 => (hfr i q2).trans (hf i q1 q2))
        by_cases q : j = ii
        · subst q; exact upd_s
        · rw [upd_n q]; exact e2 j (by omega)
  exact loop 8 0 _ tf rfl hx ht (fun j hj => by omega) (fun i q1 _ => hfr i q1)
end RefB

