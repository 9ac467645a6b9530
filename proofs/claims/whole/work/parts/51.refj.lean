/-! the reference: compare -/
section RefJ
variable {l : Launch} {t : TT} {N : Nat} {ad : Nat → Nat} {w : Nat → va_E} {A : List AR} {I : Nat → Int32} {O : List OD} {Td : Nat → List RW} {jd : Bool} {J : Nat → JR} {fc : Nat} {df : DF}
theorem c_X8_compare (hM : isM t ad w A I O Td jd J fc df) (cw : okS A O fc) (hN : 153 ≤ N) (op0 what : Int32) :
    K l t yX8_compare cX8_compare 3 (some .int) (rD 2) N ad w [.ref (ad 132), .int op0, .int what]
      (fun res w' => res = some (.int (sComp O Td jd J df op0 what).1) ∧ isM t ad w' A I O Td jd J fc (sComp O Td jd J df op0 what).2 ∧ ∀ i, i < 132 ∨ 153 ≤ i → w' i = w i) := by
  have zM := hM
  obtain ⟨io, op, ot, ok, nw, fa, c0, cA, cT, hcO, hcR, cTd, cf⟩ := hM
  have zA := cw.1
  have z12 := cw.2.1
  have z9k := cw.2.2.1
  obtain ⟨Ur, Mr, Fr, Tr, Yr, Vr, r1, r2, r3, r4, r5, r6, r7⟩ := id hcR
  obtain ⟨Md, Te, Ye, Ve, s1, s2, s3, s4, s5⟩ := id cTd
  refine K.of (own := RX8) (lv := [(0, .ref (ad 132)), (1, .int op0), (2, .int what)]) (by decide +kernel) rfl (Nat.le_of_ble_eq_true rfl) rfl (fun P post hret => ?_)
  refine G.aload_n 0 rfl rfl dX8_compare_0 ?_
  refine G.iload_n 1 rfl rfl dX8_compare_1 ?_
  refine G.callV (n := 1) 132 (c_X8_isOperator c0 (by omega) (by omega) op0) rfl (by omega) c0 rfl tb_728 tb_730 tb_15 tb_42 tb_731 (by decide +kernel) rfl ⟨(Nat.le_of_ble_eq_true rfl), (Nat.le_of_ble_eq_true rfl)⟩ ⟨rfl, rfl⟩ (Nat.le_of_ble_eq_true rfl) ⟨Nat.zero_le _, Nat.zero_le _⟩ dX8_compare_2 (fun gr2 gw1 hp => ?_)
  obtain ⟨rfl, rfl⟩ := hp
  cases zi : ix O.length op0 with
  | none =>
    refine G.nif_eq 17 dX8_compare_5 rfl (by decide) (fun _ => ?_) (fun zz => absurd zz (by decide))
    refine G.iconst (v := -1) dX8_compare_17 (by decide +kernel) ?_
    refine G.iret rfl rfl rfl dX8_compare_18 ?_
    exact hret _ _ ⟨by simp only [sComp, zi], by simp only [sComp, zi]; exact zM, fun _ _ => rfl⟩
  | some j =>
    rw [show (some j).isSome = true from rfl]
    obtain ⟨j1, j2, rfl⟩ := ix_some zi
    refine G.nif_eq 17 dX8_compare_5 rfl (by decide) (fun zz => absurd zz (by decide)) (fun _ => ?_)
    refine G.iload_n 2 rfl rfl dX8_compare_8 ?_
    refine G.iconst (v := nI 0) dX8_compare_9 (by decide +kernel) ?_
    refine G.iconst (v := nI 1) dX8_compare_10 (by decide +kernel) ?_
    refine G.callS (n := 3) (c_X8_isIn what (nI 0) (nI 1)) rfl tb_699 tb_700 tb_42 tb_701 (by decide +kernel) rfl ⟨(Nat.le_of_ble_eq_true rfl), (Nat.le_of_ble_eq_true rfl)⟩ ⟨rfl, rfl⟩ (Nat.le_of_ble_eq_true rfl) ⟨Nat.zero_le _, Nat.zero_le _⟩ dX8_compare_11 (fun gr4 gw3 hp => ?_)
    obtain ⟨rfl, rfl⟩ := hp
    cases zq : wi what (nI 0) (nI 1)
    · skip
      refine G.nif_ne 19 dX8_compare_14 rfl (by decide) (fun zz => absurd zz (by decide)) (fun _ => ?_)
      refine G.iconst (v := -1) dX8_compare_17 (by decide +kernel) ?_
      refine G.iret rfl rfl rfl dX8_compare_18 ?_
      exact hret _ _ ⟨by simp only [sComp, zi, zq]; rfl, by simp only [sComp, zi, zq]; exact zM, fun _ _ => rfl⟩
    · skip
      cases jd
      · skip
        refine G.nif_ne 19 dX8_compare_14 rfl (by decide) (fun _ => ?_) (fun zz => absurd zz (by decide))
        refine G.aload_n 0 rfl rfl dX8_compare_19 ?_
        refine G.get 132 (by omega) c0 rfl twX8 12 (by decide) tb_616 rfl rfl dX8_compare_20 ?_
        refine G.nif_ne 29 dX8_compare_23 rfl (by decide) (fun zz => absurd zz (by decide)) (fun _ => ?_)
        refine G.bipush (v := -3) dX8_compare_26 (by decide +kernel) ?_
        refine G.iret rfl rfl rfl dX8_compare_28 ?_
        exact hret _ _ ⟨by simp only [sComp, zi, zq]; rfl, by simp only [sComp, zi, zq]; exact zM, fun _ _ => rfl⟩
      · skip
        obtain ⟨u1, u2, u3, u4, u5, u6⟩ := r7 j j1
        refine G.nif_ne 19 dX8_compare_14 rfl (by decide) (fun _ => ?_) (fun zz => absurd zz (by decide))
        refine G.aload_n 0 rfl rfl dX8_compare_19 ?_
        refine G.get 132 (by omega) c0 rfl twX8 12 (by decide) tb_616 rfl rfl dX8_compare_20 ?_
        refine G.nif_ne 29 dX8_compare_23 rfl (by decide) (fun _ => ?_) (fun zz => absurd zz (by decide))
        refine G.aload_n 0 rfl rfl dX8_compare_29 ?_
        refine G.get 132 (by omega) c0 rfl twX8 13 (by decide) tb_617 rfl rfl dX8_compare_30 ?_
        refine G.iload_n 1 rfl rfl dX8_compare_33 ?_
        refine G.zald 143 (by omega) r1 j (rfl) (by omega) (by omega) dX8_compare_34 ?_
        refine G.topi (nI (bN (J j).1)) (u1) ?_
        cases zu : (J j).1
        · skip
          refine G.nif_eq 41 dX8_compare_35 rfl (by decide) (fun _ => ?_) (fun zz => absurd zz (by decide))
          refine G.aload_n 0 rfl rfl dX8_compare_41 ?_
          refine G.iconst (v := nI 0) dX8_compare_42 (by decide +kernel) ?_
          refine G.put 132 (by omega) c0 rfl twX8 24 (by decide) tyX8 tyX8_ok nmX8 tb_628 rfl rfl (tyX8_ok 24 (by decide)) (nb_n (Or.inl rfl)) (nb_f (Or.inl rfl)) (Nat.le_of_ble_eq_true rfl) dX8_compare_43 (fun gw5 gh6 gf7 => ?_)
          have hx := gh6
          have gh8 := (gf7 144 (by omega)).trans r2
          have k2 := gh8
          have gh9 := (gf7 146 (by omega)).trans r4
          have k4 := gh9
          have gh10 := (gf7 147 (by omega)).trans r5
          have k5 := gh10
          have gh11 := (gf7 148 (by omega)).trans r6
          have k6 := gh11
          have gh12 := (gf7 149 (by omega)).trans s1
          have l2 := gh12
          have gh13 := (gf7 150 (by omega)).trans s2
          have l4 := gh13
          have gh14 := (gf7 151 (by omega)).trans s3
          have l5 := gh14
          have gh15 := (gf7 152 (by omega)).trans s4
          have l6 := gh15
          have hfr : ∀ i, i ≠ 132 → gw5 i = w i := fun i hi => gf7 i (by omega)
          obtain ⟨v1, v2, v3⟩ := s5 j j1
          refine G.iload_n 2 rfl rfl dX8_compare_46 ?_
          refine G.if_ne 58 dX8_compare_47 rfl (fun c47 => ?_) (fun c47 => ?_)
          · skip
            refine G.aload_n 0 rfl rfl dX8_compare_58 ?_
            refine G.iload_n 1 rfl rfl dX8_compare_59 ?_
            refine G.callV (n := 1) 132 (c_X8_bySets hx k2 k4 k5 k6 u2 u3 u6 l2 l4 l5 l6 v1 v2 v3 (by omega) hN) rfl (by omega) gh6 rfl tb_843 tb_845 tb_29 tb_42 tb_846 (by decide +kernel) rfl ⟨(Nat.le_of_ble_eq_true rfl), (Nat.le_of_ble_eq_true rfl)⟩ ⟨rfl, rfl⟩ (Nat.le_of_ble_eq_true rfl) ⟨Nat.zero_le _, Nat.zero_le _⟩ dX8_compare_60 (fun gr16 zw2 hp => ?_)
            obtain ⟨rfl, ⟨io2, op2, ot2, ok2, q0, q1⟩, hf2⟩ := hp
            refine G.iret rfl rfl rfl dX8_compare_63 ?_
            have zf : ∀ i, i ≠ 132 → zw2 i = w i := fun i hi => (hf2 i hi).trans (hfr i hi)
            have es : sComp O Td true J df (nI j) what = (nI (cR (J j).2.1 (Td j)).1, (cR (J j).2.1 (Td j)).2) := by
              unfold sComp
              rw [zi]
              dsimp only
              rw [if_pos zq, if_neg (by decide), if_neg (by rw [zu]; decide), if_neg c47, cS_is]
            rw [es] at hret
            exact hret _ _ ⟨rfl, ⟨io2, op2, ot2, ok2, nw, fa, q0, cA.keep (fun i i1 i2 => zf i (by omega)), cT.keep (zf _ (by omega)), hcO.keep (fun i i1 i2 => zf i (by omega)), hcR.keep (fun i i1 i2 => zf i (by omega)), cTd.keep (fun i i1 i2 => zf i (by omega)), q1⟩, fun i hi => zf i (by omega)⟩
          · skip
            refine G.aload_n 0 rfl rfl dX8_compare_50 ?_
            refine G.iload_n 1 rfl rfl dX8_compare_51 ?_
            refine G.callV (n := 1) 132 (c_X8_byOrder hx k2 k4 k5 k6 u2 u3 u6 l2 l4 l5 l6 v1 v2 v3 (by omega) hN) rfl (by omega) gh6 rfl tb_835 tb_837 tb_27 tb_42 tb_838 (by decide +kernel) rfl ⟨(Nat.le_of_ble_eq_true rfl), (Nat.le_of_ble_eq_true rfl)⟩ ⟨rfl, rfl⟩ (Nat.le_of_ble_eq_true rfl) ⟨Nat.zero_le _, Nat.zero_le _⟩ dX8_compare_52 (fun gr17 zw2 hp => ?_)
            obtain ⟨rfl, ⟨io2, op2, ot2, ok2, q0, q1⟩, hf2⟩ := hp
            refine G.goto 63 dX8_compare_55 rfl ?_
            refine G.iret rfl rfl rfl dX8_compare_63 ?_
            have zf : ∀ i, i ≠ 132 → zw2 i = w i := fun i hi => (hf2 i hi).trans (hfr i hi)
            have es : sComp O Td true J df (nI j) what = (nI (cO (J j).2.1 (Td j)).1, (cO (J j).2.1 (Td j)).2) := by
              unfold sComp
              rw [zi]
              dsimp only
              rw [if_pos zq, if_neg (by decide), if_neg (by rw [zu]; decide), if_pos c47]
            rw [es] at hret
            exact hret _ _ ⟨rfl, ⟨io2, op2, ot2, ok2, nw, fa, q0, cA.keep (fun i i1 i2 => zf i (by omega)), cT.keep (zf _ (by omega)), hcO.keep (fun i i1 i2 => zf i (by omega)), hcR.keep (fun i i1 i2 => zf i (by omega)), cTd.keep (fun i i1 i2 => zf i (by omega)), q1⟩, fun i hi => zf i (by omega)⟩
        · skip
          refine G.nif_eq 41 dX8_compare_35 rfl (by decide) (fun zz => absurd zz (by decide)) (fun _ => ?_)
          refine G.bipush (v := -6) dX8_compare_38 (by decide +kernel) ?_
          refine G.iret rfl rfl rfl dX8_compare_40 ?_
          exact hret _ _ ⟨by simp only [sComp, zi, zq, zu]; rfl, by simp only [sComp, zi, zq, zu]; exact zM, fun _ _ => rfl⟩
end RefJ

