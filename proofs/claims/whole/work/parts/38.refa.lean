/-! the reference: rows, items, operators that come and go, what is shown and told -/
section RefA
variable {l : Launch} {t : TT} {N : Nat} {ad : Nat → Nat} {w : Nat → va_E} {A : List AR} {I : Nat → Int32} {O : List OD} {Td : Nat → List RW} {jd : Bool} {J : Nat → JR} {fc : Nat} {df : DF}
theorem c_X8_isIn (n lo hi : Int32) :
    K l t yX8_isIn cX8_isIn 3 (some .boolean) (rD 0) N ad w [.int n, .int lo, .int hi]
      (fun res w' => w = w' ∧ res = some (.int (nI (bN (wi n lo hi))))) := by
  refine K.of (own := RX8) (lv := [(0, .int n), (1, .int lo), (2, .int hi)]) (by decide +kernel) rfl (Nat.le_of_ble_eq_true rfl) rfl (fun P post hret => ?_)
  refine G.iload_n 0 rfl rfl dX8_isIn_0 ?_
  refine G.iload_n 1 rfl rfl dX8_isIn_1 ?_
  refine G.icmp_lt 14 dX8_isIn_2 rfl (fun c2 => ?_) (fun c2 => ?_)
  · skip
    refine G.iconst (v := nI 0) dX8_isIn_14 (by decide +kernel) ?_
    refine G.zret rfl (by decide) rfl rfl dX8_isIn_15 ?_
    exact hret _ _ ⟨rfl, by rw [wi, decide_eq_false (Int32.not_le.mpr c2)]; rfl⟩
  · skip
    refine G.iload_n 0 rfl rfl dX8_isIn_5 ?_
    refine G.iload_n 2 rfl rfl dX8_isIn_6 ?_
    refine G.icmp_gt 14 dX8_isIn_7 rfl (fun c7 => ?_) (fun c7 => ?_)
    · skip
      refine G.iconst (v := nI 0) dX8_isIn_14 (by decide +kernel) ?_
      refine G.zret rfl (by decide) rfl rfl dX8_isIn_15 ?_
      exact hret _ _ ⟨rfl, by rw [wi, decide_eq_false (Int32.not_le.mpr c7), Bool.and_false]; rfl⟩
    · skip
      refine G.iconst (v := nI 1) dX8_isIn_10 (by decide +kernel) ?_
      refine G.goto 15 dX8_isIn_11 rfl ?_
      refine G.zret rfl (by decide) rfl rfl dX8_isIn_15 ?_
      exact hret _ _ ⟨rfl, by rw [wi, decide_eq_true (Int32.not_lt.mp c2), decide_eq_true (Int32.not_lt.mp c7)]; rfl⟩
theorem bN_01 (b : Bool) : nI (bN b) = 0 ∨ nI (bN b) = 1 := by cases b <;> decide
theorem c_X8_isOperator {n jb fl io op ot ok nw fa : Int32} {m : Nat} (h0 : w 132 = .inr (8, xF ad n (nI m) jb fl io op ot ok nw fa)) (hm : m ≤ 12) (hN : 153 ≤ N) (i : Int32) :
    K l t yX8_isOperator cX8_isOperator 2 (some .boolean) (rD 1) N ad w [.ref (ad 132), .int i]
      (fun res w' => w = w' ∧ res = some (.int (nI (bN (ix m i).isSome)))) := by
  refine K.of (own := RX8) (lv := [(0, .ref (ad 132)), (1, .int i)]) (by decide +kernel) rfl (Nat.le_of_ble_eq_true rfl) rfl (fun P post hret => ?_)
  refine G.iload_n 1 rfl rfl dX8_isOperator_0 ?_
  refine G.iconst (v := nI 0) dX8_isOperator_1 (by decide +kernel) ?_
  refine G.aload_n 0 rfl rfl dX8_isOperator_2 ?_
  refine G.get 132 (by omega) h0 rfl twX8 7 (by decide) tb_611 rfl rfl dX8_isOperator_3 ?_
  refine G.iconst (v := nI 1) dX8_isOperator_6 (by decide +kernel) ?_
  refine G.isub dX8_isOperator_7 ?_
  refine G.callS (n := 3) (c_X8_isIn i (nI 0) (nI m - nI 1)) rfl tb_699 tb_700 tb_42 tb_701 (by decide +kernel) rfl ⟨(Nat.le_of_ble_eq_true rfl), (Nat.le_of_ble_eq_true rfl)⟩ ⟨rfl, rfl⟩ (Nat.le_of_ble_eq_true rfl) ⟨Nat.zero_le _, Nat.zero_le _⟩ dX8_isOperator_8 (fun gr2 gw1 hp => ?_)
  obtain ⟨rfl, rfl⟩ := hp
  rw [wi_ix (by omega)]
  refine G.zret rfl (bN_01 _) rfl rfl dX8_isOperator_11 ?_
  exact hret _ _ ⟨rfl, rfl⟩
theorem c_X8_row (hM : isM t ad w A I O Td jd J fc df) (cw : okS A O fc) (hN : 153 ≤ N) (s ti y v z : Int32) (hz : z = 0 ∨ z = 1) :
    K l t yX8_row cX8_row 6 (some .int) (rD 1) N ad w [.ref (ad 132), .int s, .int ti, .int y, .int v, .int z]
      (fun res w' => res = some (.int (if rowOK s ti y v = true then (if A.length < 60 then nI A.length else -2) else -1)) ∧ isM t ad w' (if rowOK s ti y v = true ∧ A.length < 60 then A ++ [(s, ti, y, v, z)] else A) I O Td jd J fc df ∧ ∀ i, i < 132 ∨ 153 ≤ i → w' i = w i) := by
  have zM := hM
  obtain ⟨io, op, ot, ok, nw, fa, c0, cA, cT, cO, cR, cTd, cf⟩ := hM
  have zA := cw.1
  have z12 := cw.2.1
  have z9k := cw.2.2.1
  obtain ⟨S, T, Y, V, Z, a1, a2, a3, a4, a5, a6⟩ := id cA
  refine K.of (own := RX8) (lv := [(0, .ref (ad 132)), (1, .int s), (2, .int ti), (3, .int y), (4, .int v), (5, .int z)]) (by decide +kernel) rfl (Nat.le_of_ble_eq_true rfl) rfl (fun P post hret => ?_)
  rw [rowOK] at hret
  have bad : (wi s (nI 0) (nI 2) && (wi ti (nI 0) (nI 999) && (wi y (nI 0) (nI 5) && wi v (-1000000) 1000000))) = false → G l t (rD 1) P cX8_row 6 RX8 (some .int) post 0 0 N ad 0 0 41 [(0, .ref (ad 132)), (1, .int s), (2, .int ti), (3, .int y), (4, .int v), (5, .int z)] [] w := by
    intro zb
    rw [zb] at hret
    refine G.iconst (v := -1) dX8_row_41 (by decide +kernel) ?_
    refine G.iret rfl rfl rfl dX8_row_42 ?_
    exact hret _ _ ⟨rfl, by simpa using zM, fun _ _ => rfl⟩
  refine G.iload_n 1 rfl rfl dX8_row_0 ?_
  refine G.iconst (v := nI 0) dX8_row_1 (by decide +kernel) ?_
  refine G.iconst (v := nI 2) dX8_row_2 (by decide +kernel) ?_
  refine G.callS (n := 3) (c_X8_isIn s (nI 0) (nI 2)) rfl tb_699 tb_700 tb_42 tb_701 (by decide +kernel) rfl ⟨(Nat.le_of_ble_eq_true rfl), (Nat.le_of_ble_eq_true rfl)⟩ ⟨rfl, rfl⟩ (Nat.le_of_ble_eq_true rfl) ⟨Nat.zero_le _, Nat.zero_le _⟩ dX8_row_3 (fun gr2 gw1 hp => ?_)
  obtain ⟨rfl, rfl⟩ := hp
  cases z1 : wi s (nI 0) (nI 2)
  · skip
    refine G.nif_eq 41 dX8_row_6 rfl (by decide) (fun _ => ?_) (fun zz => absurd zz (by decide))
    exact bad (by rw [z1]; rfl)
  · skip
    refine G.nif_eq 41 dX8_row_6 rfl (by decide) (fun zz => absurd zz (by decide)) (fun _ => ?_)
    refine G.iload_n 2 rfl rfl dX8_row_9 ?_
    refine G.iconst (v := nI 0) dX8_row_10 (by decide +kernel) ?_
    refine G.sipush (v := nI 999) dX8_row_11 (by decide +kernel) ?_
    refine G.callS (n := 3) (c_X8_isIn ti (nI 0) (nI 999)) rfl tb_699 tb_700 tb_42 tb_701 (by decide +kernel) rfl ⟨(Nat.le_of_ble_eq_true rfl), (Nat.le_of_ble_eq_true rfl)⟩ ⟨rfl, rfl⟩ (Nat.le_of_ble_eq_true rfl) ⟨Nat.zero_le _, Nat.zero_le _⟩ dX8_row_14 (fun gr4 gw3 hp => ?_)
    obtain ⟨rfl, rfl⟩ := hp
    cases z2 : wi ti (nI 0) (nI 999)
    · skip
      refine G.nif_eq 41 dX8_row_17 rfl (by decide) (fun _ => ?_) (fun zz => absurd zz (by decide))
      exact bad (by rw [z1, z2]; rfl)
    · skip
      refine G.nif_eq 41 dX8_row_17 rfl (by decide) (fun zz => absurd zz (by decide)) (fun _ => ?_)
      refine G.iload_n 3 rfl rfl dX8_row_20 ?_
      refine G.iconst (v := nI 0) dX8_row_21 (by decide +kernel) ?_
      refine G.iconst (v := nI 5) dX8_row_22 (by decide +kernel) ?_
      refine G.callS (n := 3) (c_X8_isIn y (nI 0) (nI 5)) rfl tb_699 tb_700 tb_42 tb_701 (by decide +kernel) rfl ⟨(Nat.le_of_ble_eq_true rfl), (Nat.le_of_ble_eq_true rfl)⟩ ⟨rfl, rfl⟩ (Nat.le_of_ble_eq_true rfl) ⟨Nat.zero_le _, Nat.zero_le _⟩ dX8_row_23 (fun gr6 gw5 hp => ?_)
      obtain ⟨rfl, rfl⟩ := hp
      cases z3 : wi y (nI 0) (nI 5)
      · skip
        refine G.nif_eq 41 dX8_row_26 rfl (by decide) (fun _ => ?_) (fun zz => absurd zz (by decide))
        exact bad (by rw [z1, z2, z3]; rfl)
      · skip
        refine G.nif_eq 41 dX8_row_26 rfl (by decide) (fun zz => absurd zz (by decide)) (fun _ => ?_)
        refine G.iload 4 rfl dX8_row_29 ?_
        refine G.ldc dX8_row_31 tb_702 ?_
        refine G.ldc dX8_row_33 tb_703 ?_
        refine G.callS (n := 3) (c_X8_isIn v (-1000000) 1000000) rfl tb_699 tb_700 tb_42 tb_701 (by decide +kernel) rfl ⟨(Nat.le_of_ble_eq_true rfl), (Nat.le_of_ble_eq_true rfl)⟩ ⟨rfl, rfl⟩ (Nat.le_of_ble_eq_true rfl) ⟨Nat.zero_le _, Nat.zero_le _⟩ dX8_row_35 (fun gr8 gw7 hp => ?_)
        obtain ⟨rfl, rfl⟩ := hp
        cases z4 : wi v (-1000000) 1000000
        · skip
          refine G.nif_ne 43 dX8_row_38 rfl (by decide) (fun zz => absurd zz (by decide)) (fun _ => ?_)
          exact bad (by rw [z1, z2, z3, z4]; rfl)
        · skip
          have zok : (wi s (nI 0) (nI 2) && (wi ti (nI 0) (nI 999) && (wi y (nI 0) (nI 5) && wi v (-1000000) 1000000))) = true := by rw [z1, z2, z3, z4]; rfl
          rw [zok] at hret
          refine G.nif_ne 43 dX8_row_38 rfl (by decide) (fun _ => ?_) (fun zz => absurd zz (by decide))
          refine G.aload_n 0 rfl rfl dX8_row_43 ?_
          refine G.get 132 (by omega) c0 rfl twX8 0 (by decide) tb_604 rfl rfl dX8_row_44 ?_
          refine G.bipush (v := nI 60) dX8_row_47 (by decide +kernel) ?_
          refine G.ncmp_ne 55 dX8_row_49 rfl (by omega) (by omega) (fun c49 => ?_) (fun c49 => ?_)
          · skip
            refine G.aload_n 0 rfl rfl dX8_row_55 ?_
            refine G.get 132 (by omega) c0 rfl twX8 1 (by decide) tb_605 rfl rfl dX8_row_56 ?_
            refine G.aload_n 0 rfl rfl dX8_row_59 ?_
            refine G.get 132 (by omega) c0 rfl twX8 0 (by decide) tb_604 rfl rfl dX8_row_60 ?_
            refine G.iload_n 1 rfl rfl dX8_row_63 ?_
            refine G.iast 133 (by omega) a1 A.length (rfl) (by omega) (by omega) dX8_row_64 (fun gw9 gh10 gf11 => ?_)
            refine G.aload_n 0 rfl rfl dX8_row_65 ?_
            have gh12 := (gf11 132 (by omega)).trans c0
            refine G.get 132 (by omega) gh12 rfl twX8 2 (by decide) tb_606 rfl rfl dX8_row_66 ?_
            refine G.aload_n 0 rfl rfl dX8_row_69 ?_
            refine G.get 132 (by omega) gh12 rfl twX8 0 (by decide) tb_604 rfl rfl dX8_row_70 ?_
            refine G.iload_n 2 rfl rfl dX8_row_73 ?_
            have gh13 := (gf11 134 (by omega)).trans a2
            refine G.iast 134 (by omega) gh13 A.length (rfl) (by omega) (by omega) dX8_row_74 (fun gw14 gh15 gf16 => ?_)
            refine G.aload_n 0 rfl rfl dX8_row_75 ?_
            have gh17 := (gf16 132 (by omega)).trans gh12
            refine G.get 132 (by omega) gh17 rfl twX8 3 (by decide) tb_607 rfl rfl dX8_row_76 ?_
            refine G.aload_n 0 rfl rfl dX8_row_79 ?_
            refine G.get 132 (by omega) gh17 rfl twX8 0 (by decide) tb_604 rfl rfl dX8_row_80 ?_
            refine G.iload_n 3 rfl rfl dX8_row_83 ?_
            have gh18 := (gf11 135 (by omega)).trans a3
            have gh19 := (gf16 135 (by omega)).trans gh18
            refine G.iast 135 (by omega) gh19 A.length (rfl) (by omega) (by omega) dX8_row_84 (fun gw20 gh21 gf22 => ?_)
            refine G.aload_n 0 rfl rfl dX8_row_85 ?_
            have gh23 := (gf22 132 (by omega)).trans gh17
            refine G.get 132 (by omega) gh23 rfl twX8 4 (by decide) tb_608 rfl rfl dX8_row_86 ?_
            refine G.aload_n 0 rfl rfl dX8_row_89 ?_
            refine G.get 132 (by omega) gh23 rfl twX8 0 (by decide) tb_604 rfl rfl dX8_row_90 ?_
            refine G.iload 4 rfl dX8_row_93 ?_
            have gh24 := (gf11 136 (by omega)).trans a4
            have gh25 := (gf16 136 (by omega)).trans gh24
            have gh26 := (gf22 136 (by omega)).trans gh25
            refine G.iast 136 (by omega) gh26 A.length (rfl) (by omega) (by omega) dX8_row_95 (fun gw27 gh28 gf29 => ?_)
            refine G.aload_n 0 rfl rfl dX8_row_96 ?_
            have gh30 := (gf29 132 (by omega)).trans gh23
            refine G.get 132 (by omega) gh30 rfl twX8 5 (by decide) tb_609 rfl rfl dX8_row_97 ?_
            refine G.aload_n 0 rfl rfl dX8_row_100 ?_
            refine G.get 132 (by omega) gh30 rfl twX8 0 (by decide) tb_604 rfl rfl dX8_row_101 ?_
            refine G.iload 5 rfl dX8_row_104 ?_
            have gh31 := (gf11 137 (by omega)).trans a5
            have gh32 := (gf16 137 (by omega)).trans gh31
            have gh33 := (gf22 137 (by omega)).trans gh32
            have gh34 := (gf29 137 (by omega)).trans gh33
            refine G.zast 137 (by omega) gh34 A.length (rfl) (by omega) (by omega) hz dX8_row_106 (fun gw35 gh36 gf37 => ?_)
            refine G.aload_n 0 rfl rfl dX8_row_107 ?_
            refine G.dup rfl dX8_row_108 ?_
            have gh38 := (gf37 132 (by omega)).trans gh30
            refine G.get 132 (by omega) gh38 rfl twX8 0 (by decide) tb_604 rfl rfl dX8_row_109 ?_
            refine G.iconst (v := nI 1) dX8_row_112 (by decide +kernel) ?_
            refine G.iadd dX8_row_113 ?_
            refine G.topi (nI (A.length + 1)) (nI_add A.length 1) ?_
            refine G.put 132 (by omega) gh38 rfl twX8 0 (by decide) tyX8 tyX8_ok nmX8 tb_604 rfl rfl (tyX8_ok 0 (by decide)) rfl rfl (Nat.le_of_ble_eq_true rfl) dX8_row_114 (fun gw39 gh40 gf41 => ?_)
            have hfr : ∀ i, i < 132 ∨ 138 ≤ i → gw39 i = w i := fun i hi => (gf41 i (by omega)).trans ((gf37 i (by omega)).trans ((gf29 i (by omega)).trans ((gf22 i (by omega)).trans ((gf16 i (by omega)).trans (gf11 i (by omega))))))
            have hx := gh40
            have gh42 := (gf16 133 (by omega)).trans gh10
            have gh43 := (gf22 133 (by omega)).trans gh42
            have gh44 := (gf29 133 (by omega)).trans gh43
            have gh45 := (gf37 133 (by omega)).trans gh44
            have gh46 := (gf41 133 (by omega)).trans gh45
            have b1 := gh46
            have gh47 := (gf22 134 (by omega)).trans gh15
            have gh48 := (gf29 134 (by omega)).trans gh47
            have gh49 := (gf37 134 (by omega)).trans gh48
            have gh50 := (gf41 134 (by omega)).trans gh49
            have b2 := gh50
            have gh51 := (gf29 135 (by omega)).trans gh21
            have gh52 := (gf37 135 (by omega)).trans gh51
            have gh53 := (gf41 135 (by omega)).trans gh52
            have b3 := gh53
            have gh54 := (gf37 136 (by omega)).trans gh28
            have gh55 := (gf41 136 (by omega)).trans gh54
            have b4 := gh55
            have gh56 := (gf41 137 (by omega)).trans gh36
            have b5 := gh56
            refine G.aload_n 0 rfl rfl dX8_row_117 ?_
            refine G.get 132 (by omega) gh40 rfl twX8 0 (by decide) tb_604 rfl rfl dX8_row_118 ?_
            refine G.iconst (v := nI 1) dX8_row_121 (by decide +kernel) ?_
            refine G.isub dX8_row_122 ?_
            refine G.topi (nI A.length) (pk_sub (by omega)) ?_
            refine G.iret rfl rfl rfl dX8_row_123 ?_
            have zl : (A ++ [(s, ti, y, v, z)]).length = A.length + 1 := by simp
            refine hret _ _ ⟨by rw [if_pos rfl, if_pos (by omega)], ?_, fun i hi => hfr i (by omega)⟩
            rw [if_pos ⟨rfl, by omega⟩]
            refine ⟨io, op, ot, ok, nw, fa, by rw [zl]; exact hx, ⟨_, _, _, _, _, b1, b2, b3, b4, b5, fun j hj => ?_⟩, cT.keep (hfr _ (by omega)), cO.keep (fun i q1 q2 => hfr i (by omega)), cR.keep (fun i q1 q2 => hfr i (by omega)), cTd.keep (fun i q1 q2 => hfr i (by omega)), cf⟩
            rw [zl] at hj
            by_cases q : j = A.length
            · subst q
              rw [getD_snoc, upd_s, upd_s, upd_s, upd_s, upd_s]
            · rw [getD_app (by omega), upd_n q, upd_n q, upd_n q, upd_n q, upd_n q]
              exact a6 j (by omega)
          · skip
            refine G.bipush (v := -2) dX8_row_52 (by decide +kernel) ?_
            refine G.iret rfl rfl rfl dX8_row_54 ?_
            refine hret _ _ ⟨by rw [if_pos rfl, if_neg (by omega)], ?_, fun i hi => rfl⟩
            rw [if_neg (fun q => by omega)]
            exact zM
theorem c_X8_late (hM : isM t ad w A I O Td jd J fc df) (cw : okS A O fc) (hN : 153 ≤ N) (i z : Int32) (hz : z = 0 ∨ z = 1) :
    K l t yX8_late cX8_late 4 (some .int) (rD 1) N ad w [.ref (ad 132), .int i, .int z]
      (fun res w' => res = some (.int (match ix A.length i with | none => -1 | some j => (A.getD j a0).2.2.2.2)) ∧ isM t ad w' (match ix A.length i with | none => A | some j => A.set j (setLate (A.getD j a0) z)) I O Td jd J fc df ∧ ∀ i, i < 132 ∨ 153 ≤ i → w' i = w i) := by
  have zM := hM
  obtain ⟨io, op, ot, ok, nw, fa, c0, cA, cT, cO, cR, cTd, cf⟩ := hM
  have zA := cw.1
  have z12 := cw.2.1
  have z9k := cw.2.2.1
  obtain ⟨S, T, Y, V, Z, a1, a2, a3, a4, a5, a6⟩ := id cA
  refine K.of (own := RX8) (lv := [(0, .ref (ad 132)), (1, .int i), (2, .int z)]) (by decide +kernel) rfl (Nat.le_of_ble_eq_true rfl) rfl (fun P post hret => ?_)
  refine G.iload_n 1 rfl rfl dX8_late_0 ?_
  refine G.iconst (v := nI 0) dX8_late_1 (by decide +kernel) ?_
  refine G.aload_n 0 rfl rfl dX8_late_2 ?_
  refine G.get 132 (by omega) c0 rfl twX8 0 (by decide) tb_604 rfl rfl dX8_late_3 ?_
  refine G.iconst (v := nI 1) dX8_late_6 (by decide +kernel) ?_
  refine G.isub dX8_late_7 ?_
  refine G.callS (n := 3) (c_X8_isIn i (nI 0) (nI A.length - nI 1)) rfl tb_699 tb_700 tb_42 tb_701 (by decide +kernel) rfl ⟨(Nat.le_of_ble_eq_true rfl), (Nat.le_of_ble_eq_true rfl)⟩ ⟨rfl, rfl⟩ (Nat.le_of_ble_eq_true rfl) ⟨Nat.zero_le _, Nat.zero_le _⟩ dX8_late_8 (fun gr2 gw1 hp => ?_)
  obtain ⟨rfl, rfl⟩ := hp
  rw [wi_ix (by omega)]
  cases zi : ix A.length i with
  | none =>
    refine G.nif_ne 16 dX8_late_11 rfl (by decide) (fun zz => absurd zz (by decide)) (fun _ => ?_)
    refine G.iconst (v := -1) dX8_late_14 (by decide +kernel) ?_
    refine G.iret rfl rfl rfl dX8_late_15 ?_
    rw [zi] at hret
    exact hret _ _ ⟨rfl, zM, fun _ _ => rfl⟩
  | some j =>
    rw [show (some j).isSome = true from rfl]
    obtain ⟨j1, j2, rfl⟩ := ix_some zi
    rw [zi] at hret
    dsimp only at hret
    have hzj := (cw.2.2.2.2 j j1).1
    have ea := a6 j j1
    have mk : ∀ zw : Nat → va_E, zw 137 = .inl (t.2.2.2.1, 60, .inl (upd Z j z)) → (∀ i, i ≠ 137 → zw i = w i) → isM t ad zw (A.set j (setLate (A.getD j a0) z)) I O Td jd J fc df := fun zw hz5 hf => by
      refine ⟨io, op, ot, ok, nw, fa, by rw [List.length_set]; exact (hf _ (by omega)).trans c0, ⟨S, T, Y, V, _, (hf _ (by omega)).trans a1, (hf _ (by omega)).trans a2, (hf _ (by omega)).trans a3, (hf _ (by omega)).trans a4, hz5, fun k hk => ?_⟩, cT.keep (hf _ (by omega)), cO.keep (fun i q1 q2 => hf i (by omega)), cR.keep (fun i q1 q2 => hf i (by omega)), cTd.keep (fun i q1 q2 => hf i (by omega)), cf⟩
      rw [List.length_set] at hk
      by_cases q : k = j
      · subst q
        rw [List.getD_eq_getElem?_getD, List.getElem?_set_self hk, upd_s, setLate, ea]; rfl
      · rw [List.getD_eq_getElem?_getD, List.getElem?_set_ne (Ne.symm q), ← List.getD_eq_getElem?_getD, upd_n q]
        exact a6 k hk
    rw [ea] at hzj
    refine G.nif_ne 16 dX8_late_11 rfl (by decide) (fun _ => ?_) (fun zz => absurd zz (by decide))
    refine G.aload_n 0 rfl rfl dX8_late_16 ?_
    refine G.get 132 (by omega) c0 rfl twX8 5 (by decide) tb_609 rfl rfl dX8_late_17 ?_
    refine G.iload_n 1 rfl rfl dX8_late_20 ?_
    refine G.zald 137 (by omega) a5 j (rfl) (by omega) (by omega) dX8_late_21 ?_
    refine G.if_eq 29 dX8_late_22 rfl (fun c22 => ?_) (fun c22 => ?_)
    · skip
      refine G.iconst (v := nI 0) dX8_late_29 (by decide +kernel) ?_
      refine G.istore_n [(3, .int (nI 0)), (0, .ref (ad 132)), (1, .int (nI j)), (2, .int z)] dX8_late_30 rfl (by decide) rfl ?_
      refine G.aload_n 1 rfl rfl dX8_late_31 ?_
      refine G.get 132 (by omega) c0 rfl twX8 5 (by decide) tb_609 rfl rfl dX8_late_32 ?_
      refine G.iload_n 2 rfl rfl dX8_late_35 ?_
      refine G.iload_n 3 rfl rfl dX8_late_36 ?_
      refine G.zast 137 (by omega) a5 j (rfl) (by omega) (by omega) hz dX8_late_37 (fun gw3 gh4 gf5 => ?_)
      refine G.iload_n 0 rfl rfl dX8_late_38 ?_
      refine G.iret rfl rfl rfl dX8_late_39 ?_
      have b5 := gh4
      have hfr : ∀ i, i ≠ 137 → gw3 i = w i := fun i hi => gf5 i (by omega)
      exact hret _ _ ⟨by rw [ea]; exact congrArg (fun q => some (Value.int q)) c22.symm, mk _ b5 hfr, fun i hi => hfr i (by omega)⟩
    · skip
      refine G.iconst (v := nI 1) dX8_late_25 (by decide +kernel) ?_
      refine G.goto 30 dX8_late_26 rfl ?_
      refine G.istore_n [(3, .int (nI 1)), (0, .ref (ad 132)), (1, .int (nI j)), (2, .int z)] dX8_late_30 rfl (by decide) rfl ?_
      refine G.aload_n 1 rfl rfl dX8_late_31 ?_
      refine G.get 132 (by omega) c0 rfl twX8 5 (by decide) tb_609 rfl rfl dX8_late_32 ?_
      refine G.iload_n 2 rfl rfl dX8_late_35 ?_
      refine G.iload_n 3 rfl rfl dX8_late_36 ?_
      refine G.zast 137 (by omega) a5 j (rfl) (by omega) (by omega) hz dX8_late_37 (fun gw6 gh7 gf8 => ?_)
      refine G.iload_n 0 rfl rfl dX8_late_38 ?_
      refine G.iret rfl rfl rfl dX8_late_39 ?_
      have b5 := gh7
      have hfr : ∀ i, i ≠ 137 → gw6 i = w i := fun i hi => gf8 i (by omega)
      have z1 : Z j = 1 := by
        rcases hzj with q | q
        · exact absurd q c22
        · exact q
      exact hret _ _ ⟨by rw [ea]; exact congrArg (fun q => some (Value.int q)) z1.symm, mk _ b5 hfr, fun i hi => hfr i (by omega)⟩
theorem c_X8_item (hM : isM t ad w A I O Td jd J fc df) (cw : okS A O fc) (hN : 153 ≤ N) (i v : Int32) :
    K l t yX8_item cX8_item 4 (some .int) (rD 1) N ad w [.ref (ad 132), .int i, .int v]
      (fun res w' => res = some (.int (match ix 8 i with | none => -1 | some j => I j)) ∧ isM t ad w' A (match ix 8 i with | none => I | some j => upd I j v) O Td jd J fc df ∧ ∀ i, i < 132 ∨ 153 ≤ i → w' i = w i) := by
  have zM := hM
  obtain ⟨io, op, ot, ok, nw, fa, c0, cA, cT, cO, cR, cTd, cf⟩ := hM
  have zA := cw.1
  have z12 := cw.2.1
  have z9k := cw.2.2.1
  obtain ⟨tf, t1, t2⟩ := id cT
  refine K.of (own := RX8) (lv := [(0, .ref (ad 132)), (1, .int i), (2, .int v)]) (by decide +kernel) rfl (Nat.le_of_ble_eq_true rfl) rfl (fun P post hret => ?_)
  refine G.iload_n 1 rfl rfl dX8_item_0 ?_
  refine G.iconst (v := nI 0) dX8_item_1 (by decide +kernel) ?_
  refine G.bipush (v := nI 7) dX8_item_2 (by decide +kernel) ?_
  refine G.callS (n := 3) (c_X8_isIn i (nI 0) (nI 7)) rfl tb_699 tb_700 tb_42 tb_701 (by decide +kernel) rfl ⟨(Nat.le_of_ble_eq_true rfl), (Nat.le_of_ble_eq_true rfl)⟩ ⟨rfl, rfl⟩ (Nat.le_of_ble_eq_true rfl) ⟨Nat.zero_le _, Nat.zero_le _⟩ dX8_item_4 (fun gr2 gw1 hp => ?_)
  obtain ⟨rfl, rfl⟩ := hp
  rw [wi_n (by omega)]
  cases zi : ix 8 i with
  | none =>
    refine G.nif_ne 12 dX8_item_7 rfl (by decide) (fun zz => absurd zz (by decide)) (fun _ => ?_)
    refine G.iconst (v := -1) dX8_item_10 (by decide +kernel) ?_
    refine G.iret rfl rfl rfl dX8_item_11 ?_
    rw [zi] at hret
    exact hret _ _ ⟨rfl, zM, fun _ _ => rfl⟩
  | some j =>
    rw [show (some j).isSome = true from rfl]
    obtain ⟨j1, j2, rfl⟩ := ix_some zi
    rw [zi] at hret
    dsimp only at hret
    refine G.nif_ne 12 dX8_item_7 rfl (by decide) (fun _ => ?_) (fun zz => absurd zz (by decide))
    refine G.aload_n 0 rfl rfl dX8_item_12 ?_
    refine G.get 132 (by omega) c0 rfl twX8 6 (by decide) tb_610 rfl rfl dX8_item_13 ?_
    refine G.iload_n 1 rfl rfl dX8_item_16 ?_
    refine G.iald 138 (by omega) t1 j (rfl) (by omega) (by omega) dX8_item_17 ?_
    refine G.istore_n [(3, .int (tf j)), (0, .ref (ad 132)), (1, .int (nI j)), (2, .int v)] dX8_item_18 rfl (by decide) rfl ?_
    refine G.aload_n 1 rfl rfl dX8_item_19 ?_
    refine G.get 132 (by omega) c0 rfl twX8 6 (by decide) tb_610 rfl rfl dX8_item_20 ?_
    refine G.iload_n 2 rfl rfl dX8_item_23 ?_
    refine G.iload_n 3 rfl rfl dX8_item_24 ?_
    refine G.iast 138 (by omega) t1 j (rfl) (by omega) (by omega) dX8_item_25 (fun gw3 gh4 gf5 => ?_)
    refine G.iload_n 0 rfl rfl dX8_item_26 ?_
    refine G.iret rfl rfl rfl dX8_item_27 ?_
    have b5 := gh4
    have hfr : ∀ i, i ≠ 138 → gw3 i = w i := fun i hi => gf5 i (by omega)
    refine hret _ _ ⟨by rw [t2 j j1], ⟨io, op, ot, ok, nw, fa, (hfr _ (by omega)).trans c0, cA.keep (fun i q1 q2 => hfr i (by omega)), ⟨_, b5, fun k hk => ?_⟩, cO.keep (fun i q1 q2 => hfr i (by omega)), cR.keep (fun i q1 q2 => hfr i (by omega)), cTd.keep (fun i q1 q2 => hfr i (by omega)), cf⟩, fun i hi => hfr i (by omega)⟩
    by_cases q : k = j
    · subst q; rw [upd_s, upd_s]
    · rw [upd_n q, upd_n q]; exact t2 k hk
theorem c_X8_wipe (hM : isM t ad w A I O Td jd J fc df) (cw : okS A O fc) (hN : 153 ≤ N) :
    K l t yX8_wipe cX8_wipe 2 (some .int) (rD 0) N ad w [.ref (ad 132)]
      (fun res w' => res = some (.int (nI A.length)) ∧ isM t ad w' [] I O Td jd J fc df ∧ ∀ i, i < 132 ∨ 153 ≤ i → w' i = w i) := by
  have zM := hM
  obtain ⟨io, op, ot, ok, nw, fa, c0, cA, cT, cO, cR, cTd, cf⟩ := hM
  have zA := cw.1
  have z12 := cw.2.1
  have z9k := cw.2.2.1
  obtain ⟨S, T, Y, V, Z, a1, a2, a3, a4, a5, a6⟩ := id cA
  refine K.of (own := RX8) (lv := [(0, .ref (ad 132))]) (by decide +kernel) rfl (Nat.le_of_ble_eq_true rfl) rfl (fun P post hret => ?_)
  refine G.aload_n 0 rfl rfl dX8_wipe_0 ?_
  refine G.get 132 (by omega) c0 rfl twX8 0 (by decide) tb_604 rfl rfl dX8_wipe_1 ?_
  refine G.istore_n [(1, .int (nI A.length)), (0, .ref (ad 132))] dX8_wipe_4 rfl (by decide) rfl ?_
  refine G.aload_n 1 rfl rfl dX8_wipe_5 ?_
  refine G.iconst (v := nI 0) dX8_wipe_6 (by decide +kernel) ?_
  refine G.put 132 (by omega) c0 rfl twX8 0 (by decide) tyX8 tyX8_ok nmX8 tb_604 rfl rfl (tyX8_ok 0 (by decide)) rfl rfl (Nat.le_of_ble_eq_true rfl) dX8_wipe_7 (fun gw1 gh2 gf3 => ?_)
  refine G.iload_n 0 rfl rfl dX8_wipe_10 ?_
  refine G.iret rfl rfl rfl dX8_wipe_11 ?_
  have hx := gh2
  have hfr : ∀ i, i ≠ 132 → gw1 i = w i := fun i hi => gf3 i (by omega)
  exact hret _ _ ⟨rfl, ⟨io, op, ot, ok, nw, fa, hx, ⟨S, T, Y, V, Z, (hfr _ (by omega)).trans a1, (hfr _ (by omega)).trans a2, (hfr _ (by omega)).trans a3, (hfr _ (by omega)).trans a4, (hfr _ (by omega)).trans a5, fun j hj => by simp at hj⟩, cT.keep (hfr _ (by omega)), cO.keep (fun i q1 q2 => hfr i (by omega)), cR.keep (fun i q1 q2 => hfr i (by omega)), cTd.keep (fun i q1 q2 => hfr i (by omega)), cf⟩, fun i hi => hfr i (by omega)⟩
theorem c_X8_added (hM : isM t ad w A I O Td jd J fc df) (cw : okS A O fc) (hN : 153 ≤ N) {o : OD} {kd p q nu : Int32} (ho : opM o kd p q nu) :
    K l t yX8_added cX8_added 5 (some .int) (rD 0) N ad w [.ref (ad 132), .int kd, .int p, .int q, .int nu]
      (fun res w' => res = some (.int (addR O)) ∧ (∀ Td', (∀ i, i < O.length → Td' i = Td i) → (O.length < 12 → Td' O.length = []) → isM t ad w' A I (addO O o) Td' (addB O jd) J fc (addD O df)) ∧ ∀ i, i < 132 ∨ 153 ≤ i → w' i = w i) := by
  have zM := hM
  obtain ⟨io, op, ot, ok, nw, fa, c0, cA, cT, cO, cR, cTd, cf⟩ := hM
  have zA := cw.1
  have z12 := cw.2.1
  have z9k := cw.2.2.1
  obtain ⟨k1, o1, o2, nm, p1, p2, p3, p4, p5⟩ := id cO
  obtain ⟨Md, Te, Ye, Ve, s1, s2, s3, s4, s5⟩ := id cTd
  refine K.of (own := RX8) (lv := [(0, .ref (ad 132)), (1, .int kd), (2, .int p), (3, .int q), (4, .int nu)]) (by decide +kernel) rfl (Nat.le_of_ble_eq_true rfl) rfl (fun P post hret => ?_)
  refine G.aload_n 0 rfl rfl dX8_added_0 ?_
  refine G.get 132 (by omega) c0 rfl twX8 7 (by decide) tb_611 rfl rfl dX8_added_1 ?_
  refine G.bipush (v := nI 12) dX8_added_4 (by decide +kernel) ?_
  refine G.ncmp_ne 12 dX8_added_6 rfl (by omega) (by omega) (fun c6 => ?_) (fun c6 => ?_)
  · skip
    refine G.aload_n 0 rfl rfl dX8_added_12 ?_
    refine G.get 132 (by omega) c0 rfl twX8 8 (by decide) tb_612 rfl rfl dX8_added_13 ?_
    refine G.aload_n 0 rfl rfl dX8_added_16 ?_
    refine G.get 132 (by omega) c0 rfl twX8 7 (by decide) tb_611 rfl rfl dX8_added_17 ?_
    refine G.iload_n 1 rfl rfl dX8_added_20 ?_
    refine G.iast 139 (by omega) p1 O.length (rfl) (by omega) (by omega) dX8_added_21 (fun gw1 gh2 gf3 => ?_)
    refine G.aload_n 0 rfl rfl dX8_added_22 ?_
    have gh4 := (gf3 132 (by omega)).trans c0
    refine G.get 132 (by omega) gh4 rfl twX8 9 (by decide) tb_613 rfl rfl dX8_added_23 ?_
    refine G.aload_n 0 rfl rfl dX8_added_26 ?_
    refine G.get 132 (by omega) gh4 rfl twX8 7 (by decide) tb_611 rfl rfl dX8_added_27 ?_
    refine G.iload_n 2 rfl rfl dX8_added_30 ?_
    have gh5 := (gf3 140 (by omega)).trans p2
    refine G.iast 140 (by omega) gh5 O.length (rfl) (by omega) (by omega) dX8_added_31 (fun gw6 gh7 gf8 => ?_)
    refine G.aload_n 0 rfl rfl dX8_added_32 ?_
    have gh9 := (gf8 132 (by omega)).trans gh4
    refine G.get 132 (by omega) gh9 rfl twX8 10 (by decide) tb_614 rfl rfl dX8_added_33 ?_
    refine G.aload_n 0 rfl rfl dX8_added_36 ?_
    refine G.get 132 (by omega) gh9 rfl twX8 7 (by decide) tb_611 rfl rfl dX8_added_37 ?_
    refine G.iload_n 3 rfl rfl dX8_added_40 ?_
    have gh10 := (gf3 141 (by omega)).trans p3
    have gh11 := (gf8 141 (by omega)).trans gh10
    refine G.iast 141 (by omega) gh11 O.length (rfl) (by omega) (by omega) dX8_added_41 (fun gw12 gh13 gf14 => ?_)
    refine G.aload_n 0 rfl rfl dX8_added_42 ?_
    have gh15 := (gf14 132 (by omega)).trans gh9
    refine G.get 132 (by omega) gh15 rfl twX8 11 (by decide) tb_615 rfl rfl dX8_added_43 ?_
    refine G.aload_n 0 rfl rfl dX8_added_46 ?_
    refine G.get 132 (by omega) gh15 rfl twX8 7 (by decide) tb_611 rfl rfl dX8_added_47 ?_
    refine G.iload 4 rfl dX8_added_50 ?_
    have gh16 := (gf3 142 (by omega)).trans p4
    have gh17 := (gf8 142 (by omega)).trans gh16
    have gh18 := (gf14 142 (by omega)).trans gh17
    refine G.iast 142 (by omega) gh18 O.length (rfl) (by omega) (by omega) dX8_added_52 (fun gw19 gh20 gf21 => ?_)
    refine G.aload_n 0 rfl rfl dX8_added_53 ?_
    have gh22 := (gf21 132 (by omega)).trans gh15
    refine G.get 132 (by omega) gh22 rfl twX8 20 (by decide) tb_624 rfl rfl dX8_added_54 ?_
    refine G.aload_n 0 rfl rfl dX8_added_57 ?_
    refine G.get 132 (by omega) gh22 rfl twX8 7 (by decide) tb_611 rfl rfl dX8_added_58 ?_
    refine G.iconst (v := nI 0) dX8_added_61 (by decide +kernel) ?_
    have gh23 := (gf3 149 (by omega)).trans s1
    have gh24 := (gf8 149 (by omega)).trans gh23
    have gh25 := (gf14 149 (by omega)).trans gh24
    have gh26 := (gf21 149 (by omega)).trans gh25
    refine G.iast 149 (by omega) gh26 O.length (rfl) (by omega) (by omega) dX8_added_62 (fun gw27 gh28 gf29 => ?_)
    refine G.aload_n 0 rfl rfl dX8_added_63 ?_
    refine G.iconst (v := nI 0) dX8_added_64 (by decide +kernel) ?_
    have gh30 := (gf29 132 (by omega)).trans gh22
    refine G.put 132 (by omega) gh30 rfl twX8 12 (by decide) tyX8 tyX8_ok nmX8 tb_616 rfl rfl (tyX8_ok 12 (by decide)) (nb_n (Or.inl rfl)) (nb_f (Or.inl rfl)) (Nat.le_of_ble_eq_true rfl) dX8_added_65 (fun gw31 gh32 gf33 => ?_)
    refine G.aload_n 0 rfl rfl dX8_added_68 ?_
    refine G.dup rfl dX8_added_69 ?_
    refine G.get 132 (by omega) gh32 rfl twX8 7 (by decide) tb_611 rfl rfl dX8_added_70 ?_
    refine G.iconst (v := nI 1) dX8_added_73 (by decide +kernel) ?_
    refine G.iadd dX8_added_74 ?_
    refine G.topi (nI (O.length + 1)) (nI_add O.length 1) ?_
    refine G.put 132 (by omega) gh32 rfl twX8 7 (by decide) tyX8 tyX8_ok nmX8 tb_611 rfl rfl (tyX8_ok 7 (by decide)) rfl rfl (Nat.le_of_ble_eq_true rfl) dX8_added_75 (fun gw34 gh35 gf36 => ?_)
    have hx := gh35
    have gh37 := (gf8 139 (by omega)).trans gh2
    have gh38 := (gf14 139 (by omega)).trans gh37
    have gh39 := (gf21 139 (by omega)).trans gh38
    have gh40 := (gf29 139 (by omega)).trans gh39
    have gh41 := (gf33 139 (by omega)).trans gh40
    have gh42 := (gf36 139 (by omega)).trans gh41
    have b1 := gh42
    have gh43 := (gf14 140 (by omega)).trans gh7
    have gh44 := (gf21 140 (by omega)).trans gh43
    have gh45 := (gf29 140 (by omega)).trans gh44
    have gh46 := (gf33 140 (by omega)).trans gh45
    have gh47 := (gf36 140 (by omega)).trans gh46
    have b2 := gh47
    have gh48 := (gf21 141 (by omega)).trans gh13
    have gh49 := (gf29 141 (by omega)).trans gh48
    have gh50 := (gf33 141 (by omega)).trans gh49
    have gh51 := (gf36 141 (by omega)).trans gh50
    have b3 := gh51
    have gh52 := (gf29 142 (by omega)).trans gh20
    have gh53 := (gf33 142 (by omega)).trans gh52
    have gh54 := (gf36 142 (by omega)).trans gh53
    have b4 := gh54
    have gh55 := (gf33 149 (by omega)).trans gh28
    have gh56 := (gf36 149 (by omega)).trans gh55
    have b5 := gh56
    have hfr : ∀ i, i ≠ 132 ∧ (i < 139 ∨ 143 ≤ i) ∧ i ≠ 149 → gw34 i = w i := fun i hi => (gf36 i (by omega)).trans ((gf33 i (by omega)).trans ((gf29 i (by omega)).trans ((gf21 i (by omega)).trans ((gf14 i (by omega)).trans ((gf8 i (by omega)).trans (gf3 i (by omega)))))))
    refine G.aload_n 0 rfl rfl dX8_added_78 ?_
    refine G.get 132 (by omega) gh35 rfl twX8 7 (by decide) tb_611 rfl rfl dX8_added_79 ?_
    refine G.iconst (v := nI 1) dX8_added_82 (by decide +kernel) ?_
    refine G.isub dX8_added_83 ?_
    refine G.topi (nI O.length) (pk_sub (by omega)) ?_
    refine G.iret rfl rfl rfl dX8_added_84 ?_
    have c9 : O.length < 12 := by omega
    have zl : (O ++ [o]).length = O.length + 1 := by simp
    refine hret _ _ ⟨by rw [addR, if_pos c9], fun Td' h1 h2 => ?_, fun i hi => hfr i (by omega)⟩
    rw [addO, if_pos c9, addB, if_pos c9, addD, if_pos c9]
    refine ⟨io, op, ot, ok, nw, fa, by rw [zl]; exact hx, cA.keep (fun i q1 q2 => hfr i (by omega)), cT.keep (hfr _ (by omega)), ⟨_, _, _, _, b1, b2, b3, b4, fun i hi => ?_⟩, (cR.less (m := 0) (by omega)).keep (fun i q1 q2 => hfr i (by omega)), ⟨_, Te, Ye, Ve, b5, (hfr _ (by omega)).trans s2, (hfr _ (by omega)).trans s3, (hfr _ (by omega)).trans s4, fun i hi => ?_⟩, fun q => by cases q⟩
    · rw [zl] at hi
      by_cases q : i = O.length
      · subst q
        rw [getD_snoc, upd_s, upd_s, upd_s, upd_s]; exact ho
      · rw [getD_app (by omega), upd_n q, upd_n q, upd_n q, upd_n q]; exact p5 i (by omega)
    · rw [zl] at hi
      by_cases q : i = O.length
      · subst q
        rw [h2 c9, upd_s]
        exact ⟨rfl, Nat.zero_le _, fun j hj => (by simp at hj)⟩
      · rw [upd_n q, h1 i (by omega)]; exact s5 i (by omega)
  · skip
    refine G.bipush (v := -2) dX8_added_9 (by decide +kernel) ?_
    refine G.iret rfl rfl rfl dX8_added_11 ?_
    refine hret _ _ ⟨by rw [addR, if_neg (by omega)], fun Td' h1 h2 => ?_, fun _ _ => rfl⟩
    rw [addO, if_neg (by omega), addB, if_neg (by omega), addD, if_neg (by omega)]
    exact ⟨io, op, ot, ok, nw, fa, c0, cA, cT, cO, cR, cTd.less (Nat.le_refl _) h1, cf⟩
theorem c_X8_read (hM : isM t ad w A I O Td jd J fc df) (cw : okS A O fc) (hd : O.length < 12 → Td O.length = []) (hN : 153 ≤ N) (s : Int32) :
    K l t yX8_read cX8_read 2 (some .int) (rD 1) N ad w [.ref (ad 132), .int s]
      (fun res w' => res = some (.int (if wi s (nI 0) (nI 2) = true then addR O else -1)) ∧ isM t ad w' A I (if wi s (nI 0) (nI 2) = true then addO O (0, 0, 0, cl s, 0) else O) Td (if wi s (nI 0) (nI 2) = true then addB O jd else jd) J fc (if wi s (nI 0) (nI 2) = true then addD O df else df) ∧ ∀ i, i < 132 ∨ 153 ≤ i → w' i = w i) := by
  have zM := hM
  obtain ⟨io, op, ot, ok, nw, fa, c0, cA, cT, cO, cR, cTd, cf⟩ := hM
  have zA := cw.1
  have z12 := cw.2.1
  have z9k := cw.2.2.1
  refine K.of (own := RX8) (lv := [(0, .ref (ad 132)), (1, .int s)]) (by decide +kernel) rfl (Nat.le_of_ble_eq_true rfl) rfl (fun P post hret => ?_)
  have bad : wi s (nI 0) (nI 2) = false → G l t (rD 1) P cX8_read 2 RX8 (some .int) post 0 0 N ad 0 0 20 [(0, .ref (ad 132)), (1, .int s)] [] w := by
    intro zb
    rw [zb] at hret
    refine G.iconst (v := -1) dX8_read_20 (by decide +kernel) ?_
    refine G.iret rfl rfl rfl dX8_read_21 ?_
    exact hret _ _ ⟨rfl, by simpa using zM, fun _ _ => rfl⟩
  refine G.iload_n 1 rfl rfl dX8_read_0 ?_
  refine G.iconst (v := nI 0) dX8_read_1 (by decide +kernel) ?_
  refine G.iconst (v := nI 2) dX8_read_2 (by decide +kernel) ?_
  refine G.callS (n := 3) (c_X8_isIn s (nI 0) (nI 2)) rfl tb_699 tb_700 tb_42 tb_701 (by decide +kernel) rfl ⟨(Nat.le_of_ble_eq_true rfl), (Nat.le_of_ble_eq_true rfl)⟩ ⟨rfl, rfl⟩ (Nat.le_of_ble_eq_true rfl) ⟨Nat.zero_le _, Nat.zero_le _⟩ dX8_read_3 (fun gr2 gw1 hp => ?_)
  obtain ⟨rfl, rfl⟩ := hp
  cases z1 : wi s (nI 0) (nI 2)
  · skip
    refine G.nif_eq 20 dX8_read_6 rfl (by decide) (fun _ => ?_) (fun zz => absurd zz (by decide))
    exact bad (by rw [z1])
  · skip
    have zok : wi s (nI 0) (nI 2) = true := by rw [z1]
    rw [zok] at hret
    obtain ⟨sn, sn1, rfl⟩ := wi_so (m := 2) (by omega) z1
    rw [cl_n (show sn < 2 ^ 31 by omega)] at hret
    refine G.nif_eq 20 dX8_read_6 rfl (by decide) (fun zz => absurd zz (by decide)) (fun _ => ?_)
    refine G.aload_n 0 rfl rfl dX8_read_9 ?_
    refine G.iconst (v := nI 0) dX8_read_10 (by decide +kernel) ?_
    refine G.iload_n 1 rfl rfl dX8_read_11 ?_
    refine G.iconst (v := nI 0) dX8_read_12 (by decide +kernel) ?_
    refine G.iconst (v := nI 0) dX8_read_13 (by decide +kernel) ?_
    refine G.callV (n := 4) 132 (c_X8_added zM cw hN (o := (0, 0, 0, sn, 0)) ⟨rfl, (fun _ => rfl), (fun h => (by simp at h)), (fun h _ => (by simp at h)), (fun h => (by simp at h)), (fun h => (by simp at h)), (fun h => (by simp at h)), fun h => (by simp at h)⟩) rfl (by omega) c0 rfl tb_720 tb_722 tb_14 tb_42 tb_723 (by decide +kernel) rfl ⟨(Nat.le_of_ble_eq_true rfl), (Nat.le_of_ble_eq_true rfl)⟩ ⟨rfl, rfl⟩ (Nat.le_of_ble_eq_true rfl) ⟨Nat.zero_le _, Nat.zero_le _⟩ dX8_read_14 (fun gr3 zw hp => ?_)
    obtain ⟨rfl, hM2, hf⟩ := hp
    refine G.goto 21 dX8_read_17 rfl ?_
    refine G.iret rfl rfl rfl dX8_read_21 ?_
    exact hret _ _ ⟨rfl, hM2 Td (fun _ _ => rfl) hd, hf⟩
theorem c_X8_each (hM : isM t ad w A I O Td jd J fc df) (cw : okS A O fc) (hd : O.length < 12 → Td O.length = []) (hN : 153 ≤ N) (wh p f c : Int32) :
    K l t yX8_each cX8_each 5 (some .int) (rD 2) N ad w [.ref (ad 132), .int wh, .int p, .int f, .int c]
      (fun res w' => res = some (.int (if (wi wh (nI 0) (nI 2) && ((ix O.length p).isSome && wi f (nI 0) (nI 6))) = true then addR O else -1)) ∧ isM t ad w' A I (if (wi wh (nI 0) (nI 2) && ((ix O.length p).isSome && wi f (nI 0) (nI 6))) = true then addO O (1 + cl wh, cl p, cl p, cl f, c) else O) Td (if (wi wh (nI 0) (nI 2) && ((ix O.length p).isSome && wi f (nI 0) (nI 6))) = true then addB O jd else jd) J fc (if (wi wh (nI 0) (nI 2) && ((ix O.length p).isSome && wi f (nI 0) (nI 6))) = true then addD O df else df) ∧ ∀ i, i < 132 ∨ 153 ≤ i → w' i = w i) := by
  have zM := hM
  obtain ⟨io, op, ot, ok, nw, fa, c0, cA, cT, cO, cR, cTd, cf⟩ := hM
  have zA := cw.1
  have z12 := cw.2.1
  have z9k := cw.2.2.1
  refine K.of (own := RX8) (lv := [(0, .ref (ad 132)), (1, .int wh), (2, .int p), (3, .int f), (4, .int c)]) (by decide +kernel) rfl (Nat.le_of_ble_eq_true rfl) rfl (fun P post hret => ?_)
  have bad : (wi wh (nI 0) (nI 2) && ((ix O.length p).isSome && wi f (nI 0) (nI 6))) = false → G l t (rD 2) P cX8_each 5 RX8 (some .int) post 0 0 N ad 0 0 41 [(0, .ref (ad 132)), (1, .int wh), (2, .int p), (3, .int f), (4, .int c)] [] w := by
    intro zb
    rw [zb] at hret
    refine G.iconst (v := -1) dX8_each_41 (by decide +kernel) ?_
    refine G.iret rfl rfl rfl dX8_each_42 ?_
    exact hret _ _ ⟨rfl, by simpa using zM, fun _ _ => rfl⟩
  refine G.iload_n 1 rfl rfl dX8_each_0 ?_
  refine G.iconst (v := nI 0) dX8_each_1 (by decide +kernel) ?_
  refine G.iconst (v := nI 2) dX8_each_2 (by decide +kernel) ?_
  refine G.callS (n := 3) (c_X8_isIn wh (nI 0) (nI 2)) rfl tb_699 tb_700 tb_42 tb_701 (by decide +kernel) rfl ⟨(Nat.le_of_ble_eq_true rfl), (Nat.le_of_ble_eq_true rfl)⟩ ⟨rfl, rfl⟩ (Nat.le_of_ble_eq_true rfl) ⟨Nat.zero_le _, Nat.zero_le _⟩ dX8_each_3 (fun gr2 gw1 hp => ?_)
  obtain ⟨rfl, rfl⟩ := hp
  cases z1 : wi wh (nI 0) (nI 2)
  · skip
    refine G.nif_eq 41 dX8_each_6 rfl (by decide) (fun _ => ?_) (fun zz => absurd zz (by decide))
    exact bad (by rw [z1]; rfl)
  · skip
    refine G.nif_eq 41 dX8_each_6 rfl (by decide) (fun zz => absurd zz (by decide)) (fun _ => ?_)
    refine G.aload_n 0 rfl rfl dX8_each_9 ?_
    refine G.iload_n 2 rfl rfl dX8_each_10 ?_
    refine G.callV (n := 1) 132 (c_X8_isOperator c0 (by omega) (by omega) p) rfl (by omega) c0 rfl tb_728 tb_730 tb_15 tb_42 tb_731 (by decide +kernel) rfl ⟨(Nat.le_of_ble_eq_true rfl), (Nat.le_of_ble_eq_true rfl)⟩ ⟨rfl, rfl⟩ (Nat.le_of_ble_eq_true rfl) ⟨Nat.zero_le _, Nat.zero_le _⟩ dX8_each_11 (fun gr4 gw3 hp => ?_)
    obtain ⟨rfl, rfl⟩ := hp
    cases z2 : (ix O.length p).isSome
    · skip
      refine G.nif_eq 41 dX8_each_14 rfl (by decide) (fun _ => ?_) (fun zz => absurd zz (by decide))
      exact bad (by rw [z1, z2]; rfl)
    · skip
      refine G.nif_eq 41 dX8_each_14 rfl (by decide) (fun zz => absurd zz (by decide)) (fun _ => ?_)
      refine G.iload_n 3 rfl rfl dX8_each_17 ?_
      refine G.iconst (v := nI 0) dX8_each_18 (by decide +kernel) ?_
      refine G.bipush (v := nI 6) dX8_each_19 (by decide +kernel) ?_
      refine G.callS (n := 3) (c_X8_isIn f (nI 0) (nI 6)) rfl tb_699 tb_700 tb_42 tb_701 (by decide +kernel) rfl ⟨(Nat.le_of_ble_eq_true rfl), (Nat.le_of_ble_eq_true rfl)⟩ ⟨rfl, rfl⟩ (Nat.le_of_ble_eq_true rfl) ⟨Nat.zero_le _, Nat.zero_le _⟩ dX8_each_21 (fun gr6 gw5 hp => ?_)
      obtain ⟨rfl, rfl⟩ := hp
      cases z3 : wi f (nI 0) (nI 6)
      · skip
        refine G.nif_eq 41 dX8_each_24 rfl (by decide) (fun _ => ?_) (fun zz => absurd zz (by decide))
        exact bad (by rw [z1, z2, z3]; rfl)
      · skip
        have zok : (wi wh (nI 0) (nI 2) && ((ix O.length p).isSome && wi f (nI 0) (nI 6))) = true := by rw [z1, z2, z3]; rfl
        rw [zok] at hret
        obtain ⟨wn, wn1, rfl⟩ := wi_so (m := 2) (by omega) z1
        obtain ⟨pn, pn1, pn2, rfl⟩ : ∃ j, j < O.length ∧ j < 2 ^ 31 ∧ p = nI j := by
          cases zz : ix O.length p with
          | none => rw [zz] at z2; cases z2
          | some j => exact ⟨j, ix_some zz⟩
        obtain ⟨fn, fn1, rfl⟩ := wi_so (m := 6) (by omega) z3
        rw [cl_n (show wn < 2 ^ 31 by omega), cl_n (show pn < 2 ^ 31 by omega), cl_n (show fn < 2 ^ 31 by omega)] at hret
        refine G.nif_eq 41 dX8_each_24 rfl (by decide) (fun zz => absurd zz (by decide)) (fun _ => ?_)
        refine G.aload_n 0 rfl rfl dX8_each_27 ?_
        refine G.iconst (v := nI 1) dX8_each_28 (by decide +kernel) ?_
        refine G.iload_n 1 rfl rfl dX8_each_29 ?_
        refine G.iadd dX8_each_30 ?_
        refine G.topi (nI (1 + wn)) (nI_add 1 wn) ?_
        refine G.iload_n 2 rfl rfl dX8_each_31 ?_
        refine G.iload_n 3 rfl rfl dX8_each_32 ?_
        refine G.iload 4 rfl dX8_each_33 ?_
        refine G.callV (n := 4) 132 (c_X8_added zM cw hN (o := (1 + wn, pn, pn, fn, c)) ⟨rfl, fun h => (by have h2 : 1 + wn = 0 := h; omega), (fun _ => rfl), fun _ _ => ⟨rfl, rfl⟩, fun h => (by have h2 : 1 + wn = 4 := h; omega), fun h => (by have h2 : 1 + wn = 5 ∨ 1 + wn = 6 := h; omega), fun h => (by have h2 : 4 ≤ 1 + wn := h; omega), fun _ _ _ => rfl⟩) rfl (by omega) c0 rfl tb_720 tb_722 tb_14 tb_42 tb_723 (by decide +kernel) rfl ⟨(Nat.le_of_ble_eq_true rfl), (Nat.le_of_ble_eq_true rfl)⟩ ⟨rfl, rfl⟩ (Nat.le_of_ble_eq_true rfl) ⟨Nat.zero_le _, Nat.zero_le _⟩ dX8_each_35 (fun gr7 zw hp => ?_)
        obtain ⟨rfl, hM2, hf⟩ := hp
        refine G.goto 42 dX8_each_38 rfl ?_
        refine G.iret rfl rfl rfl dX8_each_42 ?_
        exact hret _ _ ⟨rfl, hM2 Td (fun _ _ => rfl) hd, hf⟩
theorem c_X8_spans (hM : isM t ad w A I O Td jd J fc df) (cw : okS A O fc) (hd : O.length < 12 → Td O.length = []) (hN : 153 ≤ N) (p sz how : Int32) :
    K l t yX8_spans cX8_spans 4 (some .int) (rD 2) N ad w [.ref (ad 132), .int p, .int sz, .int how]
      (fun res w' => res = some (.int (if ((ix O.length p).isSome && (wi sz (nI 1) (nI 1000) && wi how (nI 0) (nI 4))) = true then addR O else -1)) ∧ isM t ad w' A I (if ((ix O.length p).isSome && (wi sz (nI 1) (nI 1000) && wi how (nI 0) (nI 4))) = true then addO O (4, cl p, cl p, cl sz, how) else O) Td (if ((ix O.length p).isSome && (wi sz (nI 1) (nI 1000) && wi how (nI 0) (nI 4))) = true then addB O jd else jd) J fc (if ((ix O.length p).isSome && (wi sz (nI 1) (nI 1000) && wi how (nI 0) (nI 4))) = true then addD O df else df) ∧ ∀ i, i < 132 ∨ 153 ≤ i → w' i = w i) := by
  have zM := hM
  obtain ⟨io, op, ot, ok, nw, fa, c0, cA, cT, cO, cR, cTd, cf⟩ := hM
  have zA := cw.1
  have z12 := cw.2.1
  have z9k := cw.2.2.1
  refine K.of (own := RX8) (lv := [(0, .ref (ad 132)), (1, .int p), (2, .int sz), (3, .int how)]) (by decide +kernel) rfl (Nat.le_of_ble_eq_true rfl) rfl (fun P post hret => ?_)
  have bad : ((ix O.length p).isSome && (wi sz (nI 1) (nI 1000) && wi how (nI 0) (nI 4))) = false → G l t (rD 2) P cX8_spans 4 RX8 (some .int) post 0 0 N ad 0 0 39 [(0, .ref (ad 132)), (1, .int p), (2, .int sz), (3, .int how)] [] w := by
    intro zb
    rw [zb] at hret
    refine G.iconst (v := -1) dX8_spans_39 (by decide +kernel) ?_
    refine G.iret rfl rfl rfl dX8_spans_40 ?_
    exact hret _ _ ⟨rfl, by simpa using zM, fun _ _ => rfl⟩
  refine G.aload_n 0 rfl rfl dX8_spans_0 ?_
  refine G.iload_n 1 rfl rfl dX8_spans_1 ?_
  refine G.callV (n := 1) 132 (c_X8_isOperator c0 (by omega) (by omega) p) rfl (by omega) c0 rfl tb_728 tb_730 tb_15 tb_42 tb_731 (by decide +kernel) rfl ⟨(Nat.le_of_ble_eq_true rfl), (Nat.le_of_ble_eq_true rfl)⟩ ⟨rfl, rfl⟩ (Nat.le_of_ble_eq_true rfl) ⟨Nat.zero_le _, Nat.zero_le _⟩ dX8_spans_2 (fun gr2 gw1 hp => ?_)
  obtain ⟨rfl, rfl⟩ := hp
  cases z1 : (ix O.length p).isSome
  · skip
    refine G.nif_eq 39 dX8_spans_5 rfl (by decide) (fun _ => ?_) (fun zz => absurd zz (by decide))
    exact bad (by rw [z1]; rfl)
  · skip
    refine G.nif_eq 39 dX8_spans_5 rfl (by decide) (fun zz => absurd zz (by decide)) (fun _ => ?_)
    refine G.iload_n 2 rfl rfl dX8_spans_8 ?_
    refine G.iconst (v := nI 1) dX8_spans_9 (by decide +kernel) ?_
    refine G.sipush (v := nI 1000) dX8_spans_10 (by decide +kernel) ?_
    refine G.callS (n := 3) (c_X8_isIn sz (nI 1) (nI 1000)) rfl tb_699 tb_700 tb_42 tb_701 (by decide +kernel) rfl ⟨(Nat.le_of_ble_eq_true rfl), (Nat.le_of_ble_eq_true rfl)⟩ ⟨rfl, rfl⟩ (Nat.le_of_ble_eq_true rfl) ⟨Nat.zero_le _, Nat.zero_le _⟩ dX8_spans_13 (fun gr4 gw3 hp => ?_)
    obtain ⟨rfl, rfl⟩ := hp
    cases z2 : wi sz (nI 1) (nI 1000)
    · skip
      refine G.nif_eq 39 dX8_spans_16 rfl (by decide) (fun _ => ?_) (fun zz => absurd zz (by decide))
      exact bad (by rw [z1, z2]; rfl)
    · skip
      refine G.nif_eq 39 dX8_spans_16 rfl (by decide) (fun zz => absurd zz (by decide)) (fun _ => ?_)
      refine G.iload_n 3 rfl rfl dX8_spans_19 ?_
      refine G.iconst (v := nI 0) dX8_spans_20 (by decide +kernel) ?_
      refine G.iconst (v := nI 4) dX8_spans_21 (by decide +kernel) ?_
      refine G.callS (n := 3) (c_X8_isIn how (nI 0) (nI 4)) rfl tb_699 tb_700 tb_42 tb_701 (by decide +kernel) rfl ⟨(Nat.le_of_ble_eq_true rfl), (Nat.le_of_ble_eq_true rfl)⟩ ⟨rfl, rfl⟩ (Nat.le_of_ble_eq_true rfl) ⟨Nat.zero_le _, Nat.zero_le _⟩ dX8_spans_22 (fun gr6 gw5 hp => ?_)
      obtain ⟨rfl, rfl⟩ := hp
      cases z3 : wi how (nI 0) (nI 4)
      · skip
        refine G.nif_eq 39 dX8_spans_25 rfl (by decide) (fun _ => ?_) (fun zz => absurd zz (by decide))
        exact bad (by rw [z1, z2, z3]; rfl)
      · skip
        have zok : ((ix O.length p).isSome && (wi sz (nI 1) (nI 1000) && wi how (nI 0) (nI 4))) = true := by rw [z1, z2, z3]; rfl
        rw [zok] at hret
        obtain ⟨pn, pn1, pn2, rfl⟩ : ∃ j, j < O.length ∧ j < 2 ^ 31 ∧ p = nI j := by
          cases zz : ix O.length p with
          | none => rw [zz] at z1; cases z1
          | some j => exact ⟨j, ix_some zz⟩
        obtain ⟨sn, sn0, sn1, rfl⟩ : ∃ j, 1 ≤ j ∧ j ≤ 1000 ∧ sz = nI j := by
          have z9 : wi sz (nI 0) (nI 1000) = true := by
            simp only [wi, Bool.and_eq_true, decide_eq_true_eq] at z2 ⊢
            exact ⟨Int32.le_trans (by decide +kernel) z2.1, z2.2⟩
          obtain ⟨j, ja, rfl⟩ := wi_so (m := 1000) (by omega) z9
          refine ⟨j, ?_, ja, rfl⟩
          simp only [wi, Bool.and_eq_true, decide_eq_true_eq] at z2
          have := z2.1
          rw [nI_leI (by omega) (by omega)] at this
          exact this
        rw [cl_n (show pn < 2 ^ 31 by omega), cl_n (show sn < 2 ^ 31 by omega)] at hret
        refine G.nif_eq 39 dX8_spans_25 rfl (by decide) (fun zz => absurd zz (by decide)) (fun _ => ?_)
        refine G.aload_n 0 rfl rfl dX8_spans_28 ?_
        refine G.iconst (v := nI 4) dX8_spans_29 (by decide +kernel) ?_
        refine G.iload_n 1 rfl rfl dX8_spans_30 ?_
        refine G.iload_n 3 rfl rfl dX8_spans_31 ?_
        refine G.iload_n 2 rfl rfl dX8_spans_32 ?_
        refine G.callV (n := 4) 132 (c_X8_added zM cw hN (o := (4, pn, pn, sn, how)) ⟨rfl, (fun h => (by simp at h)), (fun _ => rfl), (fun _ h => (by simp at h)), (fun _ => rfl), (fun h => (by simp at h)), (fun _ => rfl), fun _ _ _ => rfl⟩) rfl (by omega) c0 rfl tb_720 tb_722 tb_14 tb_42 tb_723 (by decide +kernel) rfl ⟨(Nat.le_of_ble_eq_true rfl), (Nat.le_of_ble_eq_true rfl)⟩ ⟨rfl, rfl⟩ (Nat.le_of_ble_eq_true rfl) ⟨Nat.zero_le _, Nat.zero_le _⟩ dX8_spans_33 (fun gr7 zw hp => ?_)
        obtain ⟨rfl, hM2, hf⟩ := hp
        refine G.goto 40 dX8_spans_36 rfl ?_
        refine G.iret rfl rfl rfl dX8_spans_40 ?_
        exact hret _ _ ⟨rfl, hM2 Td (fun _ _ => rfl) hd, hf⟩
theorem c_X8_join (hM : isM t ad w A I O Td jd J fc df) (cw : okS A O fc) (hd : O.length < 12 → Td O.length = []) (hN : 153 ≤ N) (p q W : Int32) :
    K l t yX8_join cX8_join 4 (some .int) (rD 2) N ad w [.ref (ad 132), .int p, .int q, .int W]
      (fun res w' => res = some (.int (if ((ix O.length p).isSome && ((ix O.length q).isSome && wi W (nI 0) (nI 1000))) = true then addR O else -1)) ∧ isM t ad w' A I (if ((ix O.length p).isSome && ((ix O.length q).isSome && wi W (nI 0) (nI 1000))) = true then addO O (5, cl p, cl q, cl W, 0) else O) Td (if ((ix O.length p).isSome && ((ix O.length q).isSome && wi W (nI 0) (nI 1000))) = true then addB O jd else jd) J fc (if ((ix O.length p).isSome && ((ix O.length q).isSome && wi W (nI 0) (nI 1000))) = true then addD O df else df) ∧ ∀ i, i < 132 ∨ 153 ≤ i → w' i = w i) := by
  have zM := hM
  obtain ⟨io, op, ot, ok, nw, fa, c0, cA, cT, cO, cR, cTd, cf⟩ := hM
  have zA := cw.1
  have z12 := cw.2.1
  have z9k := cw.2.2.1
  refine K.of (own := RX8) (lv := [(0, .ref (ad 132)), (1, .int p), (2, .int q), (3, .int W)]) (by decide +kernel) rfl (Nat.le_of_ble_eq_true rfl) rfl (fun P post hret => ?_)
  have bad : ((ix O.length p).isSome && ((ix O.length q).isSome && wi W (nI 0) (nI 1000))) = false → G l t (rD 2) P cX8_join 4 RX8 (some .int) post 0 0 N ad 0 0 38 [(0, .ref (ad 132)), (1, .int p), (2, .int q), (3, .int W)] [] w := by
    intro zb
    rw [zb] at hret
    refine G.iconst (v := -1) dX8_join_38 (by decide +kernel) ?_
    refine G.iret rfl rfl rfl dX8_join_39 ?_
    exact hret _ _ ⟨rfl, by simpa using zM, fun _ _ => rfl⟩
  refine G.aload_n 0 rfl rfl dX8_join_0 ?_
  refine G.iload_n 1 rfl rfl dX8_join_1 ?_
  refine G.callV (n := 1) 132 (c_X8_isOperator c0 (by omega) (by omega) p) rfl (by omega) c0 rfl tb_728 tb_730 tb_15 tb_42 tb_731 (by decide +kernel) rfl ⟨(Nat.le_of_ble_eq_true rfl), (Nat.le_of_ble_eq_true rfl)⟩ ⟨rfl, rfl⟩ (Nat.le_of_ble_eq_true rfl) ⟨Nat.zero_le _, Nat.zero_le _⟩ dX8_join_2 (fun gr2 gw1 hp => ?_)
  obtain ⟨rfl, rfl⟩ := hp
  cases z1 : (ix O.length p).isSome
  · skip
    refine G.nif_eq 38 dX8_join_5 rfl (by decide) (fun _ => ?_) (fun zz => absurd zz (by decide))
    exact bad (by rw [z1]; rfl)
  · skip
    refine G.nif_eq 38 dX8_join_5 rfl (by decide) (fun zz => absurd zz (by decide)) (fun _ => ?_)
    refine G.aload_n 0 rfl rfl dX8_join_8 ?_
    refine G.iload_n 2 rfl rfl dX8_join_9 ?_
    refine G.callV (n := 1) 132 (c_X8_isOperator c0 (by omega) (by omega) q) rfl (by omega) c0 rfl tb_728 tb_730 tb_15 tb_42 tb_731 (by decide +kernel) rfl ⟨(Nat.le_of_ble_eq_true rfl), (Nat.le_of_ble_eq_true rfl)⟩ ⟨rfl, rfl⟩ (Nat.le_of_ble_eq_true rfl) ⟨Nat.zero_le _, Nat.zero_le _⟩ dX8_join_10 (fun gr4 gw3 hp => ?_)
    obtain ⟨rfl, rfl⟩ := hp
    cases z2 : (ix O.length q).isSome
    · skip
      refine G.nif_eq 38 dX8_join_13 rfl (by decide) (fun _ => ?_) (fun zz => absurd zz (by decide))
      exact bad (by rw [z1, z2]; rfl)
    · skip
      refine G.nif_eq 38 dX8_join_13 rfl (by decide) (fun zz => absurd zz (by decide)) (fun _ => ?_)
      refine G.iload_n 3 rfl rfl dX8_join_16 ?_
      refine G.iconst (v := nI 0) dX8_join_17 (by decide +kernel) ?_
      refine G.sipush (v := nI 1000) dX8_join_18 (by decide +kernel) ?_
      refine G.callS (n := 3) (c_X8_isIn W (nI 0) (nI 1000)) rfl tb_699 tb_700 tb_42 tb_701 (by decide +kernel) rfl ⟨(Nat.le_of_ble_eq_true rfl), (Nat.le_of_ble_eq_true rfl)⟩ ⟨rfl, rfl⟩ (Nat.le_of_ble_eq_true rfl) ⟨Nat.zero_le _, Nat.zero_le _⟩ dX8_join_21 (fun gr6 gw5 hp => ?_)
      obtain ⟨rfl, rfl⟩ := hp
      cases z3 : wi W (nI 0) (nI 1000)
      · skip
        refine G.nif_eq 38 dX8_join_24 rfl (by decide) (fun _ => ?_) (fun zz => absurd zz (by decide))
        exact bad (by rw [z1, z2, z3]; rfl)
      · skip
        have zok : ((ix O.length p).isSome && ((ix O.length q).isSome && wi W (nI 0) (nI 1000))) = true := by rw [z1, z2, z3]; rfl
        rw [zok] at hret
        obtain ⟨pn, pn1, pn2, rfl⟩ : ∃ j, j < O.length ∧ j < 2 ^ 31 ∧ p = nI j := by
          cases zz : ix O.length p with
          | none => rw [zz] at z1; cases z1
          | some j => exact ⟨j, ix_some zz⟩
        obtain ⟨qn, qn1, qn2, rfl⟩ : ∃ j, j < O.length ∧ j < 2 ^ 31 ∧ q = nI j := by
          cases zz : ix O.length q with
          | none => rw [zz] at z2; cases z2
          | some j => exact ⟨j, ix_some zz⟩
        obtain ⟨wn, wn1, rfl⟩ := wi_so (m := 1000) (by omega) z3
        rw [cl_n (show pn < 2 ^ 31 by omega), cl_n (show qn < 2 ^ 31 by omega), cl_n (show wn < 2 ^ 31 by omega)] at hret
        refine G.nif_eq 38 dX8_join_24 rfl (by decide) (fun zz => absurd zz (by decide)) (fun _ => ?_)
        refine G.aload_n 0 rfl rfl dX8_join_27 ?_
        refine G.iconst (v := nI 5) dX8_join_28 (by decide +kernel) ?_
        refine G.iload_n 1 rfl rfl dX8_join_29 ?_
        refine G.iload_n 2 rfl rfl dX8_join_30 ?_
        refine G.iload_n 3 rfl rfl dX8_join_31 ?_
        refine G.callV (n := 4) 132 (c_X8_added zM cw hN (o := (5, pn, qn, wn, 0)) ⟨rfl, (fun h => (by simp at h)), (fun _ => rfl), (fun _ h => (by simp at h)), (fun h => (by simp at h)), (fun _ => rfl), (fun _ => rfl), fun _ h => absurd rfl h⟩) rfl (by omega) c0 rfl tb_720 tb_722 tb_14 tb_42 tb_723 (by decide +kernel) rfl ⟨(Nat.le_of_ble_eq_true rfl), (Nat.le_of_ble_eq_true rfl)⟩ ⟨rfl, rfl⟩ (Nat.le_of_ble_eq_true rfl) ⟨Nat.zero_le _, Nat.zero_le _⟩ dX8_join_32 (fun gr7 zw hp => ?_)
        obtain ⟨rfl, hM2, hf⟩ := hp
        refine G.goto 39 dX8_join_35 rfl ?_
        refine G.iret rfl rfl rfl dX8_join_39 ?_
        exact hret _ _ ⟨rfl, hM2 Td (fun _ _ => rfl) hd, hf⟩
theorem c_X8_meet (hM : isM t ad w A I O Td jd J fc df) (cw : okS A O fc) (hd : O.length < 12 → Td O.length = []) (hN : 153 ≤ N) (p q : Int32) :
    K l t yX8_meet cX8_meet 3 (some .int) (rD 2) N ad w [.ref (ad 132), .int p, .int q]
      (fun res w' => res = some (.int (if ((ix O.length p).isSome && (ix O.length q).isSome) = true then addR O else -1)) ∧ isM t ad w' A I (if ((ix O.length p).isSome && (ix O.length q).isSome) = true then addO O (6, cl p, cl q, 0, 0) else O) Td (if ((ix O.length p).isSome && (ix O.length q).isSome) = true then addB O jd else jd) J fc (if ((ix O.length p).isSome && (ix O.length q).isSome) = true then addD O df else df) ∧ ∀ i, i < 132 ∨ 153 ≤ i → w' i = w i) := by
  have zM := hM
  obtain ⟨io, op, ot, ok, nw, fa, c0, cA, cT, cO, cR, cTd, cf⟩ := hM
  have zA := cw.1
  have z12 := cw.2.1
  have z9k := cw.2.2.1
  refine K.of (own := RX8) (lv := [(0, .ref (ad 132)), (1, .int p), (2, .int q)]) (by decide +kernel) rfl (Nat.le_of_ble_eq_true rfl) rfl (fun P post hret => ?_)
  have bad : ((ix O.length p).isSome && (ix O.length q).isSome) = false → G l t (rD 2) P cX8_meet 3 RX8 (some .int) post 0 0 N ad 0 0 28 [(0, .ref (ad 132)), (1, .int p), (2, .int q)] [] w := by
    intro zb
    rw [zb] at hret
    refine G.iconst (v := -1) dX8_meet_28 (by decide +kernel) ?_
    refine G.iret rfl rfl rfl dX8_meet_29 ?_
    exact hret _ _ ⟨rfl, by simpa using zM, fun _ _ => rfl⟩
  refine G.aload_n 0 rfl rfl dX8_meet_0 ?_
  refine G.iload_n 1 rfl rfl dX8_meet_1 ?_
  refine G.callV (n := 1) 132 (c_X8_isOperator c0 (by omega) (by omega) p) rfl (by omega) c0 rfl tb_728 tb_730 tb_15 tb_42 tb_731 (by decide +kernel) rfl ⟨(Nat.le_of_ble_eq_true rfl), (Nat.le_of_ble_eq_true rfl)⟩ ⟨rfl, rfl⟩ (Nat.le_of_ble_eq_true rfl) ⟨Nat.zero_le _, Nat.zero_le _⟩ dX8_meet_2 (fun gr2 gw1 hp => ?_)
  obtain ⟨rfl, rfl⟩ := hp
  cases z1 : (ix O.length p).isSome
  · skip
    refine G.nif_eq 28 dX8_meet_5 rfl (by decide) (fun _ => ?_) (fun zz => absurd zz (by decide))
    exact bad (by rw [z1]; rfl)
  · skip
    refine G.nif_eq 28 dX8_meet_5 rfl (by decide) (fun zz => absurd zz (by decide)) (fun _ => ?_)
    refine G.aload_n 0 rfl rfl dX8_meet_8 ?_
    refine G.iload_n 2 rfl rfl dX8_meet_9 ?_
    refine G.callV (n := 1) 132 (c_X8_isOperator c0 (by omega) (by omega) q) rfl (by omega) c0 rfl tb_728 tb_730 tb_15 tb_42 tb_731 (by decide +kernel) rfl ⟨(Nat.le_of_ble_eq_true rfl), (Nat.le_of_ble_eq_true rfl)⟩ ⟨rfl, rfl⟩ (Nat.le_of_ble_eq_true rfl) ⟨Nat.zero_le _, Nat.zero_le _⟩ dX8_meet_10 (fun gr4 gw3 hp => ?_)
    obtain ⟨rfl, rfl⟩ := hp
    cases z2 : (ix O.length q).isSome
    · skip
      refine G.nif_eq 28 dX8_meet_13 rfl (by decide) (fun _ => ?_) (fun zz => absurd zz (by decide))
      exact bad (by rw [z1, z2]; rfl)
    · skip
      have zok : ((ix O.length p).isSome && (ix O.length q).isSome) = true := by rw [z1, z2]; rfl
      rw [zok] at hret
      obtain ⟨pn, pn1, pn2, rfl⟩ : ∃ j, j < O.length ∧ j < 2 ^ 31 ∧ p = nI j := by
        cases zz : ix O.length p with
        | none => rw [zz] at z1; cases z1
        | some j => exact ⟨j, ix_some zz⟩
      obtain ⟨qn, qn1, qn2, rfl⟩ : ∃ j, j < O.length ∧ j < 2 ^ 31 ∧ q = nI j := by
        cases zz : ix O.length q with
        | none => rw [zz] at z2; cases z2
        | some j => exact ⟨j, ix_some zz⟩
      rw [cl_n (show pn < 2 ^ 31 by omega), cl_n (show qn < 2 ^ 31 by omega)] at hret
      refine G.nif_eq 28 dX8_meet_13 rfl (by decide) (fun zz => absurd zz (by decide)) (fun _ => ?_)
      refine G.aload_n 0 rfl rfl dX8_meet_16 ?_
      refine G.bipush (v := nI 6) dX8_meet_17 (by decide +kernel) ?_
      refine G.iload_n 1 rfl rfl dX8_meet_19 ?_
      refine G.iload_n 2 rfl rfl dX8_meet_20 ?_
      refine G.iconst (v := nI 0) dX8_meet_21 (by decide +kernel) ?_
      refine G.callV (n := 4) 132 (c_X8_added zM cw hN (o := (6, pn, qn, 0, 0)) ⟨rfl, (fun h => (by simp at h)), (fun _ => rfl), (fun _ h => (by simp at h)), (fun h => (by simp at h)), (fun _ => rfl), (fun _ => rfl), fun _ _ h => absurd rfl h⟩) rfl (by omega) c0 rfl tb_720 tb_722 tb_14 tb_42 tb_723 (by decide +kernel) rfl ⟨(Nat.le_of_ble_eq_true rfl), (Nat.le_of_ble_eq_true rfl)⟩ ⟨rfl, rfl⟩ (Nat.le_of_ble_eq_true rfl) ⟨Nat.zero_le _, Nat.zero_le _⟩ dX8_meet_22 (fun gr5 zw hp => ?_)
      obtain ⟨rfl, hM2, hf⟩ := hp
      refine G.goto 29 dX8_meet_25 rfl ?_
      refine G.iret rfl rfl rfl dX8_meet_29 ?_
      exact hret _ _ ⟨rfl, hM2 Td (fun _ _ => rfl) hd, hf⟩
theorem c_X8_falls (hM : isM t ad w A I O Td jd J fc df) (cw : okS A O fc) (hd : O.length < 12 → Td O.length = []) (hN : 153 ≤ N) (p W : Int32) :
    K l t yX8_falls cX8_falls 3 (some .int) (rD 2) N ad w [.ref (ad 132), .int p, .int W]
      (fun res w' => res = some (.int (if ((ix O.length p).isSome && wi W (nI 0) (nI 1000)) = true then addR O else -1)) ∧ isM t ad w' A I (if ((ix O.length p).isSome && wi W (nI 0) (nI 1000)) = true then addO O (7, cl p, cl p, cl W, 0) else O) Td (if ((ix O.length p).isSome && wi W (nI 0) (nI 1000)) = true then addB O jd else jd) J fc (if ((ix O.length p).isSome && wi W (nI 0) (nI 1000)) = true then addD O df else df) ∧ ∀ i, i < 132 ∨ 153 ≤ i → w' i = w i) := by
  have zM := hM
  obtain ⟨io, op, ot, ok, nw, fa, c0, cA, cT, cO, cR, cTd, cf⟩ := hM
  have zA := cw.1
  have z12 := cw.2.1
  have z9k := cw.2.2.1
  refine K.of (own := RX8) (lv := [(0, .ref (ad 132)), (1, .int p), (2, .int W)]) (by decide +kernel) rfl (Nat.le_of_ble_eq_true rfl) rfl (fun P post hret => ?_)
  have bad : ((ix O.length p).isSome && wi W (nI 0) (nI 1000)) = false → G l t (rD 2) P cX8_falls 3 RX8 (some .int) post 0 0 N ad 0 0 31 [(0, .ref (ad 132)), (1, .int p), (2, .int W)] [] w := by
    intro zb
    rw [zb] at hret
    refine G.iconst (v := -1) dX8_falls_31 (by decide +kernel) ?_
    refine G.iret rfl rfl rfl dX8_falls_32 ?_
    exact hret _ _ ⟨rfl, by simpa using zM, fun _ _ => rfl⟩
  refine G.aload_n 0 rfl rfl dX8_falls_0 ?_
  refine G.iload_n 1 rfl rfl dX8_falls_1 ?_
  refine G.callV (n := 1) 132 (c_X8_isOperator c0 (by omega) (by omega) p) rfl (by omega) c0 rfl tb_728 tb_730 tb_15 tb_42 tb_731 (by decide +kernel) rfl ⟨(Nat.le_of_ble_eq_true rfl), (Nat.le_of_ble_eq_true rfl)⟩ ⟨rfl, rfl⟩ (Nat.le_of_ble_eq_true rfl) ⟨Nat.zero_le _, Nat.zero_le _⟩ dX8_falls_2 (fun gr2 gw1 hp => ?_)
  obtain ⟨rfl, rfl⟩ := hp
  cases z1 : (ix O.length p).isSome
  · skip
    refine G.nif_eq 31 dX8_falls_5 rfl (by decide) (fun _ => ?_) (fun zz => absurd zz (by decide))
    exact bad (by rw [z1]; rfl)
  · skip
    refine G.nif_eq 31 dX8_falls_5 rfl (by decide) (fun zz => absurd zz (by decide)) (fun _ => ?_)
    refine G.iload_n 2 rfl rfl dX8_falls_8 ?_
    refine G.iconst (v := nI 0) dX8_falls_9 (by decide +kernel) ?_
    refine G.sipush (v := nI 1000) dX8_falls_10 (by decide +kernel) ?_
    refine G.callS (n := 3) (c_X8_isIn W (nI 0) (nI 1000)) rfl tb_699 tb_700 tb_42 tb_701 (by decide +kernel) rfl ⟨(Nat.le_of_ble_eq_true rfl), (Nat.le_of_ble_eq_true rfl)⟩ ⟨rfl, rfl⟩ (Nat.le_of_ble_eq_true rfl) ⟨Nat.zero_le _, Nat.zero_le _⟩ dX8_falls_13 (fun gr4 gw3 hp => ?_)
    obtain ⟨rfl, rfl⟩ := hp
    cases z2 : wi W (nI 0) (nI 1000)
    · skip
      refine G.nif_eq 31 dX8_falls_16 rfl (by decide) (fun _ => ?_) (fun zz => absurd zz (by decide))
      exact bad (by rw [z1, z2]; rfl)
    · skip
      have zok : ((ix O.length p).isSome && wi W (nI 0) (nI 1000)) = true := by rw [z1, z2]; rfl
      rw [zok] at hret
      obtain ⟨pn, pn1, pn2, rfl⟩ : ∃ j, j < O.length ∧ j < 2 ^ 31 ∧ p = nI j := by
        cases zz : ix O.length p with
        | none => rw [zz] at z1; cases z1
        | some j => exact ⟨j, ix_some zz⟩
      obtain ⟨wn, wn1, rfl⟩ := wi_so (m := 1000) (by omega) z2
      rw [cl_n (show pn < 2 ^ 31 by omega), cl_n (show wn < 2 ^ 31 by omega)] at hret
      refine G.nif_eq 31 dX8_falls_16 rfl (by decide) (fun zz => absurd zz (by decide)) (fun _ => ?_)
      refine G.aload_n 0 rfl rfl dX8_falls_19 ?_
      refine G.bipush (v := nI 7) dX8_falls_20 (by decide +kernel) ?_
      refine G.iload_n 1 rfl rfl dX8_falls_22 ?_
      refine G.iconst (v := nI 0) dX8_falls_23 (by decide +kernel) ?_
      refine G.iload_n 2 rfl rfl dX8_falls_24 ?_
      refine G.callV (n := 4) 132 (c_X8_added zM cw hN (o := (7, pn, pn, wn, 0)) ⟨rfl, (fun h => (by simp at h)), (fun _ => rfl), (fun _ h => (by simp at h)), (fun h => (by simp at h)), (fun h => (by simp at h)), (fun _ => rfl), fun _ _ _ => rfl⟩) rfl (by omega) c0 rfl tb_720 tb_722 tb_14 tb_42 tb_723 (by decide +kernel) rfl ⟨(Nat.le_of_ble_eq_true rfl), (Nat.le_of_ble_eq_true rfl)⟩ ⟨rfl, rfl⟩ (Nat.le_of_ble_eq_true rfl) ⟨Nat.zero_le _, Nat.zero_le _⟩ dX8_falls_25 (fun gr5 zw hp => ?_)
      obtain ⟨rfl, hM2, hf⟩ := hp
      refine G.goto 32 dX8_falls_28 rfl ?_
      refine G.iret rfl rfl rfl dX8_falls_32 ?_
      exact hret _ _ ⟨rfl, hM2 Td (fun _ _ => rfl) hd, hf⟩
theorem c_X8_first (hM : isM t ad w A I O Td jd J fc df) (cw : okS A O fc) (hd : O.length < 12 → Td O.length = []) (hN : 153 ≤ N) (p W : Int32) :
    K l t yX8_first cX8_first 3 (some .int) (rD 2) N ad w [.ref (ad 132), .int p, .int W]
      (fun res w' => res = some (.int (if ((ix O.length p).isSome && wi W (nI 0) (nI 200)) = true then addR O else -1)) ∧ isM t ad w' A I (if ((ix O.length p).isSome && wi W (nI 0) (nI 200)) = true then addO O (8, cl p, cl p, cl W, 0) else O) Td (if ((ix O.length p).isSome && wi W (nI 0) (nI 200)) = true then addB O jd else jd) J fc (if ((ix O.length p).isSome && wi W (nI 0) (nI 200)) = true then addD O df else df) ∧ ∀ i, i < 132 ∨ 153 ≤ i → w' i = w i) := by
  have zM := hM
  obtain ⟨io, op, ot, ok, nw, fa, c0, cA, cT, cO, cR, cTd, cf⟩ := hM
  have zA := cw.1
  have z12 := cw.2.1
  have z9k := cw.2.2.1
  refine K.of (own := RX8) (lv := [(0, .ref (ad 132)), (1, .int p), (2, .int W)]) (by decide +kernel) rfl (Nat.le_of_ble_eq_true rfl) rfl (fun P post hret => ?_)
  have bad : ((ix O.length p).isSome && wi W (nI 0) (nI 200)) = false → G l t (rD 2) P cX8_first 3 RX8 (some .int) post 0 0 N ad 0 0 31 [(0, .ref (ad 132)), (1, .int p), (2, .int W)] [] w := by
    intro zb
    rw [zb] at hret
    refine G.iconst (v := -1) dX8_first_31 (by decide +kernel) ?_
    refine G.iret rfl rfl rfl dX8_first_32 ?_
    exact hret _ _ ⟨rfl, by simpa using zM, fun _ _ => rfl⟩
  refine G.aload_n 0 rfl rfl dX8_first_0 ?_
  refine G.iload_n 1 rfl rfl dX8_first_1 ?_
  refine G.callV (n := 1) 132 (c_X8_isOperator c0 (by omega) (by omega) p) rfl (by omega) c0 rfl tb_728 tb_730 tb_15 tb_42 tb_731 (by decide +kernel) rfl ⟨(Nat.le_of_ble_eq_true rfl), (Nat.le_of_ble_eq_true rfl)⟩ ⟨rfl, rfl⟩ (Nat.le_of_ble_eq_true rfl) ⟨Nat.zero_le _, Nat.zero_le _⟩ dX8_first_2 (fun gr2 gw1 hp => ?_)
  obtain ⟨rfl, rfl⟩ := hp
  cases z1 : (ix O.length p).isSome
  · skip
    refine G.nif_eq 31 dX8_first_5 rfl (by decide) (fun _ => ?_) (fun zz => absurd zz (by decide))
    exact bad (by rw [z1]; rfl)
  · skip
    refine G.nif_eq 31 dX8_first_5 rfl (by decide) (fun zz => absurd zz (by decide)) (fun _ => ?_)
    refine G.iload_n 2 rfl rfl dX8_first_8 ?_
    refine G.iconst (v := nI 0) dX8_first_9 (by decide +kernel) ?_
    refine G.sipush (v := nI 200) dX8_first_10 (by decide +kernel) ?_
    refine G.callS (n := 3) (c_X8_isIn W (nI 0) (nI 200)) rfl tb_699 tb_700 tb_42 tb_701 (by decide +kernel) rfl ⟨(Nat.le_of_ble_eq_true rfl), (Nat.le_of_ble_eq_true rfl)⟩ ⟨rfl, rfl⟩ (Nat.le_of_ble_eq_true rfl) ⟨Nat.zero_le _, Nat.zero_le _⟩ dX8_first_13 (fun gr4 gw3 hp => ?_)
    obtain ⟨rfl, rfl⟩ := hp
    cases z2 : wi W (nI 0) (nI 200)
    · skip
      refine G.nif_eq 31 dX8_first_16 rfl (by decide) (fun _ => ?_) (fun zz => absurd zz (by decide))
      exact bad (by rw [z1, z2]; rfl)
    · skip
      have zok : ((ix O.length p).isSome && wi W (nI 0) (nI 200)) = true := by rw [z1, z2]; rfl
      rw [zok] at hret
      obtain ⟨pn, pn1, pn2, rfl⟩ : ∃ j, j < O.length ∧ j < 2 ^ 31 ∧ p = nI j := by
        cases zz : ix O.length p with
        | none => rw [zz] at z1; cases z1
        | some j => exact ⟨j, ix_some zz⟩
      obtain ⟨wn, wn1, rfl⟩ := wi_so (m := 200) (by omega) z2
      rw [cl_n (show pn < 2 ^ 31 by omega), cl_n (show wn < 2 ^ 31 by omega)] at hret
      refine G.nif_eq 31 dX8_first_16 rfl (by decide) (fun zz => absurd zz (by decide)) (fun _ => ?_)
      refine G.aload_n 0 rfl rfl dX8_first_19 ?_
      refine G.bipush (v := nI 8) dX8_first_20 (by decide +kernel) ?_
      refine G.iload_n 1 rfl rfl dX8_first_22 ?_
      refine G.iconst (v := nI 0) dX8_first_23 (by decide +kernel) ?_
      refine G.iload_n 2 rfl rfl dX8_first_24 ?_
      refine G.callV (n := 4) 132 (c_X8_added zM cw hN (o := (8, pn, pn, wn, 0)) ⟨rfl, (fun h => (by simp at h)), (fun _ => rfl), (fun _ h => (by simp at h)), (fun h => (by simp at h)), (fun h => (by simp at h)), (fun _ => rfl), fun _ _ _ => rfl⟩) rfl (by omega) c0 rfl tb_720 tb_722 tb_14 tb_42 tb_723 (by decide +kernel) rfl ⟨(Nat.le_of_ble_eq_true rfl), (Nat.le_of_ble_eq_true rfl)⟩ ⟨rfl, rfl⟩ (Nat.le_of_ble_eq_true rfl) ⟨Nat.zero_le _, Nat.zero_le _⟩ dX8_first_25 (fun gr5 zw hp => ?_)
      obtain ⟨rfl, hM2, hf⟩ := hp
      refine G.goto 32 dX8_first_28 rfl ?_
      refine G.iret rfl rfl rfl dX8_first_32 ?_
      exact hret _ _ ⟨rfl, hM2 Td (fun _ _ => rfl) hd, hf⟩
theorem c_X8_drop (hM : isM t ad w A I O Td jd J fc df) (cw : okS A O fc) (hN : 153 ≤ N) :
    K l t yX8_drop cX8_drop 1 (some .int) (rD 0) N ad w [.ref (ad 132)]
      (fun res w' => res = some (.int (if O.length = 0 then -3 else nI (O.length - 1))) ∧ isM t ad w' A I O.dropLast (if O.length = 0 then Td else va_up Td (O.length - 1) []) (if O.length = 0 then jd else false) J fc (if O.length = 0 then df else none) ∧ ∀ i, i < 132 ∨ 153 ≤ i → w' i = w i) := by
  have zM := hM
  obtain ⟨io, op, ot, ok, nw, fa, c0, cA, cT, cO, cR, cTd, cf⟩ := hM
  have zA := cw.1
  have z12 := cw.2.1
  have z9k := cw.2.2.1
  obtain ⟨k1, o1, o2, nm, p1, p2, p3, p4, p5⟩ := id cO
  refine K.of (own := RX8) (lv := [(0, .ref (ad 132))]) (by decide +kernel) rfl (Nat.le_of_ble_eq_true rfl) rfl (fun P post hret => ?_)
  refine G.aload_n 0 rfl rfl dX8_drop_0 ?_
  refine G.get 132 (by omega) c0 rfl twX8 7 (by decide) tb_611 rfl rfl dX8_drop_1 ?_
  refine G.nif_ne 10 dX8_drop_4 rfl (by omega) (fun c4 => ?_) (fun c4 => ?_)
  · skip
    refine G.aload_n 0 rfl rfl dX8_drop_10 ?_
    refine G.dup rfl dX8_drop_11 ?_
    refine G.get 132 (by omega) c0 rfl twX8 7 (by decide) tb_611 rfl rfl dX8_drop_12 ?_
    refine G.iconst (v := nI 1) dX8_drop_15 (by decide +kernel) ?_
    obtain ⟨mm, hmm⟩ : ∃ mm, O.length = mm + 1 := ⟨O.length - 1, by omega⟩
    refine G.isub dX8_drop_16 ?_
    refine G.topi (nI mm) (by rw [hmm]; exact pk_sub (a := mm + 1) (b := 1) (by omega)) ?_
    refine G.put 132 (by omega) c0 rfl twX8 7 (by decide) tyX8 tyX8_ok nmX8 tb_611 rfl rfl (tyX8_ok 7 (by decide)) rfl rfl (Nat.le_of_ble_eq_true rfl) dX8_drop_17 (fun gw1 gh2 gf3 => ?_)
    refine G.aload_n 0 rfl rfl dX8_drop_20 ?_
    refine G.iconst (v := nI 0) dX8_drop_21 (by decide +kernel) ?_
    refine G.put 132 (by omega) gh2 rfl twX8 12 (by decide) tyX8 tyX8_ok nmX8 tb_616 rfl rfl (tyX8_ok 12 (by decide)) (nb_n (Or.inl rfl)) (nb_f (Or.inl rfl)) (Nat.le_of_ble_eq_true rfl) dX8_drop_22 (fun gw4 gh5 gf6 => ?_)
    refine G.aload_n 0 rfl rfl dX8_drop_25 ?_
    refine G.get 132 (by omega) gh5 rfl twX8 7 (by decide) tb_611 rfl rfl dX8_drop_26 ?_
    refine G.iret rfl rfl rfl dX8_drop_29 ?_
    have hx := gh5
    have hfr : ∀ i, i ≠ 132 → gw4 i = w i := fun i hi => (gf6 i (by omega)).trans (gf3 i (by omega))
    have zl : O.dropLast.length = mm := by rw [List.length_dropLast]; omega
    refine hret _ _ ⟨by rw [if_neg (by omega), hmm]; rfl, ?_, fun i hi => hfr i (by omega)⟩
    rw [if_neg (by omega), if_neg (by omega), if_neg (by omega)]
    refine ⟨io, op, ot, ok, nw, fa, by rw [zl]; exact hx, cA.keep (fun i q1 q2 => hfr i (by omega)), cT.keep (hfr _ (by omega)), ⟨k1, o1, o2, nm, (hfr _ (by omega)).trans p1, (hfr _ (by omega)).trans p2, (hfr _ (by omega)).trans p3, (hfr _ (by omega)).trans p4, fun i hi => ?_⟩, (cR.less (m := 0) (by omega)).keep (fun i q1 q2 => hfr i (by omega)), (cTd.less (m := O.dropLast.length) (by omega) (fun i hi => va_up_ne _ _ (by omega))).keep (fun i q1 q2 => hfr i (by omega)), fun q => by cases q⟩
    rw [zl] at hi
    have := p5 i (by omega)
    rw [List.getD_eq_getElem?_getD, List.getElem?_dropLast, if_pos (by omega), ← List.getD_eq_getElem?_getD]
    exact this
  · skip
    refine G.bipush (v := -3) dX8_drop_7 (by decide +kernel) ?_
    refine G.iret rfl rfl rfl dX8_drop_9 ?_
    have hO : O = [] := List.eq_nil_of_length_eq_zero c4
    subst hO
    exact hret _ _ ⟨rfl, zM, fun _ _ => rfl⟩
theorem c_X8_count (hM : isM t ad w A I O Td jd J fc df) (cw : okS A O fc) (hN : 153 ≤ N) (what : Int32) :
    K l t yX8_count cX8_count 2 (some .int) (rD 0) N ad w [.ref (ad 132), .int what]
      (fun res w' => w = w' ∧ res = some (.int (sCount A O fc what))) := by
  have zM := hM
  obtain ⟨io, op, ot, ok, nw, fa, c0, cA, cT, cO, cR, cTd, cf⟩ := hM
  have zA := cw.1
  have z12 := cw.2.1
  have z9k := cw.2.2.1
  refine K.of (own := RX8) (lv := [(0, .ref (ad 132)), (1, .int what)]) (by decide +kernel) rfl (Nat.le_of_ble_eq_true rfl) rfl (fun P post hret => ?_)
  refine G.iload_n 1 rfl rfl dX8_count_0 ?_
  refine G.if_ne 11 dX8_count_1 rfl (fun c1 => ?_) (fun c1 => ?_)
  · skip
    refine G.iload_n 1 rfl rfl dX8_count_11 ?_
    refine G.iconst (v := nI 1) dX8_count_12 (by decide +kernel) ?_
    refine G.icmp_ne 23 dX8_count_13 rfl (fun c13 => ?_) (fun c13 => ?_)
    · skip
      refine G.iload_n 1 rfl rfl dX8_count_23 ?_
      refine G.iconst (v := nI 2) dX8_count_24 (by decide +kernel) ?_
      refine G.icmp_ne 35 dX8_count_25 rfl (fun c25 => ?_) (fun c25 => ?_)
      · skip
        refine G.iconst (v := -1) dX8_count_35 (by decide +kernel) ?_
        refine G.iret rfl rfl rfl dX8_count_36 ?_
        exact hret _ _ ⟨rfl, by rw [sCount, if_neg c1, if_neg (show ¬ what = 1 from c13), if_neg (show ¬ what = 2 from c25)]⟩
      · skip
        refine G.aload_n 0 rfl rfl dX8_count_28 ?_
        refine G.get 132 (by omega) c0 rfl twX8 19 (by decide) tb_623 rfl rfl dX8_count_29 ?_
        refine G.goto 36 dX8_count_32 rfl ?_
        refine G.iret rfl rfl rfl dX8_count_36 ?_
        exact hret _ _ ⟨rfl, by rw [sCount, if_neg c1, if_neg (show ¬ what = 1 from c13), if_pos (show what = 2 from c25)]⟩
    · skip
      refine G.aload_n 0 rfl rfl dX8_count_16 ?_
      refine G.get 132 (by omega) c0 rfl twX8 7 (by decide) tb_611 rfl rfl dX8_count_17 ?_
      refine G.goto 36 dX8_count_20 rfl ?_
      refine G.iret rfl rfl rfl dX8_count_36 ?_
      exact hret _ _ ⟨rfl, by rw [sCount, if_neg c1, if_pos (show what = 1 from c13)]⟩
  · skip
    refine G.aload_n 0 rfl rfl dX8_count_4 ?_
    refine G.get 132 (by omega) c0 rfl twX8 0 (by decide) tb_604 rfl rfl dX8_count_5 ?_
    refine G.goto 36 dX8_count_8 rfl ?_
    refine G.iret rfl rfl rfl dX8_count_36 ?_
    exact hret _ _ ⟨rfl, by rw [sCount, if_pos c1]⟩
theorem c_X8_where (hM : isM t ad w A I O Td jd J fc df) (cw : okS A O fc) (hN : 153 ≤ N) (what : Int32) :
    K l t yX8_where cX8_where 2 (some .int) (rD 1) N ad w [.ref (ad 132), .int what]
      (fun res w' => w = w' ∧ res = some (.int (sWhere jd df what))) := by
  have zM := hM
  obtain ⟨io, op, ot, ok, nw, fa, c0, cA, cT, cO, cR, cTd, cf⟩ := hM
  have zA := cw.1
  have z12 := cw.2.1
  have z9k := cw.2.2.1
  refine K.of (own := RX8) (lv := [(0, .ref (ad 132)), (1, .int what)]) (by decide +kernel) rfl (Nat.le_of_ble_eq_true rfl) rfl (fun P post hret => ?_)
  refine G.iload_n 1 rfl rfl dX8_where_0 ?_
  refine G.iconst (v := nI 0) dX8_where_1 (by decide +kernel) ?_
  refine G.iconst (v := nI 2) dX8_where_2 (by decide +kernel) ?_
  refine G.callS (n := 3) (c_X8_isIn what (nI 0) (nI 2)) rfl tb_699 tb_700 tb_42 tb_701 (by decide +kernel) rfl ⟨(Nat.le_of_ble_eq_true rfl), (Nat.le_of_ble_eq_true rfl)⟩ ⟨rfl, rfl⟩ (Nat.le_of_ble_eq_true rfl) ⟨Nat.zero_le _, Nat.zero_le _⟩ dX8_where_3 (fun gr2 gw1 hp => ?_)
  obtain ⟨rfl, rfl⟩ := hp
  cases zi : wi what (nI 0) (nI 2)
  · skip
    refine G.nif_ne 11 dX8_where_6 rfl (by decide) (fun zz => absurd zz (by decide)) (fun _ => ?_)
    refine G.iconst (v := -1) dX8_where_9 (by decide +kernel) ?_
    refine G.iret rfl rfl rfl dX8_where_10 ?_
    exact hret _ _ ⟨rfl, by unfold sWhere; rw [zi]; rfl⟩
  · skip
    cases jd
    · skip
      refine G.nif_ne 11 dX8_where_6 rfl (by decide) (fun _ => ?_) (fun zz => absurd zz (by decide))
      refine G.aload_n 0 rfl rfl dX8_where_11 ?_
      refine G.get 132 (by omega) c0 rfl twX8 12 (by decide) tb_616 rfl rfl dX8_where_12 ?_
      refine G.nif_eq 25 dX8_where_15 rfl (by decide) (fun _ => ?_) (fun zz => absurd zz (by decide))
      refine G.bipush (v := -4) dX8_where_25 (by decide +kernel) ?_
      refine G.goto 57 dX8_where_27 rfl ?_
      refine G.iret rfl rfl rfl dX8_where_57 ?_
      exact hret _ _ ⟨rfl, by unfold sWhere; rw [zi]; rfl⟩
    · skip
      obtain ⟨f1, f2⟩ := cf rfl
      refine G.nif_ne 11 dX8_where_6 rfl (by decide) (fun _ => ?_) (fun zz => absurd zz (by decide))
      refine G.aload_n 0 rfl rfl dX8_where_11 ?_
      refine G.get 132 (by omega) c0 rfl twX8 12 (by decide) tb_616 rfl rfl dX8_where_12 ?_
      refine G.nif_eq 25 dX8_where_15 rfl (by decide) (fun zz => absurd zz (by decide)) (fun _ => ?_)
      refine G.aload_n 0 rfl rfl dX8_where_18 ?_
      refine G.get 132 (by omega) c0 rfl twX8 24 (by decide) tb_628 rfl rfl dX8_where_19 ?_
      refine G.if_ne 30 dX8_where_22 rfl (fun c22 => ?_) (fun c22 => ?_)
      · skip
        cases df with
        | none => exact absurd (f1 rfl) c22
        | some x =>
          obtain ⟨-, rfl⟩ := f2 x rfl
          refine G.iload_n 1 rfl rfl dX8_where_30 ?_
          refine G.if_ne 41 dX8_where_31 rfl (fun c31 => ?_) (fun c31 => ?_)
          · skip
            refine G.iload_n 1 rfl rfl dX8_where_41 ?_
            refine G.iconst (v := nI 1) dX8_where_42 (by decide +kernel) ?_
            refine G.icmp_ne 53 dX8_where_43 rfl (fun c43 => ?_) (fun c43 => ?_)
            · skip
              refine G.aload_n 0 rfl rfl dX8_where_53 ?_
              refine G.get 132 (by omega) c0 rfl twX8 27 (by decide) tb_631 rfl rfl dX8_where_54 ?_
              refine G.iret rfl rfl rfl dX8_where_57 ?_
              exact hret _ _ ⟨rfl, by unfold sWhere; rw [if_pos zi, if_pos rfl]; dsimp only; rw [if_neg c31, if_neg (show ¬ what = 1 from c43)]⟩
            · skip
              refine G.aload_n 0 rfl rfl dX8_where_46 ?_
              refine G.get 132 (by omega) c0 rfl twX8 26 (by decide) tb_630 rfl rfl dX8_where_47 ?_
              refine G.goto 57 dX8_where_50 rfl ?_
              refine G.iret rfl rfl rfl dX8_where_57 ?_
              exact hret _ _ ⟨rfl, by unfold sWhere; rw [if_pos zi, if_pos rfl]; dsimp only; rw [if_neg c31, if_pos (show what = 1 from c43)]⟩
          · skip
            refine G.aload_n 0 rfl rfl dX8_where_34 ?_
            refine G.get 132 (by omega) c0 rfl twX8 25 (by decide) tb_629 rfl rfl dX8_where_35 ?_
            refine G.goto 57 dX8_where_38 rfl ?_
            refine G.iret rfl rfl rfl dX8_where_57 ?_
            exact hret _ _ ⟨rfl, by unfold sWhere; rw [if_pos zi, if_pos rfl]; dsimp only; rw [if_pos c31]⟩
      · skip
        refine G.bipush (v := -4) dX8_where_25 (by decide +kernel) ?_
        refine G.goto 57 dX8_where_27 rfl ?_
        refine G.iret rfl rfl rfl dX8_where_57 ?_
        cases df with
        | none => exact hret _ _ ⟨rfl, by simp [sWhere, zi]⟩
        | some x => exact absurd c22 (by rw [(f2 x rfl).1]; decide)
end RefA

