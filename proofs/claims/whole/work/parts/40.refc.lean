/-! the reference: laying a row, putting rows in order, an operator's value -/
section RefC
variable {l : Launch} {t : TT} {N : Nat} {ad : Nat → Nat} {w : Nat → va_E} {n on jb fl io op ot ok fa : Int32} {nw : Nat} {U0 M0 T0 Y0 : Nat → Int32} {V0 : Nat → Int64}
theorem c_X8_lay {D : List RW} (h0 : w 132 = .inr (8, xF ad n on jb fl io op ot ok (nI nw) fa)) (hW : isD t w nw D U0 M0 T0 Y0 V0) (hn : nw < 12) (hN : 153 ≤ N) (ti y : Int32) (v : Int64) :
    K l t yX8_lay cX8_lay 6 none (rD 0) N ad w [.ref (ad 132), .int ti, .int y, .long v]
      (fun res w' => res = none ∧ isD t w' nw (D ++ [(ti, y, v)]) U0 M0 T0 Y0 V0 ∧ ∀ i, i < 143 ∨ 149 ≤ i ∨ i = 145 → w' i = w i) := by
  obtain ⟨U, M, T, Y, V, e1, e2, e3, e4, e5, e6, e7, e8, e9, e10, e11⟩ := hW
  have zm : (D.take 200).length = min 200 D.length := List.length_take
  generalize (D.take 200).length = m at zm e6 e8 e9
  refine K.of (own := RX8) (lv := [(0, .ref (ad 132)), (1, .int ti), (2, .int y), (3, .long v)]) (by decide +kernel) rfl (Nat.le_of_ble_eq_true rfl) rfl (fun P post hret => ?_)
  refine G.aload_n 0 rfl rfl dX8_lay_0 ?_
  refine G.get 132 (by omega) h0 rfl twX8 14 (by decide) tb_618 rfl rfl dX8_lay_1 ?_
  refine G.aload_n 0 rfl rfl dX8_lay_4 ?_
  refine G.get 132 (by omega) h0 rfl twX8 28 (by decide) tb_632 rfl rfl dX8_lay_5 ?_
  refine G.iald 144 (by omega) e2 nw (rfl) (by omega) (by omega) dX8_lay_8 ?_
  refine G.topi (nI m) (e8) ?_
  refine G.sipush (v := nI 200) dX8_lay_9 (by decide +kernel) ?_
  refine G.ncmp_ne 26 dX8_lay_12 rfl (by omega) (by omega) (fun c12 => ?_) (fun c12 => ?_)
  · skip
    refine G.sipush (v := nI 201) dX8_lay_26 (by decide +kernel) ?_
    refine G.aload_n 0 rfl rfl dX8_lay_29 ?_
    refine G.get 132 (by omega) h0 rfl twX8 28 (by decide) tb_632 rfl rfl dX8_lay_30 ?_
    refine G.imul dX8_lay_33 ?_
    refine G.topi (nI (201 * nw)) (pk_mul 201 nw) ?_
    refine G.aload_n 0 rfl rfl dX8_lay_34 ?_
    refine G.get 132 (by omega) h0 rfl twX8 14 (by decide) tb_618 rfl rfl dX8_lay_35 ?_
    refine G.aload_n 0 rfl rfl dX8_lay_38 ?_
    refine G.get 132 (by omega) h0 rfl twX8 28 (by decide) tb_632 rfl rfl dX8_lay_39 ?_
    refine G.iald 144 (by omega) e2 nw (rfl) (by omega) (by omega) dX8_lay_42 ?_
    refine G.topi (nI m) (e8) ?_
    refine G.iadd dX8_lay_43 ?_
    refine G.topi (nI ((201 * nw) + m)) (nI_add ((201 * nw)) m) ?_
    refine G.istore [(5, .int (nI ((201 * nw) + m))), (0, .ref (ad 132)), (1, .int ti), (2, .int y), (3, .long v)] dX8_lay_44 (by decide) rfl ?_
    refine G.aload_n 1 rfl rfl dX8_lay_46 ?_
    refine G.get 132 (by omega) h0 rfl twX8 16 (by decide) tb_620 rfl rfl dX8_lay_47 ?_
    refine G.iload 0 rfl dX8_lay_50 ?_
    refine G.iload_n 2 rfl rfl dX8_lay_52 ?_
    refine G.iast 146 (by omega) e3 ((201 * nw) + m) (rfl) (by omega) (by omega) dX8_lay_53 (fun gw1 gh2 gf3 => ?_)
    refine G.aload_n 1 rfl rfl dX8_lay_54 ?_
    have gh4 := (gf3 132 (by omega)).trans h0
    refine G.get 132 (by omega) gh4 rfl twX8 17 (by decide) tb_621 rfl rfl dX8_lay_55 ?_
    refine G.iload 0 rfl dX8_lay_58 ?_
    refine G.iload_n 3 rfl rfl dX8_lay_60 ?_
    have gh5 := (gf3 147 (by omega)).trans e4
    refine G.iast 147 (by omega) gh5 ((201 * nw) + m) (rfl) (by omega) (by omega) dX8_lay_61 (fun gw6 gh7 gf8 => ?_)
    refine G.aload_n 1 rfl rfl dX8_lay_62 ?_
    have gh9 := (gf8 132 (by omega)).trans gh4
    refine G.get 132 (by omega) gh9 rfl twX8 18 (by decide) tb_622 rfl rfl dX8_lay_63 ?_
    refine G.iload 0 rfl dX8_lay_66 ?_
    refine G.lload_n 4 rfl rfl dX8_lay_68 ?_
    have gh10 := (gf3 148 (by omega)).trans e5
    have gh11 := (gf8 148 (by omega)).trans gh10
    refine G.last 148 (by omega) gh11 ((201 * nw) + m) (rfl) (by omega) (by omega) dX8_lay_69 (fun gw12 gh13 gf14 => ?_)
    refine G.aload_n 1 rfl rfl dX8_lay_70 ?_
    have gh15 := (gf14 132 (by omega)).trans gh9
    refine G.get 132 (by omega) gh15 rfl twX8 14 (by decide) tb_618 rfl rfl dX8_lay_71 ?_
    refine G.aload_n 1 rfl rfl dX8_lay_74 ?_
    refine G.get 132 (by omega) gh15 rfl twX8 28 (by decide) tb_632 rfl rfl dX8_lay_75 ?_
    refine G.dup2_11 rfl rfl dX8_lay_78 ?_
    have gh16 := (gf3 144 (by omega)).trans e2
    have gh17 := (gf8 144 (by omega)).trans gh16
    have gh18 := (gf14 144 (by omega)).trans gh17
    refine G.iald 144 (by omega) gh18 nw (rfl) (by omega) (by omega) dX8_lay_79 ?_
    refine G.topi (nI m) (e8) ?_
    refine G.iconst (v := nI 1) dX8_lay_80 (by decide +kernel) ?_
    refine G.iadd dX8_lay_81 ?_
    refine G.topi (nI (m + 1)) (nI_add m 1) ?_
    refine G.iast 144 (by omega) gh18 nw (rfl) (by omega) (by omega) dX8_lay_82 (fun gw19 gh20 gf21 => ?_)
    refine G.vret rfl rfl rfl dX8_lay_83 ?_
    have gh22 := (gf3 143 (by omega)).trans e1
    have gh23 := (gf8 143 (by omega)).trans gh22
    have gh24 := (gf14 143 (by omega)).trans gh23
    have gh25 := (gf21 143 (by omega)).trans gh24
    have b1 := gh25
    have b2 := gh20
    have gh26 := (gf8 146 (by omega)).trans gh2
    have gh27 := (gf14 146 (by omega)).trans gh26
    have gh28 := (gf21 146 (by omega)).trans gh27
    have b3 := gh28
    have gh29 := (gf14 147 (by omega)).trans gh7
    have gh30 := (gf21 147 (by omega)).trans gh29
    have b4 := gh30
    have gh31 := (gf21 148 (by omega)).trans gh13
    have b5 := gh31
    have hfr : ∀ i, i < 143 ∨ 149 ≤ i ∨ i = 145 → gw19 i = w i := fun i hi => (gf21 i (by omega)).trans ((gf14 i (by omega)).trans ((gf8 i (by omega)).trans (gf3 i (by omega))))
    have zd : D.length < 200 := by omega
    have zt : D.take 200 = D := List.take_of_length_le (by omega)
    have zt2 : (D ++ [(ti, y, v)]).take 200 = D ++ [(ti, y, v)] := List.take_of_length_le (by rw [List.length_append]; simp; omega)
    have zl : (D ++ [(ti, y, v)]).length = m + 1 := by rw [List.length_append]; simp; omega
    obtain rfl : D.length = m := by omega
    rw [zt] at e9
    refine hret _ _ ⟨rfl, ?_, hfr⟩
    unfold isD
    rw [zt2, zl]
    rw [decide_eq_false (show ¬ 200 < D.length by omega)] at e7
    rw [decide_eq_false (show ¬ 200 < D.length + 1 by omega)]
    refine ⟨_, _, _, _, _, b1, b2, b3, b4, b5, by rw [zl]; omega, e7, by rw [upd_s, zl], sg_of (fun j hj => ?_), fun k hk => ⟨(e10 k hk).1, by rw [upd_n (by omega)]; exact (e10 k hk).2⟩, fun j hj => ?_⟩
    · rw [zl] at hj
      by_cases q : j = D.length
      · subst q
        rw [getD_snoc, upd_s, upd_s, updL_s]
      · rw [getD_app (by omega), upd_n (by omega), upd_n (by omega), updL_n (by omega)]
        exact sg_get e9 (by omega)
    · rw [upd_n (by omega), upd_n (by omega), updL_n (by omega)]
      exact e11 j hj
  · skip
    refine G.aload_n 0 rfl rfl dX8_lay_15 ?_
    refine G.get 132 (by omega) h0 rfl twX8 13 (by decide) tb_617 rfl rfl dX8_lay_16 ?_
    refine G.aload_n 0 rfl rfl dX8_lay_19 ?_
    refine G.get 132 (by omega) h0 rfl twX8 28 (by decide) tb_632 rfl rfl dX8_lay_20 ?_
    refine G.iconst (v := nI 1) dX8_lay_23 (by decide +kernel) ?_
    refine G.zast 143 (by omega) e1 nw (rfl) (by omega) (by omega) (Or.inr rfl) dX8_lay_24 (fun gw32 gh33 gf34 => ?_)
    refine G.vret rfl rfl rfl dX8_lay_25 ?_
    have b1 := gh33
    have hfr : ∀ i, i ≠ 143 → gw32 i = w i := fun i hi => gf34 i (by omega)
    have zd : 200 ≤ D.length := by omega
    have zt2 : (D ++ [(ti, y, v)]).take 200 = D.take 200 := List.take_append_of_le_length zd
    refine hret _ _ ⟨rfl, ?_, fun i hi => hfr i (by omega)⟩
    unfold isD
    rw [zt2, List.length_append]
    have zl : (D.take 200).length = m := by rw [List.length_take]; omega
    rw [decide_eq_true (show 200 < D.length + [(ti, y, v)].length by simp; omega)]
    exact ⟨_, M, T, Y, V, b1, (hfr _ (by omega)).trans e2, (hfr _ (by omega)).trans e3, (hfr _ (by omega)).trans e4, (hfr _ (by omega)).trans e5, by rw [zl]; exact e6, upd_s, by rw [zl]; exact e8, by rw [zl]; exact e9, fun k hk => ⟨by rw [upd_n (by omega)]; exact (e10 k hk).1, (e10 k hk).2⟩, e11⟩
set_option maxHeartbeats 1000000 in
theorem c_X8_rise {L : List RW} {ov : Bool} (h0 : w 132 = .inr (8, xF ad n on jb fl io op ot ok (nI nw) fa)) (hW : isW t w nw L ov U0 M0 T0 Y0 V0) (hn : nw < 12) (hN : 153 ≤ N) (b : Bool) :
    K l t yX8_rise cX8_rise 9 none (rD 0) N ad w [.ref (ad 132), .int (nI (bN b))]
      (fun res w' => res = none ∧ isW t w' nw (srt (gk b) L) ov U0 M0 T0 Y0 V0 ∧ ∀ i, i < 146 ∨ 149 ≤ i → w' i = w i) := by
  obtain ⟨U, M, T, Y, V, e1, e2, e3, e4, e5, e6, e7, e8, e9, e10, e11⟩ := hW
  refine K.of (own := RX8) (lv := [(0, .ref (ad 132)), (1, .int (nI (bN b)))]) (by decide +kernel) rfl (Nat.le_of_ble_eq_true rfl) rfl (fun P post hret => ?_)
  refine G.sipush (v := nI 201) dX8_rise_0 (by decide +kernel) ?_
  refine G.aload_n 0 rfl rfl dX8_rise_3 ?_
  refine G.get 132 (by omega) h0 rfl twX8 28 (by decide) tb_632 rfl rfl dX8_rise_4 ?_
  refine G.imul dX8_rise_7 ?_
  refine G.topi (nI (201 * nw)) (pk_mul 201 nw) ?_
  refine G.istore_n [(2, .int (nI (201 * nw))), (0, .ref (ad 132)), (1, .int (nI (bN b)))] dX8_rise_8 rfl (by decide) rfl ?_
  refine G.iload_n 0 rfl rfl dX8_rise_9 ?_
  refine G.iconst (v := nI 1) dX8_rise_10 (by decide +kernel) ?_
  refine G.iadd dX8_rise_11 ?_
  refine G.topi (nI ((201 * nw) + 1)) (nI_add ((201 * nw)) 1) ?_
  refine G.istore_n [(3, .int (nI ((201 * nw) + 1))), (2, .int (nI (201 * nw))), (0, .ref (ad 132)), (1, .int (nI (bN b)))] dX8_rise_12 rfl (by decide) rfl ?_
  refine G.pick [2, 3, 1, 0] [(0, .ref (ad 132)), (1, .int (nI (bN b))), (2, .int (nI (201 * nw))), (3, .int (nI (201 * nw + 1)))] rfl ?_
  have outer : ∀ (mm kk : Nat) (zw : Nat → va_E) (Ta Ya : Nat → Int32) (Va : Nat → Int64), 1 ≤ kk → (kk + mm = L.length ∨ (mm = 0 ∧ L.length ≤ kk ∧ kk ≤ 200)) → zw 146 = .inl (t.2.1, 2412, .inl Ta) → zw 147 = .inl (t.2.1, 2412, .inl Ya) → zw 148 = .inl (t.2.2.1, 2412, .inr (.inl Va)) → srt (gk b) (L.take kk) = sg Ta Ya Va (201 * nw) (min kk L.length) → (∀ j, kk ≤ j → j < L.length → L.getD j r0 = (Ta (201 * nw + j), Ya (201 * nw + j), Va (201 * nw + j))) → (∀ j, j < 201 * nw → Ta j = T j ∧ Ya j = Y j ∧ Va j = V j) → (∀ i, i < 146 ∨ 149 ≤ i → zw i = w i) → G l t (rD 0) P cX8_rise 9 RX8 none post 0 0 N ad 0 0 13 [(0, .ref (ad 132)), (1, .int (nI (bN b))), (2, .int (nI (201 * nw))), (3, .int (nI (201 * nw + kk)))] [] zw := by
    intro mm
    induction mm with
    | zero =>
      intro kk zw Ta Ya Va hk1 hk f3 f4 f5 f6 f7 f8 hf
      have f0 := (hf 132 (by omega)).trans h0
      have f1 := (hf 143 (by omega)).trans e1
      have f2 := (hf 144 (by omega)).trans e2
      refine G.iload_n 3 rfl rfl dX8_rise_13 ?_
      refine G.iload_n 2 rfl rfl dX8_rise_14 ?_
      refine G.aload_n 0 rfl rfl dX8_rise_15 ?_
      refine G.get 132 (by omega) f0 rfl twX8 14 (by decide) tb_618 rfl rfl dX8_rise_16 ?_
      refine G.aload_n 0 rfl rfl dX8_rise_19 ?_
      refine G.get 132 (by omega) f0 rfl twX8 28 (by decide) tb_632 rfl rfl dX8_rise_20 ?_
      refine G.iald 144 (by omega) f2 nw (rfl) (by omega) (by omega) dX8_rise_23 ?_
      refine G.topi (nI L.length) (e8) ?_
      refine G.iadd dX8_rise_24 ?_
      refine G.topi (nI ((201 * nw) + L.length)) (nI_add ((201 * nw)) L.length) ?_
      refine G.ncmp_ge 194 dX8_rise_25 rfl (by omega) (by omega) (fun c25 => ?_) (fun c25 => ?_)
      · skip
        refine G.vret rfl rfl rfl dX8_rise_194 ?_
        have zl : (srt (gk b) L).length = L.length := srt_len _ _
        rw [List.take_of_length_le (by omega), show min kk L.length = L.length by omega] at f6
        exact hret _ _ ⟨rfl, ⟨U, M, Ta, Ya, Va, f1, f2, f3, f4, f5, by rw [zl]; exact e6, e7, by rw [zl]; exact e8, by rw [zl]; exact f6, e10, fun j hj => ⟨(f8 j hj).1.trans (e11 j hj).1, (f8 j hj).2.1.trans (e11 j hj).2.1, (f8 j hj).2.2.trans (e11 j hj).2.2⟩⟩, hf⟩
      · skip
        omega
    | succ mm ihm =>
      intro kk zw Ta Ya Va hk1 hk f3 f4 f5 f6 f7 f8 hf
      have hkn : kk + (mm + 1) = L.length := by omega
      rw [show min kk L.length = kk by omega] at f6
      have f0 := (hf 132 (by omega)).trans h0
      have f1 := (hf 143 (by omega)).trans e1
      have f2 := (hf 144 (by omega)).trans e2
      refine G.iload_n 3 rfl rfl dX8_rise_13 ?_
      refine G.iload_n 2 rfl rfl dX8_rise_14 ?_
      refine G.aload_n 0 rfl rfl dX8_rise_15 ?_
      refine G.get 132 (by omega) f0 rfl twX8 14 (by decide) tb_618 rfl rfl dX8_rise_16 ?_
      refine G.aload_n 0 rfl rfl dX8_rise_19 ?_
      refine G.get 132 (by omega) f0 rfl twX8 28 (by decide) tb_632 rfl rfl dX8_rise_20 ?_
      refine G.iald 144 (by omega) f2 nw (rfl) (by omega) (by omega) dX8_rise_23 ?_
      refine G.topi (nI L.length) (e8) ?_
      refine G.iadd dX8_rise_24 ?_
      refine G.topi (nI ((201 * nw) + L.length)) (nI_add ((201 * nw)) L.length) ?_
      refine G.ncmp_ge 194 dX8_rise_25 rfl (by omega) (by omega) (fun c25 => ?_) (fun c25 => ?_)
      · skip
        omega
      · skip
        refine G.aload_n 0 rfl rfl dX8_rise_28 ?_
        refine G.get 132 (by omega) f0 rfl twX8 16 (by decide) tb_620 rfl rfl dX8_rise_29 ?_
        refine G.iload_n 3 rfl rfl dX8_rise_32 ?_
        refine G.iald 146 (by omega) f3 (201 * nw + kk) (rfl) (by omega) (by omega) dX8_rise_33 ?_
        refine G.istore [(4, .int (Ta (201 * nw + kk))), (0, .ref (ad 132)), (1, .int (nI (bN b))), (2, .int (nI (201 * nw))), (3, .int (nI (201 * nw + kk)))] dX8_rise_34 (by decide) rfl ?_
        refine G.aload_n 1 rfl rfl dX8_rise_36 ?_
        refine G.get 132 (by omega) f0 rfl twX8 17 (by decide) tb_621 rfl rfl dX8_rise_37 ?_
        refine G.iload_n 4 rfl rfl dX8_rise_40 ?_
        refine G.iald 147 (by omega) f4 (201 * nw + kk) (rfl) (by omega) (by omega) dX8_rise_41 ?_
        refine G.istore [(5, .int (Ya (201 * nw + kk))), (4, .int (Ta (201 * nw + kk))), (0, .ref (ad 132)), (1, .int (nI (bN b))), (2, .int (nI (201 * nw))), (3, .int (nI (201 * nw + kk)))] dX8_rise_42 (by decide) rfl ?_
        refine G.aload_n 2 rfl rfl dX8_rise_44 ?_
        refine G.get 132 (by omega) f0 rfl twX8 18 (by decide) tb_622 rfl rfl dX8_rise_45 ?_
        refine G.iload_n 5 rfl rfl dX8_rise_48 ?_
        refine G.lald 148 (by omega) f5 (201 * nw + kk) (rfl) (by omega) (by omega) dX8_rise_49 ?_
        refine G.lstore [(6, .long (Va (201 * nw + kk))), (5, .int (Ya (201 * nw + kk))), (4, .int (Ta (201 * nw + kk))), (0, .ref (ad 132)), (1, .int (nI (bN b))), (2, .int (nI (201 * nw))), (3, .int (nI (201 * nw + kk)))] dX8_rise_50 (by decide) rfl ?_
        refine G.iload_n 6 rfl rfl dX8_rise_52 ?_
        refine G.istore [(8, .int (nI (201 * nw + kk))), (6, .long (Va (201 * nw + kk))), (5, .int (Ya (201 * nw + kk))), (4, .int (Ta (201 * nw + kk))), (0, .ref (ad 132)), (1, .int (nI (bN b))), (2, .int (nI (201 * nw))), (3, .int (nI (201 * nw + kk)))] dX8_rise_53 (by decide) rfl ?_
        refine G.pick [4, 5, 6, 7, 3, 2, 1, 0] [(0, .ref (ad 132)), (1, .int (nI (bN b))), (2, .int (nI (201 * nw))), (3, .int (nI (201 * nw + kk))), (4, .int (Ta (201 * nw + kk))), (5, .int (Ya (201 * nw + kk))), (6, .long (Va (201 * nw + kk))), (8, .int (nI (201 * nw + kk)))] rfl ?_
        have hx : L.getD kk r0 = (Ta (201 * nw + kk), Ya (201 * nw + kk), Va (201 * nw + kk)) := f7 kk (Nat.le_refl _) (by omega)
        generalize hxe : L.getD kk r0 = xx at hx
        have tail : ∀ (i : Nat) (zw1 : Nat → va_E) (T1 Y1 : Nat → Int32) (V1 : Nat → Int64), i ≤ kk → zw1 146 = .inl (t.2.1, 2412, .inl T1) → zw1 147 = .inl (t.2.1, 2412, .inl Y1) → zw1 148 = .inl (t.2.2.1, 2412, .inr (.inl V1)) → (∀ k, k < i → (T1 (201 * nw + k), Y1 (201 * nw + k), V1 (201 * nw + k)) = (Ta (201 * nw + k), Ya (201 * nw + k), Va (201 * nw + k))) → (∀ k, i < k → k ≤ kk → (T1 (201 * nw + k), Y1 (201 * nw + k), V1 (201 * nw + k)) = (Ta (201 * nw + (k - 1)), Ya (201 * nw + (k - 1)), Va (201 * nw + (k - 1)))) → (∀ k, i ≤ k → k < kk → gk b (Ta (201 * nw + k), Ya (201 * nw + k), Va (201 * nw + k)) xx = true) → (∀ k, i = k + 1 → gk b (Ta (201 * nw + k), Ya (201 * nw + k), Va (201 * nw + k)) xx = false) → (∀ j, j < 201 * nw ∨ 201 * nw + kk < j → T1 j = Ta j ∧ Y1 j = Ya j ∧ V1 j = Va j) → (∀ q, q < 146 ∨ 149 ≤ q → zw1 q = w q) → G l t (rD 0) P cX8_rise 9 RX8 none post 0 0 N ad 0 0 161 [(0, .ref (ad 132)), (1, .int (nI (bN b))), (2, .int (nI (201 * nw))), (3, .int (nI (201 * nw + kk))), (4, .int (Ta (201 * nw + kk))), (5, .int (Ya (201 * nw + kk))), (6, .long (Va (201 * nw + kk))), (8, .int (nI (201 * nw + i)))] [] zw1 := by
          intro i zw1 T1 Y1 V1 hi g3 g4 g5 a1 a2 a3 a4 a5 hf1
          have g0 := (hf1 132 (by omega)).trans h0
          refine G.aload_n 0 rfl rfl dX8_rise_161 ?_
          refine G.get 132 (by omega) g0 rfl twX8 16 (by decide) tb_620 rfl rfl dX8_rise_162 ?_
          refine G.iload 7 rfl dX8_rise_165 ?_
          refine G.iload 4 rfl dX8_rise_167 ?_
          refine G.iast 146 (by omega) g3 (201 * nw + i) (rfl) (by omega) (by omega) dX8_rise_169 (fun gw1 gh2 gf3 => ?_)
          refine G.aload_n 0 rfl rfl dX8_rise_170 ?_
          have gh4 := (gf3 132 (by omega)).trans g0
          refine G.get 132 (by omega) gh4 rfl twX8 17 (by decide) tb_621 rfl rfl dX8_rise_171 ?_
          refine G.iload 7 rfl dX8_rise_174 ?_
          refine G.iload 5 rfl dX8_rise_176 ?_
          have gh5 := (gf3 147 (by omega)).trans g4
          refine G.iast 147 (by omega) gh5 (201 * nw + i) (rfl) (by omega) (by omega) dX8_rise_178 (fun gw6 gh7 gf8 => ?_)
          refine G.aload_n 0 rfl rfl dX8_rise_179 ?_
          have gh9 := (gf8 132 (by omega)).trans gh4
          refine G.get 132 (by omega) gh9 rfl twX8 18 (by decide) tb_622 rfl rfl dX8_rise_180 ?_
          refine G.iload 7 rfl dX8_rise_183 ?_
          refine G.lload 6 rfl dX8_rise_185 ?_
          have gh10 := (gf3 148 (by omega)).trans g5
          have gh11 := (gf8 148 (by omega)).trans gh10
          refine G.last 148 (by omega) gh11 (201 * nw + i) (rfl) (by omega) (by omega) dX8_rise_187 (fun gw12 gh13 gf14 => ?_)
          refine G.iinc (v := nI ((201 * nw + kk) + 1)) [(3, .int (nI ((201 * nw + kk) + 1))), (0, .ref (ad 132)), (1, .int (nI (bN b))), (2, .int (nI (201 * nw))), (4, .int (Ta (201 * nw + kk))), (5, .int (Ya (201 * nw + kk))), (6, .long (Va (201 * nw + kk))), (8, .int (nI (201 * nw + i)))] 3 dX8_rise_188 rfl (nI_add ((201 * nw + kk)) 1) (by decide) rfl ?_
          refine G.goto 13 dX8_rise_191 rfl ?_
          have gh15 := (gf8 146 (by omega)).trans gh2
          have gh16 := (gf14 146 (by omega)).trans gh15
          have k3 := gh16
          have gh17 := (gf14 147 (by omega)).trans gh7
          have k4 := gh17
          have k5 := gh13
          have hfr : ∀ i, i < 146 ∨ 149 ≤ i → gw12 i = zw1 i := fun i hi => (gf14 i (by omega)).trans ((gf8 i (by omega)).trans (gf3 i (by omega)))
          refine G.pick [1, 2, 3, 0] [(0, .ref (ad 132)), (1, .int (nI (bN b))), (2, .int (nI (201 * nw))), (3, .int (nI (201 * nw + kk + 1)))] rfl ?_
          refine ihm (kk + 1) _ _ _ _ (by omega) (by omega) k3 k4 k5 ?_ (fun j hj1 hj2 => ?_) (fun j hj => ?_) (fun q hq => (hfr q hq).trans (hf1 q hq))
          · rw [srt_take (by omega), f6, hxe, show min (kk + 1) L.length = kk + 1 by omega]
            refine (ins_rl (gk b) (T' := fun k => upd T1 (201 * nw + i) (Ta (201 * nw + kk)) (201 * nw + k)) (Y' := fun k => upd Y1 (201 * nw + i) (Ya (201 * nw + kk)) (201 * nw + k)) (V' := fun k => vp_updL V1 (201 * nw + i) (Va (201 * nw + kk)) (201 * nw + k)) hi (fun k hk => ?_) ?_ (fun k hk hk2 => ?_) (fun k hk hk2 => a3 k hk hk2) (fun k hk => a4 k hk)).symm
            · rw [upd_n (by omega), upd_n (by omega), updL_n (by omega)]; exact a1 k hk
            · rw [upd_s, upd_s, updL_s, hx]
            · rw [upd_n (by omega), upd_n (by omega), updL_n (by omega)]; exact a2 k hk hk2
          · rw [upd_n (by omega), upd_n (by omega), updL_n (by omega), (a5 _ (by omega)).1, (a5 _ (by omega)).2.1, (a5 _ (by omega)).2.2]
            exact f7 j (by omega) hj2
          · rw [upd_n (by omega), upd_n (by omega), updL_n (by omega)]
            exact ⟨(a5 j (by omega)).1.trans (f8 j hj).1, (a5 j (by omega)).2.1.trans (f8 j hj).2.1, (a5 j (by omega)).2.2.trans (f8 j hj).2.2⟩
        have loop : ∀ (i : Nat) (zw1 : Nat → va_E) (T1 Y1 : Nat → Int32) (V1 : Nat → Int64), i ≤ kk → zw1 146 = .inl (t.2.1, 2412, .inl T1) → zw1 147 = .inl (t.2.1, 2412, .inl Y1) → zw1 148 = .inl (t.2.2.1, 2412, .inr (.inl V1)) → (∀ k, k < i → (T1 (201 * nw + k), Y1 (201 * nw + k), V1 (201 * nw + k)) = (Ta (201 * nw + k), Ya (201 * nw + k), Va (201 * nw + k))) → (∀ k, i < k → k ≤ kk → (T1 (201 * nw + k), Y1 (201 * nw + k), V1 (201 * nw + k)) = (Ta (201 * nw + (k - 1)), Ya (201 * nw + (k - 1)), Va (201 * nw + (k - 1)))) → (∀ k, i ≤ k → k < kk → gk b (Ta (201 * nw + k), Ya (201 * nw + k), Va (201 * nw + k)) xx = true) → (∀ j, j < 201 * nw ∨ 201 * nw + kk < j → T1 j = Ta j ∧ Y1 j = Ya j ∧ V1 j = Va j) → (∀ q, q < 146 ∨ 149 ≤ q → zw1 q = w q) → G l t (rD 0) P cX8_rise 9 RX8 none post 0 0 N ad 0 0 55 [(0, .ref (ad 132)), (1, .int (nI (bN b))), (2, .int (nI (201 * nw))), (3, .int (nI (201 * nw + kk))), (4, .int (Ta (201 * nw + kk))), (5, .int (Ya (201 * nw + kk))), (6, .long (Va (201 * nw + kk))), (8, .int (nI (201 * nw + i)))] [] zw1 := by
          intro i
          induction i with
          | zero =>
            intro zw1 T1 Y1 V1 hi g3 g4 g5 a1 a2 a3 a5 hf1
            refine G.iload 7 rfl dX8_rise_55 ?_
            refine G.iload_n 2 rfl rfl dX8_rise_57 ?_
            refine G.ncmp_le 161 dX8_rise_58 rfl (by omega) (by omega) (fun c58 => ?_) (fun c58 => ?_)
            · skip
              exact tail 0 zw1 T1 Y1 V1 hi g3 g4 g5 a1 a2 a3 (fun k hk => by omega) a5 hf1
            · skip
              omega
          | succ i ih =>
            intro zw1 T1 Y1 V1 hi g3 g4 g5 a1 a2 a3 a5 hf1
            have g0 := (hf1 132 (by omega)).trans h0
            have q1 : T1 (201 * nw + i) = Ta (201 * nw + i) := congrArg (fun x => x.1) (a1 i (by omega))
            have q2 : Y1 (201 * nw + i) = Ya (201 * nw + i) := congrArg (fun x => x.2.1) (a1 i (by omega))
            have q3 : V1 (201 * nw + i) = Va (201 * nw + i) := congrArg (fun x => x.2.2) (a1 i (by omega))
            have stop : gk b (Ta (201 * nw + i), Ya (201 * nw + i), Va (201 * nw + i)) xx = false → G l t (rD 0) P cX8_rise 9 RX8 none post 0 0 N ad 0 0 161 [(0, .ref (ad 132)), (1, .int (nI (bN b))), (2, .int (nI (201 * nw))), (3, .int (nI (201 * nw + kk))), (4, .int (Ta (201 * nw + kk))), (5, .int (Ya (201 * nw + kk))), (6, .long (Va (201 * nw + kk))), (8, .int (nI (201 * nw + i + 1)))] [] zw1 := fun hb => tail (i + 1) zw1 T1 Y1 V1 hi g3 g4 g5 a1 a2 a3 (fun k hk => by
              obtain rfl : k = i := by omega
              exact hb) a5 hf1
            have shift : gk b (Ta (201 * nw + i), Ya (201 * nw + i), Va (201 * nw + i)) xx = true → G l t (rD 0) P cX8_rise 9 RX8 none post 0 0 N ad 0 0 107 [(0, .ref (ad 132)), (1, .int (nI (bN b))), (2, .int (nI (201 * nw))), (3, .int (nI (201 * nw + kk))), (4, .int (Ta (201 * nw + kk))), (5, .int (Ya (201 * nw + kk))), (6, .long (Va (201 * nw + kk))), (8, .int (nI (201 * nw + i + 1)))] [] zw1 := by
              intro hb
              refine G.aload_n 0 rfl rfl dX8_rise_107 ?_
              refine G.get 132 (by omega) g0 rfl twX8 16 (by decide) tb_620 rfl rfl dX8_rise_108 ?_
              refine G.iload 7 rfl dX8_rise_111 ?_
              refine G.aload_n 0 rfl rfl dX8_rise_113 ?_
              refine G.get 132 (by omega) g0 rfl twX8 16 (by decide) tb_620 rfl rfl dX8_rise_114 ?_
              refine G.iload 7 rfl dX8_rise_117 ?_
              refine G.iconst (v := nI 1) dX8_rise_119 (by decide +kernel) ?_
              refine G.isub dX8_rise_120 ?_
              refine G.topi (nI (201 * nw + i)) (pk_sub (by omega)) ?_
              refine G.iald 146 (by omega) g3 (201 * nw + i) (rfl) (by omega) (by omega) dX8_rise_121 ?_
              refine G.iast 146 (by omega) g3 (201 * nw + i + 1) (rfl) (by omega) (by omega) dX8_rise_122 (fun gw18 gh19 gf20 => ?_)
              refine G.aload_n 0 rfl rfl dX8_rise_123 ?_
              have gh21 := (gf20 132 (by omega)).trans g0
              refine G.get 132 (by omega) gh21 rfl twX8 17 (by decide) tb_621 rfl rfl dX8_rise_124 ?_
              refine G.iload 7 rfl dX8_rise_127 ?_
              refine G.aload_n 0 rfl rfl dX8_rise_129 ?_
              refine G.get 132 (by omega) gh21 rfl twX8 17 (by decide) tb_621 rfl rfl dX8_rise_130 ?_
              refine G.iload 7 rfl dX8_rise_133 ?_
              refine G.iconst (v := nI 1) dX8_rise_135 (by decide +kernel) ?_
              refine G.isub dX8_rise_136 ?_
              refine G.topi (nI (201 * nw + i)) (pk_sub (by omega)) ?_
              have gh22 := (gf20 147 (by omega)).trans g4
              refine G.iald 147 (by omega) gh22 (201 * nw + i) (rfl) (by omega) (by omega) dX8_rise_137 ?_
              refine G.iast 147 (by omega) gh22 (201 * nw + i + 1) (rfl) (by omega) (by omega) dX8_rise_138 (fun gw23 gh24 gf25 => ?_)
              refine G.aload_n 0 rfl rfl dX8_rise_139 ?_
              have gh26 := (gf25 132 (by omega)).trans gh21
              refine G.get 132 (by omega) gh26 rfl twX8 18 (by decide) tb_622 rfl rfl dX8_rise_140 ?_
              refine G.iload 7 rfl dX8_rise_143 ?_
              refine G.aload_n 0 rfl rfl dX8_rise_145 ?_
              refine G.get 132 (by omega) gh26 rfl twX8 18 (by decide) tb_622 rfl rfl dX8_rise_146 ?_
              refine G.iload 7 rfl dX8_rise_149 ?_
              refine G.iconst (v := nI 1) dX8_rise_151 (by decide +kernel) ?_
              refine G.isub dX8_rise_152 ?_
              refine G.topi (nI (201 * nw + i)) (pk_sub (by omega)) ?_
              have gh27 := (gf20 148 (by omega)).trans g5
              have gh28 := (gf25 148 (by omega)).trans gh27
              refine G.lald 148 (by omega) gh28 (201 * nw + i) (rfl) (by omega) (by omega) dX8_rise_153 ?_
              refine G.last 148 (by omega) gh28 (201 * nw + i + 1) (rfl) (by omega) (by omega) dX8_rise_154 (fun gw29 gh30 gf31 => ?_)
              refine G.iinc (v := nI (201 * nw + i)) [(8, .int (nI (201 * nw + i))), (0, .ref (ad 132)), (1, .int (nI (bN b))), (2, .int (nI (201 * nw))), (3, .int (nI (201 * nw + kk))), (4, .int (Ta (201 * nw + kk))), (5, .int (Ya (201 * nw + kk))), (6, .long (Va (201 * nw + kk)))] 7 dX8_rise_155 rfl (pk_m1 _) (by decide) rfl ?_
              refine G.goto 55 dX8_rise_158 rfl ?_
              have gh32 := (gf25 146 (by omega)).trans gh19
              have gh33 := (gf31 146 (by omega)).trans gh32
              have k3 := gh33
              have gh34 := (gf31 147 (by omega)).trans gh24
              have k4 := gh34
              have k5 := gh30
              have hfr : ∀ i, i < 146 ∨ 149 ≤ i → gw29 i = zw1 i := fun i hi => (gf31 i (by omega)).trans ((gf25 i (by omega)).trans (gf20 i (by omega)))
              refine G.pick [1, 2, 3, 4, 5, 6, 7, 0] [(0, .ref (ad 132)), (1, .int (nI (bN b))), (2, .int (nI (201 * nw))), (3, .int (nI (201 * nw + kk))), (4, .int (Ta (201 * nw + kk))), (5, .int (Ya (201 * nw + kk))), (6, .long (Va (201 * nw + kk))), (8, .int (nI (201 * nw + i)))] rfl ?_
              refine ih _ _ _ _ (by omega) k3 k4 k5 (fun k hk => ?_) (fun k hk hk2 => ?_) (fun k hk hk2 => ?_) (fun j hj => ?_) (fun q hq => (hfr q hq).trans (hf1 q hq))
              · rw [upd_n (by omega), upd_n (by omega), updL_n (by omega)]; exact a1 k (by omega)
              · by_cases hki : k = i + 1
                · subst hki
                  rw [show 201 * nw + (i + 1) = 201 * nw + i + 1 from rfl, upd_s, upd_s, updL_s, q1, q2, q3]
                  rfl
                · rw [upd_n (by omega), upd_n (by omega), updL_n (by omega)]; exact a2 k (by omega) hk2
              · by_cases hki : k = i
                · subst hki
                  exact hb
                · exact a3 k (by omega) hk2
              · rw [upd_n (by omega), upd_n (by omega), updL_n (by omega)]; exact a5 j hj
            show G l t (rD 0) P cX8_rise 9 RX8 none post 0 0 N ad 0 0 55 [(0, .ref (ad 132)), (1, .int (nI (bN b))), (2, .int (nI (201 * nw))), (3, .int (nI (201 * nw + kk))), (4, .int (Ta (201 * nw + kk))), (5, .int (Ya (201 * nw + kk))), (6, .long (Va (201 * nw + kk))), (8, .int (nI (201 * nw + i + 1)))] [] zw1
            refine G.iload 7 rfl dX8_rise_55 ?_
            refine G.iload_n 2 rfl rfl dX8_rise_57 ?_
            refine G.ncmp_le 161 dX8_rise_58 rfl (by omega) (by omega) (fun c58 => ?_) (fun c58 => ?_)
            · skip
              omega
            · skip
              refine G.aload_n 0 rfl rfl dX8_rise_61 ?_
              refine G.get 132 (by omega) g0 rfl twX8 16 (by decide) tb_620 rfl rfl dX8_rise_62 ?_
              refine G.iload 7 rfl dX8_rise_65 ?_
              refine G.iconst (v := nI 1) dX8_rise_67 (by decide +kernel) ?_
              refine G.isub dX8_rise_68 ?_
              refine G.topi (nI (201 * nw + i)) (pk_sub (by omega)) ?_
              refine G.iald 146 (by omega) g3 (201 * nw + i) (rfl) (by omega) (by omega) dX8_rise_69 ?_
              refine G.iload 4 rfl dX8_rise_70 ?_
              refine G.icmp_gt 107 dX8_rise_72 rfl (fun c72 => ?_) (fun c72 => ?_)
              · skip
                rw [q1] at c72
                exact shift (by rw [hx]; simp only [gk, decide_eq_true c72, Bool.true_or])
              · skip
                refine G.iload_n 1 rfl rfl dX8_rise_75 ?_
                refine G.if_eq 161 dX8_rise_76 rfl (fun c76 => ?_) (fun c76 => ?_)
                · skip
                  rw [q1] at c72
                  exact stop (by rw [hx]; simp only [gk, decide_eq_false c72, bN_0 c76]; rfl)
                · skip
                  refine G.aload_n 0 rfl rfl dX8_rise_79 ?_
                  refine G.get 132 (by omega) g0 rfl twX8 16 (by decide) tb_620 rfl rfl dX8_rise_80 ?_
                  refine G.iload 7 rfl dX8_rise_83 ?_
                  refine G.iconst (v := nI 1) dX8_rise_85 (by decide +kernel) ?_
                  refine G.isub dX8_rise_86 ?_
                  refine G.topi (nI (201 * nw + i)) (pk_sub (by omega)) ?_
                  refine G.iald 146 (by omega) g3 (201 * nw + i) (rfl) (by omega) (by omega) dX8_rise_87 ?_
                  refine G.iload 4 rfl dX8_rise_88 ?_
                  refine G.icmp_ne 161 dX8_rise_90 rfl (fun c90 => ?_) (fun c90 => ?_)
                  · skip
                    rw [q1] at c72 c90
                    exact stop (by rw [hx]; simp only [gk, decide_eq_false c72, decide_eq_false c90, Bool.false_and, Bool.and_false, Bool.or_self])
                  · skip
                    refine G.aload_n 0 rfl rfl dX8_rise_93 ?_
                    refine G.get 132 (by omega) g0 rfl twX8 17 (by decide) tb_621 rfl rfl dX8_rise_94 ?_
                    refine G.iload 7 rfl dX8_rise_97 ?_
                    refine G.iconst (v := nI 1) dX8_rise_99 (by decide +kernel) ?_
                    refine G.isub dX8_rise_100 ?_
                    refine G.topi (nI (201 * nw + i)) (pk_sub (by omega)) ?_
                    refine G.iald 147 (by omega) g4 (201 * nw + i) (rfl) (by omega) (by omega) dX8_rise_101 ?_
                    refine G.iload 5 rfl dX8_rise_102 ?_
                    refine G.icmp_le 161 dX8_rise_104 rfl (fun c104 => ?_) (fun c104 => ?_)
                    · skip
                      rw [q1] at c72 c90
                      rw [q2] at c104
                      exact stop (by rw [hx]; simp only [gk, decide_eq_false c72, decide_eq_false (Int32.not_lt.mpr c104), Bool.and_false, Bool.or_self])
                    · skip
                      rw [q1] at c72 c90
                      rw [q2] at c104
                      exact shift (by rw [hx]; simp only [gk, decide_eq_true c90, decide_eq_true (Int32.not_le.mp c104), bN_n0 c76, Bool.and_self, Bool.or_true])
        exact loop kk zw Ta Ya Va (Nat.le_refl _) f3 f4 f5 (fun _ _ => rfl) (fun k q1 q2 => by omega) (fun k q1 q2 => by omega) (fun _ _ => ⟨rfl, rfl, rfl⟩) hf
  refine outer (L.length - 1) 1 w T Y V (Nat.le_refl _) (by omega) e3 e4 e5 ?_ (fun j _ hj => sg_get e9 hj) (fun _ _ => ⟨rfl, rfl, rfl⟩) (fun _ _ => rfl)
  rw [srt_one, ← sg_take, ← e9]
theorem c_X8_worth {I : Nat → Int32} {f : Nat} {nw : Int32} (h0 : w 132 = .inr (8, xF ad n on jb fl io op ot ok nw fa)) (hT : xTab t w I) (hf6 : f ≤ 6) (hN : 153 ≤ N) (v : Int64) (c : Int32) :
    K l t yX8_worth cX8_worth 6 (some .long) (rD 0) N ad w [.ref (ad 132), .int (nI f), .long v, .long (c.toInt64)]
      (fun res w' => res = some (.long (fres I f v c)) ∧ w' 132 = .inr (8, xF ad n on jb fl io op ot ok nw (rfail f v c)) ∧ ∀ i, i ≠ 132 → w' i = w i) := by
  obtain ⟨tf, t1, t2⟩ := hT
  refine K.of (own := RX8) (lv := [(0, .ref (ad 132)), (1, .int (nI f)), (2, .long v), (4, .long c.toInt64)]) (by decide +kernel) rfl (Nat.le_of_ble_eq_true rfl) rfl (fun P post hret => ?_)
  refine G.aload_n 0 rfl rfl dX8_worth_0 ?_
  refine G.bipush (v := -4) dX8_worth_1 (by decide +kernel) ?_
  refine G.put 132 (by omega) h0 rfl twX8 29 (by decide) tyX8 tyX8_ok nmX8 tb_633 rfl rfl (tyX8_ok 29 (by decide)) rfl rfl (Nat.le_of_ble_eq_true rfl) dX8_worth_3 (fun gw1 gh2 gf3 => ?_)
  refine G.iload_n 1 rfl rfl dX8_worth_6 ?_
  have hx := gh2
  have hfr : ∀ i, i ≠ 132 → gw1 i = w i := fun i hi => gf3 i (by omega)
  rcases (show f = 0 ∨ f = 1 ∨ f = 2 ∨ f = 3 ∨ f = 4 ∨ f = 5 ∨ f = 6 by omega) with rfl | rfl | rfl | rfl | rfl | rfl | rfl
  · skip
    refine G.tableIn (off := 37) 44 dX8_worth_7 (by decide +kernel) (by decide +kernel) (by decide +kernel) rfl ?_
    refine G.lload_n 2 rfl rfl dX8_worth_44 ?_
    refine G.lload 3 rfl dX8_worth_45 ?_
    refine G.ladd dX8_worth_47 ?_
    refine G.lret rfl rfl rfl dX8_worth_48 ?_
    exact hret _ _ ⟨rfl, hx, hfr⟩
  · skip
    refine G.tableIn (off := 42) 49 dX8_worth_7 (by decide +kernel) (by decide +kernel) (by decide +kernel) rfl ?_
    refine G.lload_n 2 rfl rfl dX8_worth_49 ?_
    refine G.lload 3 rfl dX8_worth_50 ?_
    refine G.lmul dX8_worth_52 ?_
    refine G.lret rfl rfl rfl dX8_worth_53 ?_
    exact hret _ _ ⟨rfl, hx, hfr⟩
  · skip
    refine G.tableIn (off := 47) 54 dX8_worth_7 (by decide +kernel) (by decide +kernel) (by decide +kernel) rfl ?_
    refine G.lload 3 rfl dX8_worth_54 ?_
    refine G.lconst (v := 0) dX8_worth_56 (by decide +kernel) ?_
    refine G.lcmp dX8_worth_57 ?_
    refine G.if_ne 68 dX8_worth_58 rfl (fun c58 => ?_) (fun c58 => ?_)
    · skip
      have zc : ¬ c = 0 := fun q => c58 (lgc_eq.mpr (by rw [q]; rfl))
      refine G.iload_n 1 rfl rfl dX8_worth_68 ?_
      refine G.iconst (v := nI 2) dX8_worth_69 (by decide +kernel) ?_
      refine G.ncmp_ne 80 dX8_worth_70 rfl (by omega) (by omega) (fun c70 => ?_) (fun c70 => ?_)
      · skip
        exact absurd rfl c70
      · skip
        refine G.lload_n 2 rfl rfl dX8_worth_73 ?_
        refine G.lload 3 rfl dX8_worth_74 ?_
        refine G.ldiv dX8_worth_76 (i64_ne0 zc) ?_
        refine G.goto 84 dX8_worth_77 rfl ?_
        refine G.lret rfl rfl rfl dX8_worth_84 ?_
        have hx2 := gh2
        have zr : rfail 2 v c = -4 := rfail_n (by unfold ffail; rw [if_neg (fun q => zc q.2), if_neg (fun q => absurd q.1 (by decide))])
        exact hret _ _ ⟨by simp [fres, zc], by rw [zr]; exact hx, hfr⟩
    · skip
      have zc : c = 0 := Classical.byContradiction (fun q => i64_ne0 q (lgc_eq.mp c58))
      refine G.aload_n 0 rfl rfl dX8_worth_61 ?_
      refine G.iconst (v := nI 0) dX8_worth_62 (by decide +kernel) ?_
      refine G.put 132 (by omega) gh2 rfl twX8 29 (by decide) tyX8 tyX8_ok nmX8 tb_633 rfl rfl (tyX8_ok 29 (by decide)) rfl rfl (Nat.le_of_ble_eq_true rfl) dX8_worth_63 (fun gw4 gh5 gf6 => ?_)
      refine G.lconst (v := 0) dX8_worth_66 (by decide +kernel) ?_
      refine G.lret rfl rfl rfl dX8_worth_67 ?_
      have hx2 := gh5
      have hfr2 : ∀ i, i ≠ 132 → gw4 i = w i := fun i hi => (gf6 i (by omega)).trans (gf3 i (by omega))
      have zr : rfail 2 v c = 0 := rfail_s (by unfold ffail; rw [if_pos ⟨by decide, zc⟩]) (by decide)
      exact hret _ _ ⟨by simp [fres, zc], by rw [zr]; exact hx2, hfr2⟩
  · skip
    refine G.tableIn (off := 47) 54 dX8_worth_7 (by decide +kernel) (by decide +kernel) (by decide +kernel) rfl ?_
    refine G.lload 3 rfl dX8_worth_54 ?_
    refine G.lconst (v := 0) dX8_worth_56 (by decide +kernel) ?_
    refine G.lcmp dX8_worth_57 ?_
    refine G.if_ne 68 dX8_worth_58 rfl (fun c58 => ?_) (fun c58 => ?_)
    · skip
      have zc : ¬ c = 0 := fun q => c58 (lgc_eq.mpr (by rw [q]; rfl))
      refine G.iload_n 1 rfl rfl dX8_worth_68 ?_
      refine G.iconst (v := nI 2) dX8_worth_69 (by decide +kernel) ?_
      refine G.ncmp_ne 80 dX8_worth_70 rfl (by omega) (by omega) (fun c70 => ?_) (fun c70 => ?_)
      · skip
        refine G.lload_n 2 rfl rfl dX8_worth_80 ?_
        refine G.lload 3 rfl dX8_worth_81 ?_
        refine G.lrem dX8_worth_83 (i64_ne0 zc) ?_
        refine G.lret rfl rfl rfl dX8_worth_84 ?_
        have hx2 := gh2
        have zr : rfail 3 v c = -4 := rfail_n (by unfold ffail; rw [if_neg (fun q => zc q.2), if_neg (fun q => absurd q.1 (by decide))])
        exact hret _ _ ⟨by simp [fres, zc], by rw [zr]; exact hx, hfr⟩
      · skip
        exact absurd c70 (by decide)
    · skip
      have zc : c = 0 := Classical.byContradiction (fun q => i64_ne0 q (lgc_eq.mp c58))
      refine G.aload_n 0 rfl rfl dX8_worth_61 ?_
      refine G.iconst (v := nI 0) dX8_worth_62 (by decide +kernel) ?_
      refine G.put 132 (by omega) gh2 rfl twX8 29 (by decide) tyX8 tyX8_ok nmX8 tb_633 rfl rfl (tyX8_ok 29 (by decide)) rfl rfl (Nat.le_of_ble_eq_true rfl) dX8_worth_63 (fun gw7 gh8 gf9 => ?_)
      refine G.lconst (v := 0) dX8_worth_66 (by decide +kernel) ?_
      refine G.lret rfl rfl rfl dX8_worth_67 ?_
      have hx2 := gh8
      have hfr2 : ∀ i, i ≠ 132 → gw7 i = w i := fun i hi => (gf9 i (by omega)).trans (gf3 i (by omega))
      have zr : rfail 3 v c = 0 := rfail_s (by unfold ffail; rw [if_pos ⟨by decide, zc⟩]) (by decide)
      exact hret _ _ ⟨by simp [fres, zc], by rw [zr]; exact hx2, hfr2⟩
  · skip
    refine G.tableIn (off := 78) 85 dX8_worth_7 (by decide +kernel) (by decide +kernel) (by decide +kernel) rfl ?_
    have bad : inT v = false → G l t (rD 0) P cX8_worth 6 RX8 (some .long) post 0 0 N ad 0 0 99 [(0, .ref (ad 132)), (1, .int (nI 4)), (2, .long v), (4, .long (c.toInt64))] [] gw1 := by
      intro zb
      refine G.pick [0, 1, 2, 3] [(0, .ref (ad 132)), (1, .int (nI 4)), (2, .long v), (4, .long c.toInt64)] rfl ?_
      refine G.aload_n 0 rfl rfl dX8_worth_99 ?_
      refine G.iconst (v := nI 1) dX8_worth_100 (by decide +kernel) ?_
      refine G.put 132 (by omega) gh2 rfl twX8 29 (by decide) tyX8 tyX8_ok nmX8 tb_633 rfl rfl (tyX8_ok 29 (by decide)) rfl rfl (Nat.le_of_ble_eq_true rfl) dX8_worth_101 (fun gw10 gh11 gf12 => ?_)
      refine G.lconst (v := 0) dX8_worth_104 (by decide +kernel) ?_
      refine G.lret rfl rfl rfl dX8_worth_105 ?_
      have hx2 := gh11
      have hfr2 : ∀ i, i ≠ 132 → gw10 i = w i := fun i hi => (gf12 i (by omega)).trans (gf3 i (by omega))
      have zr : rfail 4 v c = 1 := rfail_s (by unfold ffail; rw [if_neg (fun q => absurd q.1 (by decide)), if_pos ⟨rfl, zb⟩]) (by decide)
      exact hret _ _ ⟨by simp [fres, zb], by rw [zr]; exact hx2, hfr2⟩
    refine G.lload_n 2 rfl rfl dX8_worth_85 ?_
    refine G.lconst (v := 0) dX8_worth_86 (by decide +kernel) ?_
    refine G.lcmp dX8_worth_87 ?_
    refine G.if_lt 99 dX8_worth_88 rfl (fun c88 => ?_) (fun c88 => ?_)
    · skip
      refine G.pick [0, 1, 2, 3] [(0, .ref (ad 132)), (1, .int (nI 4)), (2, .long v), (4, .long c.toInt64)] rfl ?_
      exact bad (by simp [inT, Int64.not_le.mpr (lgc_lt.mp c88)])
    · skip
      refine G.lload_n 2 rfl rfl dX8_worth_91 ?_
      refine G.ldc2_w dX8_worth_92 tb_805 ?_
      refine G.lcmp dX8_worth_95 ?_
      refine G.if_le 106 dX8_worth_96 rfl (fun c96 => ?_) (fun c96 => ?_)
      · skip
        have zb : inT v = true := by
          have z1 : v ≤ 7 := lgc_le.mp c96
          have z2 : 0 ≤ v := Int64.not_lt.mp (fun q => c88 (lgc_lt.mpr q))
          simp only [inT, Bool.and_eq_true, decide_eq_true_eq]
          refine ⟨z2, ?_⟩
          rw [Int64.lt_iff_toInt_lt]
          rw [Int64.le_iff_toInt_le] at z1
          have e7 : (7 : Int64).toInt = 7 := by decide
          have e8 : (8 : Int64).toInt = 8 := by decide
          omega
        obtain ⟨jj, hj, zj⟩ := inT_n zb
        refine G.aload_n 0 rfl rfl dX8_worth_106 ?_
        refine G.get 132 (by omega) gh2 rfl twX8 6 (by decide) tb_610 rfl rfl dX8_worth_107 ?_
        refine G.lload_n 2 rfl rfl dX8_worth_110 ?_
        refine G.l2i dX8_worth_111 ?_
        have gh13 := (gf3 138 (by omega)).trans t1
        refine G.iald 138 (by omega) gh13 jj (zj) (by omega) (by omega) dX8_worth_112 ?_
        refine G.topi (I jj) (t2 jj hj) ?_
        refine G.i2l dX8_worth_113 ?_
        refine G.lret rfl rfl rfl dX8_worth_114 ?_
        have zr : rfail 4 v c = -4 := rfail_n (by unfold ffail; rw [if_neg (fun q => absurd q.1 (by decide)), if_neg (fun q => by rw [zb] at q; cases q.2)])
        refine hret _ _ ⟨?_, by rw [zr]; exact hx, hfr⟩
        have e4 : fres I 4 v c = (I v.toInt32.toNatClampNeg).toInt64 := by simp [fres, zb]
        rw [e4, zj, nI_clamp (by omega)]
      · skip
        refine G.pick [0, 1, 2, 3] [(0, .ref (ad 132)), (1, .int (nI 4)), (2, .long v), (4, .long c.toInt64)] rfl ?_
        refine bad ?_
        have z1 : ¬ v ≤ 7 := fun q => c96 (lgc_le.mpr q)
        have z2 : ¬ v < 8 := by
          rw [Int64.lt_iff_toInt_lt]
          rw [Int64.le_iff_toInt_le] at z1
          have e7 : (7 : Int64).toInt = 7 := by decide
          have e8 : (8 : Int64).toInt = 8 := by decide
          omega
        simp [inT, z2]
  · skip
    refine G.tableIn (off := 108) 115 dX8_worth_7 (by decide +kernel) (by decide +kernel) (by decide +kernel) rfl ?_
    refine G.lload 3 rfl dX8_worth_115 ?_
    refine G.lload_n 2 rfl rfl dX8_worth_117 ?_
    refine G.lsub dX8_worth_118 ?_
    refine G.lret rfl rfl rfl dX8_worth_119 ?_
    exact hret _ _ ⟨rfl, hx, hfr⟩
  · skip
    refine G.tableOut 120 dX8_worth_7 (by decide +kernel) rfl ?_
    refine G.lload_n 2 rfl rfl dX8_worth_120 ?_
    refine G.l2i dX8_worth_121 ?_
    refine G.i2b dX8_worth_122 ?_
    refine G.i2l dX8_worth_123 ?_
    refine G.lret rfl rfl rfl dX8_worth_124 ?_
    exact hret _ _ ⟨rfl, hx, hfr⟩
end RefC

