/-! the reference: comparing -/
section RefI
variable {l : Launch} {t : TT} {N : Nat} {ad : Nat → Nat} {w : Nat → va_E} {n on jb fl io op ot ok nw fa : Int32} {jj : Nat} {Gl Tl : List RW} {M T Y Md Te Ye : Nat → Int32} {V Ve : Nat → Int64}
theorem cnt_le (L : List RW) (t y : Int32) (v : Int64) (any : Bool) : cnt L t y v any ≤ L.length := List.countP_le_length
theorem cnt_take {L : List RW} {i : Nat} (t y : Int32) (v : Int64) (any : Bool) (h : i < L.length) : cnt (L.take (i + 1)) t y v any = cnt (L.take i) t y v any + (if (decide ((L.getD i r0).1 = t) && (decide ((L.getD i r0).2.1 = y) && (any || decide ((L.getD i r0).2.2 = v)))) = true then 1 else 0) := count_take _ h
theorem c_X8_judgedOf (h0 : w 132 = .inr (8, xF ad n on jb fl io op ot ok nw fa)) (e2 : w 144 = .inl (t.2.1, 12, .inl M)) (e4 : w 146 = .inl (t.2.1, 2412, .inl T)) (e5 : w 147 = .inl (t.2.1, 2412, .inl Y)) (e6 : w 148 = .inl (t.2.2.1, 2412, .inr (.inl V))) (hm : M jj = nI Gl.length) (hG : Gl.length ≤ 200) (hr : ∀ k, k < Gl.length → Gl.getD k r0 = (T (201 * jj + k), Y (201 * jj + k), V (201 * jj + k))) (hj : jj < 12) (hN : 153 ≤ N) (tt yy : Int32) (v : Int64) (any : Bool) :
    K l t yX8_judgedOf cX8_judgedOf 9 (some .int) (rD 0) N ad w [.ref (ad 132), .int (nI jj), .int tt, .int yy, .long v, .int (nI (bN any))]
      (fun res w' => w = w' ∧ res = some (.int (nI (cnt Gl tt yy v any)))) := by
  refine K.of (own := RX8) (lv := [(0, .ref (ad 132)), (1, .int (nI jj)), (2, .int tt), (3, .int yy), (4, .long v), (6, .int (nI (bN any)))]) (by decide +kernel) rfl (Nat.le_of_ble_eq_true rfl) rfl (fun P post hret => ?_)
  refine G.iconst (v := nI 0) dX8_judgedOf_0 (by decide +kernel) ?_
  refine G.istore [(7, .int (nI 0)), (0, .ref (ad 132)), (1, .int (nI jj)), (2, .int tt), (3, .int yy), (4, .long v), (6, .int (nI (bN any)))] dX8_judgedOf_1 (by decide) rfl ?_
  refine G.sipush (v := nI 201) dX8_judgedOf_3 (by decide +kernel) ?_
  refine G.iload_n 2 rfl rfl dX8_judgedOf_6 ?_
  refine G.imul dX8_judgedOf_7 ?_
  refine G.topi (nI (201 * jj)) (pk_mul 201 jj) ?_
  refine G.istore [(8, .int (nI (201 * jj))), (7, .int (nI 0)), (0, .ref (ad 132)), (1, .int (nI jj)), (2, .int tt), (3, .int yy), (4, .long v), (6, .int (nI (bN any)))] dX8_judgedOf_8 (by decide) rfl ?_
  refine G.pick [2, 3, 4, 5, 6, 7, 1, 0] [(0, .ref (ad 132)), (1, .int (nI jj)), (2, .int tt), (3, .int yy), (4, .long v), (6, .int (nI (bN any))), (7, .int (nI 0)), (8, .int (nI (201 * jj)))] rfl ?_
  have loop : ∀ (mm ii cc : Nat), ii + mm = Gl.length → cc = cnt (Gl.take ii) tt yy v any → G l t (rD 0) P cX8_judgedOf 9 RX8 (some .int) post 0 0 N ad 0 0 10 [(0, .ref (ad 132)), (1, .int (nI jj)), (2, .int tt), (3, .int yy), (4, .long v), (6, .int (nI (bN any))), (7, .int (nI cc)), (8, .int (nI (201 * jj + ii)))] [] w := by
    intro mm
    induction mm with
    | zero =>
      intro ii cc hi hcc
      refine G.iload 7 rfl dX8_judgedOf_10 ?_
      refine G.sipush (v := nI 201) dX8_judgedOf_12 (by decide +kernel) ?_
      refine G.iload_n 1 rfl rfl dX8_judgedOf_15 ?_
      refine G.imul dX8_judgedOf_16 ?_
      refine G.topi (nI (201 * jj)) (pk_mul 201 jj) ?_
      refine G.aload_n 0 rfl rfl dX8_judgedOf_17 ?_
      refine G.get 132 (by omega) h0 rfl twX8 14 (by decide) tb_618 rfl rfl dX8_judgedOf_18 ?_
      refine G.iload_n 1 rfl rfl dX8_judgedOf_21 ?_
      refine G.iald 144 (by omega) e2 jj (rfl) (by omega) (by omega) dX8_judgedOf_22 ?_
      refine G.topi (nI Gl.length) (hm) ?_
      refine G.iadd dX8_judgedOf_23 ?_
      refine G.topi (nI ((201 * jj) + Gl.length)) (nI_add ((201 * jj)) Gl.length) ?_
      refine G.ncmp_ge 83 dX8_judgedOf_24 rfl (by omega) (by omega) (fun c24 => ?_) (fun c24 => ?_)
      · skip
        refine G.iload 6 rfl dX8_judgedOf_83 ?_
        refine G.iret rfl rfl rfl dX8_judgedOf_85 ?_
        exact hret _ _ ⟨rfl, by rw [hcc, List.take_of_length_le (show Gl.length ≤ ii by omega)]⟩
      · skip
        omega
    | succ mm ih =>
      intro ii cc hi hcc
      have hct := cnt_take tt yy v any (show ii < Gl.length by omega)
      have hle := cnt_le (Gl.take ii) tt yy v any
      rw [List.length_take] at hle
      rw [hr ii (by omega)] at hct
      dsimp only at hct
      have ad0 : (decide (T (201 * jj + ii) = tt) && (decide (Y (201 * jj + ii) = yy) && (any || decide (V (201 * jj + ii) = v)))) = false → G l t (rD 0) P cX8_judgedOf 9 RX8 (some .int) post 0 0 N ad 0 0 73 [(0, .ref (ad 132)), (1, .int (nI jj)), (2, .int tt), (3, .int yy), (4, .long v), (6, .int (nI (bN any))), (7, .int (nI cc)), (8, .int (nI (201 * jj + ii)))] [.int (nI cc)] w := by
        intro hb
        refine G.iconst (v := nI 0) dX8_judgedOf_73 (by decide +kernel) ?_
        refine G.iadd dX8_judgedOf_74 ?_
        refine G.topi (nI (cc + 0)) (nI_add cc 0) ?_
        refine G.istore [(7, .int (nI (cc + 0))), (0, .ref (ad 132)), (1, .int (nI jj)), (2, .int tt), (3, .int yy), (4, .long v), (6, .int (nI (bN any))), (8, .int (nI (201 * jj + ii)))] dX8_judgedOf_75 (by decide) rfl ?_
        refine G.iinc (v := nI ((201 * jj + ii) + 1)) [(8, .int (nI ((201 * jj + ii) + 1))), (7, .int (nI (cc + 0))), (0, .ref (ad 132)), (1, .int (nI jj)), (2, .int tt), (3, .int yy), (4, .long v), (6, .int (nI (bN any)))] 7 dX8_judgedOf_77 rfl (nI_add ((201 * jj + ii)) 1) (by decide) rfl ?_
        refine G.goto 10 dX8_judgedOf_80 rfl ?_
        refine G.pick [2, 3, 4, 5, 6, 7, 1, 0] [(0, .ref (ad 132)), (1, .int (nI jj)), (2, .int tt), (3, .int yy), (4, .long v), (6, .int (nI (bN any))), (7, .int (nI (cc + 0))), (8, .int (nI (201 * jj + ii + 1)))] rfl ?_
        exact ih (ii + 1) (cc + 0) (by omega) (by rw [hct, hb, hcc]; rfl)
      have ad1 : (decide (T (201 * jj + ii) = tt) && (decide (Y (201 * jj + ii) = yy) && (any || decide (V (201 * jj + ii) = v)))) = true → G l t (rD 0) P cX8_judgedOf 9 RX8 (some .int) post 0 0 N ad 0 0 69 [(0, .ref (ad 132)), (1, .int (nI jj)), (2, .int tt), (3, .int yy), (4, .long v), (6, .int (nI (bN any))), (7, .int (nI cc)), (8, .int (nI (201 * jj + ii)))] [.int (nI cc)] w := by
        intro hb
        refine G.iconst (v := nI 1) dX8_judgedOf_69 (by decide +kernel) ?_
        refine G.goto 74 dX8_judgedOf_70 rfl ?_
        refine G.iadd dX8_judgedOf_74 ?_
        refine G.topi (nI (cc + 1)) (nI_add cc 1) ?_
        refine G.istore [(7, .int (nI (cc + 1))), (0, .ref (ad 132)), (1, .int (nI jj)), (2, .int tt), (3, .int yy), (4, .long v), (6, .int (nI (bN any))), (8, .int (nI (201 * jj + ii)))] dX8_judgedOf_75 (by decide) rfl ?_
        refine G.iinc (v := nI ((201 * jj + ii) + 1)) [(8, .int (nI ((201 * jj + ii) + 1))), (7, .int (nI (cc + 1))), (0, .ref (ad 132)), (1, .int (nI jj)), (2, .int tt), (3, .int yy), (4, .long v), (6, .int (nI (bN any)))] 7 dX8_judgedOf_77 rfl (nI_add ((201 * jj + ii)) 1) (by decide) rfl ?_
        refine G.goto 10 dX8_judgedOf_80 rfl ?_
        refine G.pick [2, 3, 4, 5, 6, 7, 1, 0] [(0, .ref (ad 132)), (1, .int (nI jj)), (2, .int tt), (3, .int yy), (4, .long v), (6, .int (nI (bN any))), (7, .int (nI (cc + 1))), (8, .int (nI (201 * jj + ii + 1)))] rfl ?_
        exact ih (ii + 1) (cc + 1) (by omega) (by rw [hct, hb, hcc]; rfl)
      refine G.iload 7 rfl dX8_judgedOf_10 ?_
      refine G.sipush (v := nI 201) dX8_judgedOf_12 (by decide +kernel) ?_
      refine G.iload_n 1 rfl rfl dX8_judgedOf_15 ?_
      refine G.imul dX8_judgedOf_16 ?_
      refine G.topi (nI (201 * jj)) (pk_mul 201 jj) ?_
      refine G.aload_n 0 rfl rfl dX8_judgedOf_17 ?_
      refine G.get 132 (by omega) h0 rfl twX8 14 (by decide) tb_618 rfl rfl dX8_judgedOf_18 ?_
      refine G.iload_n 1 rfl rfl dX8_judgedOf_21 ?_
      refine G.iald 144 (by omega) e2 jj (rfl) (by omega) (by omega) dX8_judgedOf_22 ?_
      refine G.topi (nI Gl.length) (hm) ?_
      refine G.iadd dX8_judgedOf_23 ?_
      refine G.topi (nI ((201 * jj) + Gl.length)) (nI_add ((201 * jj)) Gl.length) ?_
      refine G.ncmp_ge 83 dX8_judgedOf_24 rfl (by omega) (by omega) (fun c24 => ?_) (fun c24 => ?_)
      · skip
        omega
      · skip
        refine G.iload 6 rfl dX8_judgedOf_27 ?_
        refine G.aload_n 0 rfl rfl dX8_judgedOf_29 ?_
        refine G.get 132 (by omega) h0 rfl twX8 16 (by decide) tb_620 rfl rfl dX8_judgedOf_30 ?_
        refine G.iload 7 rfl dX8_judgedOf_33 ?_
        refine G.iald 146 (by omega) e4 (201 * jj + ii) (rfl) (by omega) (by omega) dX8_judgedOf_35 ?_
        refine G.iload_n 2 rfl rfl dX8_judgedOf_36 ?_
        refine G.icmp_ne 73 dX8_judgedOf_37 rfl (fun c37 => ?_) (fun c37 => ?_)
        · skip
          exact ad0 (by rw [decide_eq_false c37]; rfl)
        · skip
          refine G.aload_n 0 rfl rfl dX8_judgedOf_40 ?_
          refine G.get 132 (by omega) h0 rfl twX8 17 (by decide) tb_621 rfl rfl dX8_judgedOf_41 ?_
          refine G.iload 7 rfl dX8_judgedOf_44 ?_
          refine G.iald 147 (by omega) e5 (201 * jj + ii) (rfl) (by omega) (by omega) dX8_judgedOf_46 ?_
          refine G.iload_n 3 rfl rfl dX8_judgedOf_47 ?_
          refine G.icmp_ne 73 dX8_judgedOf_48 rfl (fun c48 => ?_) (fun c48 => ?_)
          · skip
            exact ad0 (by rw [decide_eq_false c48, Bool.false_and, Bool.and_false])
          · skip
            refine G.iload 5 rfl dX8_judgedOf_51 ?_
            refine G.if_ne 69 dX8_judgedOf_53 rfl (fun c53 => ?_) (fun c53 => ?_)
            · skip
              exact ad1 (by rw [decide_eq_true c37, decide_eq_true c48, bN_n0 c53]; rfl)
            · skip
              refine G.aload_n 0 rfl rfl dX8_judgedOf_56 ?_
              refine G.get 132 (by omega) h0 rfl twX8 18 (by decide) tb_622 rfl rfl dX8_judgedOf_57 ?_
              refine G.iload 7 rfl dX8_judgedOf_60 ?_
              refine G.lald 148 (by omega) e6 (201 * jj + ii) (rfl) (by omega) (by omega) dX8_judgedOf_62 ?_
              refine G.lload 4 rfl dX8_judgedOf_63 ?_
              refine G.lcmp dX8_judgedOf_65 ?_
              refine G.if_ne 73 dX8_judgedOf_66 rfl (fun c66 => ?_) (fun c66 => ?_)
              · skip
                exact ad0 (by rw [decide_eq_true c37, decide_eq_true c48, bN_0 c53, decide_eq_false (fun q => c66 (lgc_eq.mpr q))]; rfl)
              · skip
                exact ad1 (by rw [decide_eq_true c37, decide_eq_true c48, decide_eq_true (lgc_eq.mp c66), Bool.or_true]; rfl)
  exact loop Gl.length 0 0 (by omega) rfl
theorem c_X8_toldOf (h0 : w 132 = .inr (8, xF ad n on jb fl io op ot ok nw fa)) (g2 : w 149 = .inl (t.2.1, 12, .inl Md)) (g4 : w 150 = .inl (t.2.1, 480, .inl Te)) (g5 : w 151 = .inl (t.2.1, 480, .inl Ye)) (g6 : w 152 = .inl (t.2.2.1, 480, .inr (.inl Ve))) (hmd : Md jj = nI Tl.length) (hT : Tl.length ≤ 40) (hs : ∀ k, k < Tl.length → Tl.getD k r0 = (Te (40 * jj + k), Ye (40 * jj + k), Ve (40 * jj + k))) (hj : jj < 12) (hN : 153 ≤ N) (tt yy : Int32) (v : Int64) (any : Bool) :
    K l t yX8_toldOf cX8_toldOf 9 (some .int) (rD 0) N ad w [.ref (ad 132), .int (nI jj), .int tt, .int yy, .long v, .int (nI (bN any))]
      (fun res w' => w = w' ∧ res = some (.int (nI (cnt Tl tt yy v any)))) := by
  refine K.of (own := RX8) (lv := [(0, .ref (ad 132)), (1, .int (nI jj)), (2, .int tt), (3, .int yy), (4, .long v), (6, .int (nI (bN any)))]) (by decide +kernel) rfl (Nat.le_of_ble_eq_true rfl) rfl (fun P post hret => ?_)
  refine G.iconst (v := nI 0) dX8_toldOf_0 (by decide +kernel) ?_
  refine G.istore [(7, .int (nI 0)), (0, .ref (ad 132)), (1, .int (nI jj)), (2, .int tt), (3, .int yy), (4, .long v), (6, .int (nI (bN any)))] dX8_toldOf_1 (by decide) rfl ?_
  refine G.bipush (v := nI 40) dX8_toldOf_3 (by decide +kernel) ?_
  refine G.iload_n 2 rfl rfl dX8_toldOf_5 ?_
  refine G.imul dX8_toldOf_6 ?_
  refine G.topi (nI (40 * jj)) (pk_mul 40 jj) ?_
  refine G.istore [(8, .int (nI (40 * jj))), (7, .int (nI 0)), (0, .ref (ad 132)), (1, .int (nI jj)), (2, .int tt), (3, .int yy), (4, .long v), (6, .int (nI (bN any)))] dX8_toldOf_7 (by decide) rfl ?_
  refine G.pick [2, 3, 4, 5, 6, 7, 1, 0] [(0, .ref (ad 132)), (1, .int (nI jj)), (2, .int tt), (3, .int yy), (4, .long v), (6, .int (nI (bN any))), (7, .int (nI 0)), (8, .int (nI (40 * jj)))] rfl ?_
  have loop : ∀ (mm ii cc : Nat), ii + mm = Tl.length → cc = cnt (Tl.take ii) tt yy v any → G l t (rD 0) P cX8_toldOf 9 RX8 (some .int) post 0 0 N ad 0 0 9 [(0, .ref (ad 132)), (1, .int (nI jj)), (2, .int tt), (3, .int yy), (4, .long v), (6, .int (nI (bN any))), (7, .int (nI cc)), (8, .int (nI (40 * jj + ii)))] [] w := by
    intro mm
    induction mm with
    | zero =>
      intro ii cc hi hcc
      refine G.iload 7 rfl dX8_toldOf_9 ?_
      refine G.bipush (v := nI 40) dX8_toldOf_11 (by decide +kernel) ?_
      refine G.iload_n 1 rfl rfl dX8_toldOf_13 ?_
      refine G.imul dX8_toldOf_14 ?_
      refine G.topi (nI (40 * jj)) (pk_mul 40 jj) ?_
      refine G.aload_n 0 rfl rfl dX8_toldOf_15 ?_
      refine G.get 132 (by omega) h0 rfl twX8 20 (by decide) tb_624 rfl rfl dX8_toldOf_16 ?_
      refine G.iload_n 1 rfl rfl dX8_toldOf_19 ?_
      refine G.iald 149 (by omega) g2 jj (rfl) (by omega) (by omega) dX8_toldOf_20 ?_
      refine G.topi (nI Tl.length) (hmd) ?_
      refine G.iadd dX8_toldOf_21 ?_
      refine G.topi (nI ((40 * jj) + Tl.length)) (nI_add ((40 * jj)) Tl.length) ?_
      refine G.ncmp_ge 81 dX8_toldOf_22 rfl (by omega) (by omega) (fun c22 => ?_) (fun c22 => ?_)
      · skip
        refine G.iload 6 rfl dX8_toldOf_81 ?_
        refine G.iret rfl rfl rfl dX8_toldOf_83 ?_
        exact hret _ _ ⟨rfl, by rw [hcc, List.take_of_length_le (show Tl.length ≤ ii by omega)]⟩
      · skip
        omega
    | succ mm ih =>
      intro ii cc hi hcc
      have hct := cnt_take tt yy v any (show ii < Tl.length by omega)
      have hle := cnt_le (Tl.take ii) tt yy v any
      rw [List.length_take] at hle
      rw [hs ii (by omega)] at hct
      dsimp only at hct
      have ad0 : (decide (Te (40 * jj + ii) = tt) && (decide (Ye (40 * jj + ii) = yy) && (any || decide (Ve (40 * jj + ii) = v)))) = false → G l t (rD 0) P cX8_toldOf 9 RX8 (some .int) post 0 0 N ad 0 0 71 [(0, .ref (ad 132)), (1, .int (nI jj)), (2, .int tt), (3, .int yy), (4, .long v), (6, .int (nI (bN any))), (7, .int (nI cc)), (8, .int (nI (40 * jj + ii)))] [.int (nI cc)] w := by
        intro hb
        refine G.iconst (v := nI 0) dX8_toldOf_71 (by decide +kernel) ?_
        refine G.iadd dX8_toldOf_72 ?_
        refine G.topi (nI (cc + 0)) (nI_add cc 0) ?_
        refine G.istore [(7, .int (nI (cc + 0))), (0, .ref (ad 132)), (1, .int (nI jj)), (2, .int tt), (3, .int yy), (4, .long v), (6, .int (nI (bN any))), (8, .int (nI (40 * jj + ii)))] dX8_toldOf_73 (by decide) rfl ?_
        refine G.iinc (v := nI ((40 * jj + ii) + 1)) [(8, .int (nI ((40 * jj + ii) + 1))), (7, .int (nI (cc + 0))), (0, .ref (ad 132)), (1, .int (nI jj)), (2, .int tt), (3, .int yy), (4, .long v), (6, .int (nI (bN any)))] 7 dX8_toldOf_75 rfl (nI_add ((40 * jj + ii)) 1) (by decide) rfl ?_
        refine G.goto 9 dX8_toldOf_78 rfl ?_
        refine G.pick [2, 3, 4, 5, 6, 7, 1, 0] [(0, .ref (ad 132)), (1, .int (nI jj)), (2, .int tt), (3, .int yy), (4, .long v), (6, .int (nI (bN any))), (7, .int (nI (cc + 0))), (8, .int (nI (40 * jj + ii + 1)))] rfl ?_
        exact ih (ii + 1) (cc + 0) (by omega) (by rw [hct, hb, hcc]; rfl)
      have ad1 : (decide (Te (40 * jj + ii) = tt) && (decide (Ye (40 * jj + ii) = yy) && (any || decide (Ve (40 * jj + ii) = v)))) = true → G l t (rD 0) P cX8_toldOf 9 RX8 (some .int) post 0 0 N ad 0 0 67 [(0, .ref (ad 132)), (1, .int (nI jj)), (2, .int tt), (3, .int yy), (4, .long v), (6, .int (nI (bN any))), (7, .int (nI cc)), (8, .int (nI (40 * jj + ii)))] [.int (nI cc)] w := by
        intro hb
        refine G.iconst (v := nI 1) dX8_toldOf_67 (by decide +kernel) ?_
        refine G.goto 72 dX8_toldOf_68 rfl ?_
        refine G.iadd dX8_toldOf_72 ?_
        refine G.topi (nI (cc + 1)) (nI_add cc 1) ?_
        refine G.istore [(7, .int (nI (cc + 1))), (0, .ref (ad 132)), (1, .int (nI jj)), (2, .int tt), (3, .int yy), (4, .long v), (6, .int (nI (bN any))), (8, .int (nI (40 * jj + ii)))] dX8_toldOf_73 (by decide) rfl ?_
        refine G.iinc (v := nI ((40 * jj + ii) + 1)) [(8, .int (nI ((40 * jj + ii) + 1))), (7, .int (nI (cc + 1))), (0, .ref (ad 132)), (1, .int (nI jj)), (2, .int tt), (3, .int yy), (4, .long v), (6, .int (nI (bN any)))] 7 dX8_toldOf_75 rfl (nI_add ((40 * jj + ii)) 1) (by decide) rfl ?_
        refine G.goto 9 dX8_toldOf_78 rfl ?_
        refine G.pick [2, 3, 4, 5, 6, 7, 1, 0] [(0, .ref (ad 132)), (1, .int (nI jj)), (2, .int tt), (3, .int yy), (4, .long v), (6, .int (nI (bN any))), (7, .int (nI (cc + 1))), (8, .int (nI (40 * jj + ii + 1)))] rfl ?_
        exact ih (ii + 1) (cc + 1) (by omega) (by rw [hct, hb, hcc]; rfl)
      refine G.iload 7 rfl dX8_toldOf_9 ?_
      refine G.bipush (v := nI 40) dX8_toldOf_11 (by decide +kernel) ?_
      refine G.iload_n 1 rfl rfl dX8_toldOf_13 ?_
      refine G.imul dX8_toldOf_14 ?_
      refine G.topi (nI (40 * jj)) (pk_mul 40 jj) ?_
      refine G.aload_n 0 rfl rfl dX8_toldOf_15 ?_
      refine G.get 132 (by omega) h0 rfl twX8 20 (by decide) tb_624 rfl rfl dX8_toldOf_16 ?_
      refine G.iload_n 1 rfl rfl dX8_toldOf_19 ?_
      refine G.iald 149 (by omega) g2 jj (rfl) (by omega) (by omega) dX8_toldOf_20 ?_
      refine G.topi (nI Tl.length) (hmd) ?_
      refine G.iadd dX8_toldOf_21 ?_
      refine G.topi (nI ((40 * jj) + Tl.length)) (nI_add ((40 * jj)) Tl.length) ?_
      refine G.ncmp_ge 81 dX8_toldOf_22 rfl (by omega) (by omega) (fun c22 => ?_) (fun c22 => ?_)
      · skip
        omega
      · skip
        refine G.iload 6 rfl dX8_toldOf_25 ?_
        refine G.aload_n 0 rfl rfl dX8_toldOf_27 ?_
        refine G.get 132 (by omega) h0 rfl twX8 21 (by decide) tb_625 rfl rfl dX8_toldOf_28 ?_
        refine G.iload 7 rfl dX8_toldOf_31 ?_
        refine G.iald 150 (by omega) g4 (40 * jj + ii) (rfl) (by omega) (by omega) dX8_toldOf_33 ?_
        refine G.iload_n 2 rfl rfl dX8_toldOf_34 ?_
        refine G.icmp_ne 71 dX8_toldOf_35 rfl (fun c35 => ?_) (fun c35 => ?_)
        · skip
          exact ad0 (by rw [decide_eq_false c35]; rfl)
        · skip
          refine G.aload_n 0 rfl rfl dX8_toldOf_38 ?_
          refine G.get 132 (by omega) h0 rfl twX8 22 (by decide) tb_626 rfl rfl dX8_toldOf_39 ?_
          refine G.iload 7 rfl dX8_toldOf_42 ?_
          refine G.iald 151 (by omega) g5 (40 * jj + ii) (rfl) (by omega) (by omega) dX8_toldOf_44 ?_
          refine G.iload_n 3 rfl rfl dX8_toldOf_45 ?_
          refine G.icmp_ne 71 dX8_toldOf_46 rfl (fun c46 => ?_) (fun c46 => ?_)
          · skip
            exact ad0 (by rw [decide_eq_false c46, Bool.false_and, Bool.and_false])
          · skip
            refine G.iload 5 rfl dX8_toldOf_49 ?_
            refine G.if_ne 67 dX8_toldOf_51 rfl (fun c51 => ?_) (fun c51 => ?_)
            · skip
              exact ad1 (by rw [decide_eq_true c35, decide_eq_true c46, bN_n0 c51]; rfl)
            · skip
              refine G.aload_n 0 rfl rfl dX8_toldOf_54 ?_
              refine G.get 132 (by omega) h0 rfl twX8 23 (by decide) tb_627 rfl rfl dX8_toldOf_55 ?_
              refine G.iload 7 rfl dX8_toldOf_58 ?_
              refine G.lald 152 (by omega) g6 (40 * jj + ii) (rfl) (by omega) (by omega) dX8_toldOf_60 ?_
              refine G.lload 4 rfl dX8_toldOf_61 ?_
              refine G.lcmp dX8_toldOf_63 ?_
              refine G.if_ne 71 dX8_toldOf_64 rfl (fun c64 => ?_) (fun c64 => ?_)
              · skip
                exact ad0 (by rw [decide_eq_true c35, decide_eq_true c46, bN_0 c51, decide_eq_false (fun q => c64 (lgc_eq.mpr q))]; rfl)
              · skip
                exact ad1 (by rw [decide_eq_true c35, decide_eq_true c46, decide_eq_true (lgc_eq.mp c64), Bool.or_true]; rfl)
  exact loop Tl.length 0 0 (by omega) rfl
theorem c_X8_byOrder (h0 : w 132 = .inr (8, xF ad n on jb fl 0 op ot ok nw fa)) (e2 : w 144 = .inl (t.2.1, 12, .inl M)) (e4 : w 146 = .inl (t.2.1, 2412, .inl T)) (e5 : w 147 = .inl (t.2.1, 2412, .inl Y)) (e6 : w 148 = .inl (t.2.2.1, 2412, .inr (.inl V))) (hm : M jj = nI Gl.length) (hG : Gl.length ≤ 200) (hr : ∀ k, k < Gl.length → Gl.getD k r0 = (T (201 * jj + k), Y (201 * jj + k), V (201 * jj + k))) (g2 : w 149 = .inl (t.2.1, 12, .inl Md)) (g4 : w 150 = .inl (t.2.1, 480, .inl Te)) (g5 : w 151 = .inl (t.2.1, 480, .inl Ye)) (g6 : w 152 = .inl (t.2.2.1, 480, .inr (.inl Ve))) (hmd : Md jj = nI Tl.length) (hT : Tl.length ≤ 40) (hs : ∀ k, k < Tl.length → Tl.getD k r0 = (Te (40 * jj + k), Ye (40 * jj + k), Ve (40 * jj + k))) (hj : jj < 12) (hN : 153 ≤ N) :
    K l t yX8_byOrder cX8_byOrder 5 (some .int) (rD 1) N ad w [.ref (ad 132), .int (nI jj)]
      (fun res w' => res = some (.int (nI (cO Gl Tl).1)) ∧ (∃ io' op' ot' ok', w' 132 = .inr (8, xF ad n on jb fl io' op' ot' ok' nw fa) ∧ xDf true (cO Gl Tl).2 io' op' ot' ok') ∧ ∀ i, i ≠ 132 → w' i = w i) := by
  refine K.of (own := RX8) (lv := [(0, .ref (ad 132)), (1, .int (nI jj))]) (by decide +kernel) rfl (Nat.le_of_ble_eq_true rfl) rfl (fun P post hret => ?_)
  refine G.sipush (v := nI 201) dX8_byOrder_0 (by decide +kernel) ?_
  refine G.iload_n 1 rfl rfl dX8_byOrder_3 ?_
  refine G.imul dX8_byOrder_4 ?_
  refine G.topi (nI (201 * jj)) (pk_mul 201 jj) ?_
  refine G.istore_n [(2, .int (nI (201 * jj))), (0, .ref (ad 132)), (1, .int (nI jj))] dX8_byOrder_5 rfl (by decide) rfl ?_
  refine G.bipush (v := nI 40) dX8_byOrder_6 (by decide +kernel) ?_
  refine G.iload_n 2 rfl rfl dX8_byOrder_8 ?_
  refine G.imul dX8_byOrder_9 ?_
  refine G.topi (nI (40 * jj)) (pk_mul 40 jj) ?_
  refine G.istore_n [(3, .int (nI (40 * jj))), (2, .int (nI (201 * jj))), (0, .ref (ad 132)), (1, .int (nI jj))] dX8_byOrder_10 rfl (by decide) rfl ?_
  refine G.iconst (v := nI 0) dX8_byOrder_11 (by decide +kernel) ?_
  refine G.istore [(4, .int (nI 0)), (3, .int (nI (40 * jj))), (2, .int (nI (201 * jj))), (0, .ref (ad 132)), (1, .int (nI jj))] dX8_byOrder_12 (by decide) rfl ?_
  refine G.pick [3, 4, 2, 1, 0] [(0, .ref (ad 132)), (1, .int (nI jj)), (2, .int (nI (201 * jj))), (3, .int (nI (40 * jj))), (4, .int (nI 0))] rfl ?_
  have loop : ∀ (mm ii : Nat), ii + mm = Gl.length + Tl.length → (∀ k, k < ii → k < Gl.length ∧ k < Tl.length ∧ Gl.getD k r0 = Tl.getD k r0) → G l t (rD 1) P cX8_byOrder 5 RX8 (some .int) post 0 0 N ad 0 0 14 [(0, .ref (ad 132)), (1, .int (nI jj)), (2, .int (nI (201 * jj))), (3, .int (nI (40 * jj))), (4, .int (nI ii))] [] w := by
    intro mm
    induction mm with
    | zero =>
      intro ii hi heq
      have hz : Gl.length = 0 ∧ Tl.length = 0 := by
        rcases Nat.eq_zero_or_pos ii with q | q
        · omega
        · have := heq (ii - 1) (by omega); omega
      refine G.iload 4 rfl dX8_byOrder_14 ?_
      refine G.aload_n 0 rfl rfl dX8_byOrder_16 ?_
      refine G.get 132 (by omega) h0 rfl twX8 14 (by decide) tb_618 rfl rfl dX8_byOrder_17 ?_
      refine G.iload_n 1 rfl rfl dX8_byOrder_20 ?_
      refine G.iald 144 (by omega) e2 jj (rfl) (by omega) (by omega) dX8_byOrder_21 ?_
      refine G.topi (nI Gl.length) (hm) ?_
      refine G.ncmp_lt 36 dX8_byOrder_22 rfl (by omega) (by omega) (fun c22 => ?_) (fun c22 => ?_)
      · skip
        omega
      · skip
        refine G.iload 4 rfl dX8_byOrder_25 ?_
        refine G.aload_n 0 rfl rfl dX8_byOrder_27 ?_
        refine G.get 132 (by omega) h0 rfl twX8 20 (by decide) tb_624 rfl rfl dX8_byOrder_28 ?_
        refine G.iload_n 1 rfl rfl dX8_byOrder_31 ?_
        refine G.iald 149 (by omega) g2 jj (rfl) (by omega) (by omega) dX8_byOrder_32 ?_
        refine G.topi (nI Tl.length) (hmd) ?_
        refine G.ncmp_ge 206 dX8_byOrder_33 rfl (by omega) (by omega) (fun c33 => ?_) (fun c33 => ?_)
        · skip
          refine G.iconst (v := nI 0) dX8_byOrder_206 (by decide +kernel) ?_
          refine G.iret rfl rfl rfl dX8_byOrder_207 ?_
          have hfd : fd Gl Tl = 0 := fd_is 0 Gl Tl (fun k hk => by omega) (fun q => by omega)
          exact hret _ _ ⟨by simp only [cO, hfd]; rw [if_neg (by omega), if_neg (by omega)], ⟨0, op, ot, ok, h0, by simp only [cO, hfd]; rw [if_neg (by omega), if_neg (by omega)]; exact fun _ => ⟨fun _ => rfl, fun x hx => (by cases hx)⟩⟩, fun _ _ => rfl⟩
        · skip
          omega
    | succ mm ih =>
      intro ii hi heq
      have big : ii < 201 := by
        rcases Nat.eq_zero_or_pos ii with q | q
        · omega
        · have := heq (ii - 1) (by omega); omega
      have cont : (ii < Gl.length ∨ ii < Tl.length) → G l t (rD 1) P cX8_byOrder 5 RX8 (some .int) post 0 0 N ad 0 0 36 [(0, .ref (ad 132)), (1, .int (nI jj)), (2, .int (nI (201 * jj))), (3, .int (nI (40 * jj))), (4, .int (nI ii))] [] w := by
        intro hor
        refine G.iload 4 rfl dX8_byOrder_36 ?_
        refine G.aload_n 0 rfl rfl dX8_byOrder_38 ?_
        refine G.get 132 (by omega) h0 rfl twX8 20 (by decide) tb_624 rfl rfl dX8_byOrder_39 ?_
        refine G.iload_n 1 rfl rfl dX8_byOrder_42 ?_
        refine G.iald 149 (by omega) g2 jj (rfl) (by omega) (by omega) dX8_byOrder_43 ?_
        refine G.topi (nI Tl.length) (hmd) ?_
        refine G.ncmp_lt 73 dX8_byOrder_44 rfl (by omega) (by omega) (fun c44 => ?_) (fun c44 => ?_)
        · skip
          refine G.iload 4 rfl dX8_byOrder_73 ?_
          refine G.aload_n 0 rfl rfl dX8_byOrder_75 ?_
          refine G.get 132 (by omega) h0 rfl twX8 14 (by decide) tb_618 rfl rfl dX8_byOrder_76 ?_
          refine G.iload_n 1 rfl rfl dX8_byOrder_79 ?_
          refine G.iald 144 (by omega) e2 jj (rfl) (by omega) (by omega) dX8_byOrder_80 ?_
          refine G.topi (nI Gl.length) (hm) ?_
          refine G.ncmp_lt 110 dX8_byOrder_81 rfl (by omega) (by omega) (fun c81 => ?_) (fun c81 => ?_)
          · skip
            have xg := hr ii (by omega)
            have xt := hs ii (by omega)
            have dif : ¬ (Gl.getD ii r0 = Tl.getD ii r0) → G l t (rD 1) P cX8_byOrder 5 RX8 (some .int) post 0 0 N ad 0 0 174 [(0, .ref (ad 132)), (1, .int (nI jj)), (2, .int (nI (201 * jj))), (3, .int (nI (40 * jj))), (4, .int (nI ii))] [] w := by
              intro hne
              refine G.aload_n 0 rfl rfl dX8_byOrder_174 ?_
              refine G.iconst (v := nI 3) dX8_byOrder_175 (by decide +kernel) ?_
              refine G.iload 4 rfl dX8_byOrder_176 ?_
              refine G.aload_n 0 rfl rfl dX8_byOrder_178 ?_
              refine G.get 132 (by omega) h0 rfl twX8 16 (by decide) tb_620 rfl rfl dX8_byOrder_179 ?_
              refine G.iload_n 2 rfl rfl dX8_byOrder_182 ?_
              refine G.iload 4 rfl dX8_byOrder_183 ?_
              refine G.iadd dX8_byOrder_185 ?_
              refine G.topi (nI ((201 * jj) + ii)) (nI_add ((201 * jj)) ii) ?_
              refine G.iald 146 (by omega) e4 ((201 * jj) + ii) (rfl) (by omega) (by omega) dX8_byOrder_186 ?_
              refine G.aload_n 0 rfl rfl dX8_byOrder_187 ?_
              refine G.get 132 (by omega) h0 rfl twX8 17 (by decide) tb_621 rfl rfl dX8_byOrder_188 ?_
              refine G.iload_n 2 rfl rfl dX8_byOrder_191 ?_
              refine G.iload 4 rfl dX8_byOrder_192 ?_
              refine G.iadd dX8_byOrder_194 ?_
              refine G.topi (nI ((201 * jj) + ii)) (nI_add ((201 * jj)) ii) ?_
              refine G.iald 147 (by omega) e5 ((201 * jj) + ii) (rfl) (by omega) (by omega) dX8_byOrder_195 ?_
              refine G.callV (n := 4) 132 (c_X8_other h0 hN 3 (nI ii) (T (201 * jj + ii)) (Y (201 * jj + ii))) rfl (by omega) h0 rfl tb_839 tb_841 tb_28 tb_42 tb_842 (by decide +kernel) rfl ⟨(Nat.le_of_ble_eq_true rfl), (Nat.le_of_ble_eq_true rfl)⟩ ⟨rfl, rfl⟩ (Nat.le_of_ble_eq_true rfl) ⟨Nat.zero_le _, Nat.zero_le _⟩ dX8_byOrder_196 (fun gr1 zw2 hp => ?_)
              obtain ⟨rfl, k0, hf⟩ := hp
              refine G.iret rfl rfl rfl dX8_byOrder_199 ?_
              have hfd : fd Gl Tl = ii := fd_is ii Gl Tl heq (fun q => hne q.2.2)
              have ec : cO Gl Tl = (3, some (nI ii, T (201 * jj + ii), Y (201 * jj + ii))) := by
                simp only [cO, hfd]; rw [if_pos (by omega), if_pos (by omega), xg]
              rw [ec] at hret
              exact hret _ _ ⟨rfl, ⟨1, _, _, _, k0, fun _ => ⟨fun q => (by cases q), fun x hx => ⟨rfl, Option.some.inj hx⟩⟩⟩, hf⟩
            refine G.aload_n 0 rfl rfl dX8_byOrder_110 ?_
            refine G.get 132 (by omega) h0 rfl twX8 16 (by decide) tb_620 rfl rfl dX8_byOrder_111 ?_
            refine G.iload_n 2 rfl rfl dX8_byOrder_114 ?_
            refine G.iload 4 rfl dX8_byOrder_115 ?_
            refine G.iadd dX8_byOrder_117 ?_
            refine G.topi (nI ((201 * jj) + ii)) (nI_add ((201 * jj)) ii) ?_
            refine G.iald 146 (by omega) e4 ((201 * jj) + ii) (rfl) (by omega) (by omega) dX8_byOrder_118 ?_
            refine G.aload_n 0 rfl rfl dX8_byOrder_119 ?_
            refine G.get 132 (by omega) h0 rfl twX8 21 (by decide) tb_625 rfl rfl dX8_byOrder_120 ?_
            refine G.iload_n 3 rfl rfl dX8_byOrder_123 ?_
            refine G.iload 4 rfl dX8_byOrder_124 ?_
            refine G.iadd dX8_byOrder_126 ?_
            refine G.topi (nI ((40 * jj) + ii)) (nI_add ((40 * jj)) ii) ?_
            refine G.iald 150 (by omega) g4 ((40 * jj) + ii) (rfl) (by omega) (by omega) dX8_byOrder_127 ?_
            refine G.icmp_ne 174 dX8_byOrder_128 rfl (fun c128 => ?_) (fun c128 => ?_)
            · skip
              exact dif (by rw [xg, xt]; exact fun q => c128 (congrArg (fun z => z.1) q))
            · skip
              refine G.aload_n 0 rfl rfl dX8_byOrder_131 ?_
              refine G.get 132 (by omega) h0 rfl twX8 17 (by decide) tb_621 rfl rfl dX8_byOrder_132 ?_
              refine G.iload_n 2 rfl rfl dX8_byOrder_135 ?_
              refine G.iload 4 rfl dX8_byOrder_136 ?_
              refine G.iadd dX8_byOrder_138 ?_
              refine G.topi (nI ((201 * jj) + ii)) (nI_add ((201 * jj)) ii) ?_
              refine G.iald 147 (by omega) e5 ((201 * jj) + ii) (rfl) (by omega) (by omega) dX8_byOrder_139 ?_
              refine G.aload_n 0 rfl rfl dX8_byOrder_140 ?_
              refine G.get 132 (by omega) h0 rfl twX8 22 (by decide) tb_626 rfl rfl dX8_byOrder_141 ?_
              refine G.iload_n 3 rfl rfl dX8_byOrder_144 ?_
              refine G.iload 4 rfl dX8_byOrder_145 ?_
              refine G.iadd dX8_byOrder_147 ?_
              refine G.topi (nI ((40 * jj) + ii)) (nI_add ((40 * jj)) ii) ?_
              refine G.iald 151 (by omega) g5 ((40 * jj) + ii) (rfl) (by omega) (by omega) dX8_byOrder_148 ?_
              refine G.icmp_ne 174 dX8_byOrder_149 rfl (fun c149 => ?_) (fun c149 => ?_)
              · skip
                exact dif (by rw [xg, xt]; exact fun q => c149 (congrArg (fun z => z.2.1) q))
              · skip
                refine G.aload_n 0 rfl rfl dX8_byOrder_152 ?_
                refine G.get 132 (by omega) h0 rfl twX8 18 (by decide) tb_622 rfl rfl dX8_byOrder_153 ?_
                refine G.iload_n 2 rfl rfl dX8_byOrder_156 ?_
                refine G.iload 4 rfl dX8_byOrder_157 ?_
                refine G.iadd dX8_byOrder_159 ?_
                refine G.topi (nI ((201 * jj) + ii)) (nI_add ((201 * jj)) ii) ?_
                refine G.lald 148 (by omega) e6 ((201 * jj) + ii) (rfl) (by omega) (by omega) dX8_byOrder_160 ?_
                refine G.aload_n 0 rfl rfl dX8_byOrder_161 ?_
                refine G.get 132 (by omega) h0 rfl twX8 23 (by decide) tb_627 rfl rfl dX8_byOrder_162 ?_
                refine G.iload_n 3 rfl rfl dX8_byOrder_165 ?_
                refine G.iload 4 rfl dX8_byOrder_166 ?_
                refine G.iadd dX8_byOrder_168 ?_
                refine G.topi (nI ((40 * jj) + ii)) (nI_add ((40 * jj)) ii) ?_
                refine G.lald 152 (by omega) g6 ((40 * jj) + ii) (rfl) (by omega) (by omega) dX8_byOrder_169 ?_
                refine G.lcmp dX8_byOrder_170 ?_
                refine G.if_eq 200 dX8_byOrder_171 rfl (fun c171 => ?_) (fun c171 => ?_)
                · skip
                  refine G.iinc (v := nI (ii + 1)) [(4, .int (nI (ii + 1))), (0, .ref (ad 132)), (1, .int (nI jj)), (2, .int (nI (201 * jj))), (3, .int (nI (40 * jj)))] 4 dX8_byOrder_200 rfl (nI_add ii 1) (by decide) rfl ?_
                  refine G.goto 14 dX8_byOrder_203 rfl ?_
                  refine G.pick [1, 2, 3, 4, 0] [(0, .ref (ad 132)), (1, .int (nI jj)), (2, .int (nI (201 * jj))), (3, .int (nI (40 * jj))), (4, .int (nI (ii + 1)))] rfl ?_
                  refine ih (ii + 1) (by omega) (fun k hk => ?_)
                  by_cases q : k = ii
                  · subst q
                    refine ⟨by omega, by omega, ?_⟩
                    rw [xg, xt, c128, c149, lgc_eq.mp c171]
                  · exact heq k (by omega)
                · skip
                  exact dif (by rw [xg, xt]; exact fun q => c171 (lgc_eq.mpr (congrArg (fun z => z.2.2) q)))
          · skip
            refine G.aload_n 0 rfl rfl dX8_byOrder_84 ?_
            refine G.iconst (v := nI 2) dX8_byOrder_85 (by decide +kernel) ?_
            refine G.iload 4 rfl dX8_byOrder_86 ?_
            refine G.aload_n 0 rfl rfl dX8_byOrder_88 ?_
            refine G.get 132 (by omega) h0 rfl twX8 21 (by decide) tb_625 rfl rfl dX8_byOrder_89 ?_
            refine G.iload_n 3 rfl rfl dX8_byOrder_92 ?_
            refine G.iload 4 rfl dX8_byOrder_93 ?_
            refine G.iadd dX8_byOrder_95 ?_
            refine G.topi (nI ((40 * jj) + ii)) (nI_add ((40 * jj)) ii) ?_
            refine G.iald 150 (by omega) g4 ((40 * jj) + ii) (rfl) (by omega) (by omega) dX8_byOrder_96 ?_
            refine G.aload_n 0 rfl rfl dX8_byOrder_97 ?_
            refine G.get 132 (by omega) h0 rfl twX8 22 (by decide) tb_626 rfl rfl dX8_byOrder_98 ?_
            refine G.iload_n 3 rfl rfl dX8_byOrder_101 ?_
            refine G.iload 4 rfl dX8_byOrder_102 ?_
            refine G.iadd dX8_byOrder_104 ?_
            refine G.topi (nI ((40 * jj) + ii)) (nI_add ((40 * jj)) ii) ?_
            refine G.iald 151 (by omega) g5 ((40 * jj) + ii) (rfl) (by omega) (by omega) dX8_byOrder_105 ?_
            refine G.callV (n := 4) 132 (c_X8_other h0 hN 2 (nI ii) (Te (40 * jj + ii)) (Ye (40 * jj + ii))) rfl (by omega) h0 rfl tb_839 tb_841 tb_28 tb_42 tb_842 (by decide +kernel) rfl ⟨(Nat.le_of_ble_eq_true rfl), (Nat.le_of_ble_eq_true rfl)⟩ ⟨rfl, rfl⟩ (Nat.le_of_ble_eq_true rfl) ⟨Nat.zero_le _, Nat.zero_le _⟩ dX8_byOrder_106 (fun gr2 zw2 hp => ?_)
            obtain ⟨rfl, k0, hf⟩ := hp
            refine G.iret rfl rfl rfl dX8_byOrder_109 ?_
            have hfd : fd Gl Tl = ii := fd_is ii Gl Tl heq (fun q => by omega)
            have ec : cO Gl Tl = (2, some (nI ii, Te (40 * jj + ii), Ye (40 * jj + ii))) := by
              simp only [cO, hfd]; rw [if_neg (by omega), if_pos (by omega), hs ii (by omega)]
            rw [ec] at hret
            exact hret _ _ ⟨rfl, ⟨1, _, _, _, k0, fun _ => ⟨fun q => (by cases q), fun x hx => ⟨rfl, Option.some.inj hx⟩⟩⟩, hf⟩
        · skip
          refine G.aload_n 0 rfl rfl dX8_byOrder_47 ?_
          refine G.iconst (v := nI 1) dX8_byOrder_48 (by decide +kernel) ?_
          refine G.iload 4 rfl dX8_byOrder_49 ?_
          refine G.aload_n 0 rfl rfl dX8_byOrder_51 ?_
          refine G.get 132 (by omega) h0 rfl twX8 16 (by decide) tb_620 rfl rfl dX8_byOrder_52 ?_
          refine G.iload_n 2 rfl rfl dX8_byOrder_55 ?_
          refine G.iload 4 rfl dX8_byOrder_56 ?_
          refine G.iadd dX8_byOrder_58 ?_
          refine G.topi (nI ((201 * jj) + ii)) (nI_add ((201 * jj)) ii) ?_
          refine G.iald 146 (by omega) e4 ((201 * jj) + ii) (rfl) (by omega) (by omega) dX8_byOrder_59 ?_
          refine G.aload_n 0 rfl rfl dX8_byOrder_60 ?_
          refine G.get 132 (by omega) h0 rfl twX8 17 (by decide) tb_621 rfl rfl dX8_byOrder_61 ?_
          refine G.iload_n 2 rfl rfl dX8_byOrder_64 ?_
          refine G.iload 4 rfl dX8_byOrder_65 ?_
          refine G.iadd dX8_byOrder_67 ?_
          refine G.topi (nI ((201 * jj) + ii)) (nI_add ((201 * jj)) ii) ?_
          refine G.iald 147 (by omega) e5 ((201 * jj) + ii) (rfl) (by omega) (by omega) dX8_byOrder_68 ?_
          refine G.callV (n := 4) 132 (c_X8_other h0 hN 1 (nI ii) (T (201 * jj + ii)) (Y (201 * jj + ii))) rfl (by omega) h0 rfl tb_839 tb_841 tb_28 tb_42 tb_842 (by decide +kernel) rfl ⟨(Nat.le_of_ble_eq_true rfl), (Nat.le_of_ble_eq_true rfl)⟩ ⟨rfl, rfl⟩ (Nat.le_of_ble_eq_true rfl) ⟨Nat.zero_le _, Nat.zero_le _⟩ dX8_byOrder_69 (fun gr3 zw2 hp => ?_)
          obtain ⟨rfl, k0, hf⟩ := hp
          refine G.iret rfl rfl rfl dX8_byOrder_72 ?_
          have hfd : fd Gl Tl = ii := fd_is ii Gl Tl heq (fun q => by omega)
          have ec : cO Gl Tl = (1, some (nI ii, T (201 * jj + ii), Y (201 * jj + ii))) := by
            simp only [cO, hfd]; rw [if_pos (by omega), if_neg (by omega), hr ii (by omega)]
          rw [ec] at hret
          exact hret _ _ ⟨rfl, ⟨1, _, _, _, k0, fun _ => ⟨fun q => (by cases q), fun x hx => ⟨rfl, Option.some.inj hx⟩⟩⟩, hf⟩
      refine G.iload 4 rfl dX8_byOrder_14 ?_
      refine G.aload_n 0 rfl rfl dX8_byOrder_16 ?_
      refine G.get 132 (by omega) h0 rfl twX8 14 (by decide) tb_618 rfl rfl dX8_byOrder_17 ?_
      refine G.iload_n 1 rfl rfl dX8_byOrder_20 ?_
      refine G.iald 144 (by omega) e2 jj (rfl) (by omega) (by omega) dX8_byOrder_21 ?_
      refine G.topi (nI Gl.length) (hm) ?_
      refine G.ncmp_lt 36 dX8_byOrder_22 rfl (by omega) (by omega) (fun c22 => ?_) (fun c22 => ?_)
      · skip
        exact cont (Or.inl c22)
      · skip
        refine G.iload 4 rfl dX8_byOrder_25 ?_
        refine G.aload_n 0 rfl rfl dX8_byOrder_27 ?_
        refine G.get 132 (by omega) h0 rfl twX8 20 (by decide) tb_624 rfl rfl dX8_byOrder_28 ?_
        refine G.iload_n 1 rfl rfl dX8_byOrder_31 ?_
        refine G.iald 149 (by omega) g2 jj (rfl) (by omega) (by omega) dX8_byOrder_32 ?_
        refine G.topi (nI Tl.length) (hmd) ?_
        refine G.ncmp_ge 206 dX8_byOrder_33 rfl (by omega) (by omega) (fun c33 => ?_) (fun c33 => ?_)
        · skip
          refine G.iconst (v := nI 0) dX8_byOrder_206 (by decide +kernel) ?_
          refine G.iret rfl rfl rfl dX8_byOrder_207 ?_
          have hfd : fd Gl Tl = ii := fd_is ii Gl Tl heq (fun q => by omega)
          exact hret _ _ ⟨by simp only [cO, hfd]; rw [if_neg (by omega), if_neg (by omega)], ⟨0, op, ot, ok, h0, by simp only [cO, hfd]; rw [if_neg (by omega), if_neg (by omega)]; exact fun _ => ⟨fun _ => rfl, fun x hx => (by cases hx)⟩⟩, fun _ _ => rfl⟩
        · skip
          exact cont (Or.inr c33)
  exact loop (Gl.length + Tl.length) 0 (by omega) (fun k hk => by omega)
set_option maxHeartbeats 1000000 in
theorem c_X8_bySets (h0 : w 132 = .inr (8, xF ad n on jb fl 0 op ot ok nw fa)) (e2 : w 144 = .inl (t.2.1, 12, .inl M)) (e4 : w 146 = .inl (t.2.1, 2412, .inl T)) (e5 : w 147 = .inl (t.2.1, 2412, .inl Y)) (e6 : w 148 = .inl (t.2.2.1, 2412, .inr (.inl V))) (hm : M jj = nI Gl.length) (hG : Gl.length ≤ 200) (hr : ∀ k, k < Gl.length → Gl.getD k r0 = (T (201 * jj + k), Y (201 * jj + k), V (201 * jj + k))) (g2 : w 149 = .inl (t.2.1, 12, .inl Md)) (g4 : w 150 = .inl (t.2.1, 480, .inl Te)) (g5 : w 151 = .inl (t.2.1, 480, .inl Ye)) (g6 : w 152 = .inl (t.2.2.1, 480, .inr (.inl Ve))) (hmd : Md jj = nI Tl.length) (hT : Tl.length ≤ 40) (hs : ∀ k, k < Tl.length → Tl.getD k r0 = (Te (40 * jj + k), Ye (40 * jj + k), Ve (40 * jj + k))) (hj : jj < 12) (hN : 153 ≤ N) :
    K l t yX8_bySets cX8_bySets 12 (some .int) (rD 1) N ad w [.ref (ad 132), .int (nI jj)]
      (fun res w' => res = some (.int (nI (cR Gl Tl).1)) ∧ (∃ io' op' ot' ok', w' 132 = .inr (8, xF ad n on jb fl io' op' ot' ok' nw fa) ∧ xDf true (cR Gl Tl).2 io' op' ot' ok') ∧ ∀ i, i ≠ 132 → w' i = w i) := by
  refine K.of (own := RX8) (lv := [(0, .ref (ad 132)), (1, .int (nI jj))]) (by decide +kernel) rfl (Nat.le_of_ble_eq_true rfl) rfl (fun P post hret => ?_)
  refine G.iconst (v := nI 0) dX8_bySets_0 (by decide +kernel) ?_
  refine G.istore_n [(2, .int (nI 0)), (0, .ref (ad 132)), (1, .int (nI jj))] dX8_bySets_1 rfl (by decide) rfl ?_
  refine G.iconst (v := nI 0) dX8_bySets_2 (by decide +kernel) ?_
  refine G.istore_n [(3, .int (nI 0)), (2, .int (nI 0)), (0, .ref (ad 132)), (1, .int (nI jj))] dX8_bySets_3 rfl (by decide) rfl ?_
  refine G.iconst (v := nI 0) dX8_bySets_4 (by decide +kernel) ?_
  refine G.istore [(4, .int (nI 0)), (3, .int (nI 0)), (2, .int (nI 0)), (0, .ref (ad 132)), (1, .int (nI jj))] dX8_bySets_5 (by decide) rfl ?_
  refine G.iconst (v := nI 0) dX8_bySets_7 (by decide +kernel) ?_
  refine G.istore [(5, .int (nI 0)), (4, .int (nI 0)), (3, .int (nI 0)), (2, .int (nI 0)), (0, .ref (ad 132)), (1, .int (nI jj))] dX8_bySets_8 (by decide) rfl ?_
  refine G.pick [4, 5, 3, 2, 1, 0] [(0, .ref (ad 132)), (1, .int (nI jj)), (2, .int (nI 0)), (3, .int (nI 0)), (4, .int (nI 0)), (5, .int (nI 0))] rfl ?_
  have loop : ∀ (mm ii : Nat) (aa tt yy : Int32) (st : Option (Int32 × Int32)), ii + mm = Gl.length + Tl.length → st = ((Gl ++ Tl).take ii).foldl (bsF Gl Tl) none → (st = none → aa = nI 0) → (∀ p, st = some p → aa = nI 1 ∧ tt = p.1 ∧ yy = p.2) → G l t (rD 1) P cX8_bySets 12 RX8 (some .int) post 0 0 N ad 0 0 10 [(0, .ref (ad 132)), (1, .int (nI jj)), (2, .int aa), (3, .int tt), (4, .int yy), (5, .int (nI ii))] [] w := by
    intro mm
    induction mm with
    | zero =>
      intro ii aa tt yy st hi hst hs0 hs1
      rw [List.take_of_length_le (by rw [List.length_append]; omega)] at hst
      refine G.iload 5 rfl dX8_bySets_10 ?_
      refine G.aload_n 0 rfl rfl dX8_bySets_12 ?_
      refine G.get 132 (by omega) h0 rfl twX8 14 (by decide) tb_618 rfl rfl dX8_bySets_13 ?_
      refine G.iload_n 1 rfl rfl dX8_bySets_16 ?_
      refine G.iald 144 (by omega) e2 jj (rfl) (by omega) (by omega) dX8_bySets_17 ?_
      refine G.topi (nI Gl.length) (hm) ?_
      refine G.aload_n 0 rfl rfl dX8_bySets_18 ?_
      refine G.get 132 (by omega) h0 rfl twX8 20 (by decide) tb_624 rfl rfl dX8_bySets_19 ?_
      refine G.iload_n 1 rfl rfl dX8_bySets_22 ?_
      refine G.iald 149 (by omega) g2 jj (rfl) (by omega) (by omega) dX8_bySets_23 ?_
      refine G.topi (nI Tl.length) (hmd) ?_
      refine G.iadd dX8_bySets_24 ?_
      refine G.topi (nI (Gl.length + Tl.length)) (nI_add Gl.length Tl.length) ?_
      refine G.ncmp_ge 215 dX8_bySets_25 rfl (by omega) (by omega) (fun c25 => ?_) (fun c25 => ?_)
      · skip
        cases hb : bsR Gl Tl with
        | none =>
          have ec : cR Gl Tl = (0, none) := by unfold cR; rw [hb]
          obtain rfl := hs0 (by rw [hst]; exact hb)
          refine G.iload_n 2 rfl rfl dX8_bySets_215 ?_
          refine G.nif_ne 221 dX8_bySets_216 rfl (by decide) (fun zz => absurd zz (by decide)) (fun _ => ?_)
          refine G.iconst (v := nI 0) dX8_bySets_219 (by decide +kernel) ?_
          refine G.iret rfl rfl rfl dX8_bySets_220 ?_
          rw [ec] at hret
          exact hret _ _ ⟨rfl, ⟨0, op, ot, ok, h0, fun _ => ⟨fun _ => rfl, fun x hx => (by cases hx)⟩⟩, fun _ _ => rfl⟩
        | some p =>
          obtain ⟨rfl, rfl, rfl⟩ := hs1 p (by rw [hst]; exact hb)
          have hc1 := cnt_le Gl p.1 p.2 0 true
          have hc2 := cnt_le Tl p.1 p.2 0 true
          have ec : cR Gl Tl = (dOf (cnt Gl p.1 p.2 0 true) (cnt Tl p.1 p.2 0 true), some (-4, p.1, p.2)) := by unfold cR; rw [hb]
          rw [ec] at hret
          refine G.iload_n 2 rfl rfl dX8_bySets_215 ?_
          refine G.nif_ne 221 dX8_bySets_216 rfl (by decide) (fun _ => ?_) (fun zz => absurd zz (by decide))
          refine G.aload_n 0 rfl rfl dX8_bySets_221 ?_
          refine G.iload_n 1 rfl rfl dX8_bySets_222 ?_
          refine G.iload_n 3 rfl rfl dX8_bySets_223 ?_
          refine G.iload 4 rfl dX8_bySets_224 ?_
          refine G.lconst (v := 0) dX8_bySets_226 (by decide +kernel) ?_
          refine G.iconst (v := nI 1) dX8_bySets_227 (by decide +kernel) ?_
          refine G.callV (n := 5) 132 (c_X8_judgedOf h0 e2 e4 e5 e6 hm hG hr hj hN p.1 p.2 0 true) rfl (by omega) h0 rfl tb_847 tb_849 tb_30 tb_42 tb_850 (by decide +kernel) rfl ⟨(Nat.le_of_ble_eq_true rfl), (Nat.le_of_ble_eq_true rfl)⟩ ⟨rfl, rfl⟩ (Nat.le_of_ble_eq_true rfl) ⟨Nat.zero_le _, Nat.zero_le _⟩ dX8_bySets_228 (fun gr2 gw1 hp => ?_)
          obtain ⟨rfl, rfl⟩ := hp
          refine G.istore [(5, .int (nI (cnt Gl p.1 p.2 0 true))), (0, .ref (ad 132)), (1, .int (nI jj)), (2, .int (nI 1)), (3, .int p.1), (4, .int p.2)] dX8_bySets_231 (by decide) rfl ?_
          refine G.aload_n 1 rfl rfl dX8_bySets_233 ?_
          refine G.iload_n 2 rfl rfl dX8_bySets_234 ?_
          refine G.iload_n 4 rfl rfl dX8_bySets_235 ?_
          refine G.iload 5 rfl dX8_bySets_236 ?_
          refine G.lconst (v := 0) dX8_bySets_238 (by decide +kernel) ?_
          refine G.iconst (v := nI 1) dX8_bySets_239 (by decide +kernel) ?_
          refine G.callV (n := 5) 132 (c_X8_toldOf h0 g2 g4 g5 g6 hmd hT hs hj hN p.1 p.2 0 true) rfl (by omega) h0 rfl tb_851 tb_853 tb_31 tb_42 tb_854 (by decide +kernel) rfl ⟨(Nat.le_of_ble_eq_true rfl), (Nat.le_of_ble_eq_true rfl)⟩ ⟨rfl, rfl⟩ (Nat.le_of_ble_eq_true rfl) ⟨Nat.zero_le _, Nat.zero_le _⟩ dX8_bySets_240 (fun gr4 gw3 hp => ?_)
          obtain ⟨rfl, rfl⟩ := hp
          generalize cnt Gl p.1 p.2 0 true = ca at hc1 hret
          generalize cnt Tl p.1 p.2 0 true = cb at hc2 hret
          refine G.istore [(6, .int (nI cb)), (5, .int (nI ca)), (0, .ref (ad 132)), (1, .int (nI jj)), (2, .int (nI 1)), (3, .int p.1), (4, .int p.2)] dX8_bySets_243 (by decide) rfl ?_
          refine G.aload_n 2 rfl rfl dX8_bySets_245 ?_
          refine G.iload 0 rfl dX8_bySets_246 ?_
          refine G.iload 1 rfl dX8_bySets_248 ?_
          refine G.ncmp_ge 257 dX8_bySets_250 rfl (by omega) (by omega) (fun c250 => ?_) (fun c250 => ?_)
          · skip
            refine G.iload 0 rfl dX8_bySets_257 ?_
            refine G.iload 1 rfl dX8_bySets_259 ?_
            refine G.ncmp_le 268 dX8_bySets_261 rfl (by omega) (by omega) (fun c261 => ?_) (fun c261 => ?_)
            · skip
              refine G.iconst (v := nI 3) dX8_bySets_268 (by decide +kernel) ?_
              refine G.bipush (v := -4) dX8_bySets_269 (by decide +kernel) ?_
              refine G.iload_n 5 rfl rfl dX8_bySets_271 ?_
              refine G.iload 6 rfl dX8_bySets_272 ?_
              refine G.callV (n := 4) 132 (c_X8_other h0 hN 3 (-4) p.1 p.2) rfl (by omega) h0 rfl tb_839 tb_841 tb_28 tb_42 tb_842 (by decide +kernel) rfl ⟨(Nat.le_of_ble_eq_true rfl), (Nat.le_of_ble_eq_true rfl)⟩ ⟨rfl, rfl⟩ (Nat.le_of_ble_eq_true rfl) ⟨Nat.zero_le _, Nat.zero_le _⟩ dX8_bySets_274 (fun gr5 zw2 hp => ?_)
              obtain ⟨rfl, k0, hf⟩ := hp
              refine G.iret rfl rfl rfl dX8_bySets_277 ?_
              exact hret _ _ ⟨by rw [dOf, if_pos (by omega)]; rfl, ⟨1, _, _, _, k0, fun _ => ⟨fun q => (by cases q), fun x hx => ⟨rfl, Option.some.inj hx⟩⟩⟩, hf⟩
            · skip
              refine G.iconst (v := nI 2) dX8_bySets_264 (by decide +kernel) ?_
              refine G.goto 269 dX8_bySets_265 rfl ?_
              refine G.bipush (v := -4) dX8_bySets_269 (by decide +kernel) ?_
              refine G.iload_n 5 rfl rfl dX8_bySets_271 ?_
              refine G.iload 6 rfl dX8_bySets_272 ?_
              refine G.callV (n := 4) 132 (c_X8_other h0 hN 2 (-4) p.1 p.2) rfl (by omega) h0 rfl tb_839 tb_841 tb_28 tb_42 tb_842 (by decide +kernel) rfl ⟨(Nat.le_of_ble_eq_true rfl), (Nat.le_of_ble_eq_true rfl)⟩ ⟨rfl, rfl⟩ (Nat.le_of_ble_eq_true rfl) ⟨Nat.zero_le _, Nat.zero_le _⟩ dX8_bySets_274 (fun gr6 zw2 hp => ?_)
              obtain ⟨rfl, k0, hf⟩ := hp
              refine G.iret rfl rfl rfl dX8_bySets_277 ?_
              exact hret _ _ ⟨by rw [dOf, if_neg (by omega), if_neg (by omega)]; rfl, ⟨1, _, _, _, k0, fun _ => ⟨fun q => (by cases q), fun x hx => ⟨rfl, Option.some.inj hx⟩⟩⟩, hf⟩
          · skip
            refine G.iconst (v := nI 1) dX8_bySets_253 (by decide +kernel) ?_
            refine G.goto 269 dX8_bySets_254 rfl ?_
            refine G.bipush (v := -4) dX8_bySets_269 (by decide +kernel) ?_
            refine G.iload_n 5 rfl rfl dX8_bySets_271 ?_
            refine G.iload 6 rfl dX8_bySets_272 ?_
            refine G.callV (n := 4) 132 (c_X8_other h0 hN 1 (-4) p.1 p.2) rfl (by omega) h0 rfl tb_839 tb_841 tb_28 tb_42 tb_842 (by decide +kernel) rfl ⟨(Nat.le_of_ble_eq_true rfl), (Nat.le_of_ble_eq_true rfl)⟩ ⟨rfl, rfl⟩ (Nat.le_of_ble_eq_true rfl) ⟨Nat.zero_le _, Nat.zero_le _⟩ dX8_bySets_274 (fun gr7 zw2 hp => ?_)
            obtain ⟨rfl, k0, hf⟩ := hp
            refine G.iret rfl rfl rfl dX8_bySets_277 ?_
            exact hret _ _ ⟨by rw [dOf, if_neg (by omega), if_pos (by omega)]; rfl, ⟨1, _, _, _, k0, fun _ => ⟨fun q => (by cases q), fun x hx => ⟨rfl, Option.some.inj hx⟩⟩⟩, hf⟩
      · skip
        omega
    | succ mm ih =>
      intro ii aa tt yy st hi hst hs0 hs1
      have hnx := foldl_take (P := Gl ++ Tl) (i := ii) (bsF Gl Tl) none (by rw [List.length_append]; omega)
      rw [← hst] at hnx
      generalize hxx : (Gl ++ Tl).getD ii r0 = xx at hnx
      have body : ∀ (l6 l7 t8 y9 : Int32) (vx : Int64), xx = (t8, y9, vx) → G l t (rD 1) P cX8_bySets 12 RX8 (some .int) post 0 0 N ad 0 0 150 [(0, .ref (ad 132)), (1, .int (nI jj)), (2, .int aa), (3, .int tt), (4, .int yy), (5, .int (nI ii)), (6, .int l6), (7, .int l7), (8, .int t8), (9, .int y9), (10, .long vx)] [] w := by
        intro l6 l7 t8 y9 vx hx
        have hc1 := cnt_le Gl t8 y9 vx false
        have hc2 := cnt_le Tl t8 y9 vx false
        have keep : (bsD Gl Tl xx && bsL st xx) = false → G l t (rD 1) P cX8_bySets 12 RX8 (some .int) post 0 0 N ad 0 0 209 [(0, .ref (ad 132)), (1, .int (nI jj)), (2, .int aa), (3, .int tt), (4, .int yy), (5, .int (nI ii)), (6, .int l6), (7, .int l7), (8, .int t8), (9, .int y9), (10, .long vx)] [] w := by
          intro hb
          refine G.iinc (v := nI (ii + 1)) [(5, .int (nI (ii + 1))), (0, .ref (ad 132)), (1, .int (nI jj)), (2, .int aa), (3, .int tt), (4, .int yy), (6, .int l6), (7, .int l7), (8, .int t8), (9, .int y9), (10, .long vx)] 5 dX8_bySets_209 rfl (nI_add ii 1) (by decide) rfl ?_
          refine G.goto 10 dX8_bySets_212 rfl ?_
          refine G.pick [1, 2, 3, 4, 5, 0] [(0, .ref (ad 132)), (1, .int (nI jj)), (2, .int aa), (3, .int tt), (4, .int yy), (5, .int (nI (ii + 1)))] rfl ?_
          exact ih (ii + 1) aa tt yy st (by omega) (by rw [hnx, bsF, if_neg (by rw [hb]; decide)]) hs0 hs1
        have take : (bsD Gl Tl xx && bsL st xx) = true → G l t (rD 1) P cX8_bySets 12 RX8 (some .int) post 0 0 N ad 0 0 200 [(0, .ref (ad 132)), (1, .int (nI jj)), (2, .int aa), (3, .int tt), (4, .int yy), (5, .int (nI ii)), (6, .int l6), (7, .int l7), (8, .int t8), (9, .int y9), (10, .long vx)] [] w := by
          intro hb
          refine G.iconst (v := nI 1) dX8_bySets_200 (by decide +kernel) ?_
          refine G.istore_n [(2, .int (nI 1)), (0, .ref (ad 132)), (1, .int (nI jj)), (3, .int tt), (4, .int yy), (5, .int (nI ii)), (6, .int l6), (7, .int l7), (8, .int t8), (9, .int y9), (10, .long vx)] dX8_bySets_201 rfl (by decide) rfl ?_
          refine G.iload 8 rfl dX8_bySets_202 ?_
          refine G.istore_n [(3, .int t8), (2, .int (nI 1)), (0, .ref (ad 132)), (1, .int (nI jj)), (4, .int yy), (5, .int (nI ii)), (6, .int l6), (7, .int l7), (8, .int t8), (9, .int y9), (10, .long vx)] dX8_bySets_204 rfl (by decide) rfl ?_
          refine G.iload 9 rfl dX8_bySets_205 ?_
          refine G.istore [(4, .int y9), (3, .int t8), (2, .int (nI 1)), (0, .ref (ad 132)), (1, .int (nI jj)), (5, .int (nI ii)), (6, .int l6), (7, .int l7), (8, .int t8), (9, .int y9), (10, .long vx)] dX8_bySets_207 (by decide) rfl ?_
          refine G.iinc (v := nI (ii + 1)) [(5, .int (nI (ii + 1))), (4, .int y9), (3, .int t8), (2, .int (nI 1)), (0, .ref (ad 132)), (1, .int (nI jj)), (6, .int l6), (7, .int l7), (8, .int t8), (9, .int y9), (10, .long vx)] 5 dX8_bySets_209 rfl (nI_add ii 1) (by decide) rfl ?_
          refine G.goto 10 dX8_bySets_212 rfl ?_
          refine G.pick [4, 5, 3, 2, 1, 0] [(0, .ref (ad 132)), (1, .int (nI jj)), (2, .int (nI 1)), (3, .int t8), (4, .int y9), (5, .int (nI (ii + 1)))] rfl ?_
          exact ih (ii + 1) (nI 1) t8 y9 (some (t8, y9)) (by omega) (by rw [hnx, bsF, if_pos hb, hx]) (fun q => (by cases q)) (fun p hp => by cases hp; exact ⟨rfl, rfl, rfl⟩)
        refine G.aload_n 0 rfl rfl dX8_bySets_150 ?_
        refine G.iload_n 1 rfl rfl dX8_bySets_151 ?_
        refine G.iload 8 rfl dX8_bySets_152 ?_
        refine G.iload 9 rfl dX8_bySets_154 ?_
        refine G.lload 10 rfl dX8_bySets_156 ?_
        refine G.iconst (v := nI 0) dX8_bySets_158 (by decide +kernel) ?_
        refine G.callV (n := 5) 132 (c_X8_judgedOf h0 e2 e4 e5 e6 hm hG hr hj hN t8 y9 vx false) rfl (by omega) h0 rfl tb_847 tb_849 tb_30 tb_42 tb_850 (by decide +kernel) rfl ⟨(Nat.le_of_ble_eq_true rfl), (Nat.le_of_ble_eq_true rfl)⟩ ⟨rfl, rfl⟩ (Nat.le_of_ble_eq_true rfl) ⟨Nat.zero_le _, Nat.zero_le _⟩ dX8_bySets_159 (fun gr9 gw8 hp => ?_)
        obtain ⟨rfl, rfl⟩ := hp
        refine G.aload_n 0 rfl rfl dX8_bySets_162 ?_
        refine G.iload_n 1 rfl rfl dX8_bySets_163 ?_
        refine G.iload 8 rfl dX8_bySets_164 ?_
        refine G.iload 9 rfl dX8_bySets_166 ?_
        refine G.lload 10 rfl dX8_bySets_168 ?_
        refine G.iconst (v := nI 0) dX8_bySets_170 (by decide +kernel) ?_
        refine G.callV (n := 5) 132 (c_X8_toldOf h0 g2 g4 g5 g6 hmd hT hs hj hN t8 y9 vx false) rfl (by omega) h0 rfl tb_851 tb_853 tb_31 tb_42 tb_854 (by decide +kernel) rfl ⟨(Nat.le_of_ble_eq_true rfl), (Nat.le_of_ble_eq_true rfl)⟩ ⟨rfl, rfl⟩ (Nat.le_of_ble_eq_true rfl) ⟨Nat.zero_le _, Nat.zero_le _⟩ dX8_bySets_171 (fun gr11 gw10 hp => ?_)
        obtain ⟨rfl, rfl⟩ := hp
        have hbd : bsD Gl Tl xx = decide (cnt Gl t8 y9 vx false ≠ cnt Tl t8 y9 vx false) := by rw [hx]; rfl
        generalize cnt Gl t8 y9 vx false = ca at hc1 hbd
        generalize cnt Tl t8 y9 vx false = cb at hc2 hbd
        refine G.ncmp_eq 209 dX8_bySets_174 rfl (by omega) (by omega) (fun c174 => ?_) (fun c174 => ?_)
        · skip
          exact keep (by rw [hbd, decide_eq_false (fun q => q c174)]; rfl)
        · skip
          rw [decide_eq_true c174] at hbd
          refine G.iload_n 2 rfl rfl dX8_bySets_177 ?_
          refine G.if_eq 200 dX8_bySets_178 rfl (fun c178 => ?_) (fun c178 => ?_)
          · skip
            cases st with
            | none => exact take (by rw [hbd]; rfl)
            | some p => rw [(hs1 p rfl).1] at c178; exact absurd c178 (by decide)
          · skip
            cases st with
            | none => exact absurd (hs0 rfl) c178
            | some p =>
              obtain ⟨rfl, rfl, rfl⟩ := hs1 p rfl
              refine G.iload 8 rfl dX8_bySets_181 ?_
              refine G.iload_n 3 rfl rfl dX8_bySets_183 ?_
              refine G.icmp_lt 200 dX8_bySets_184 rfl (fun c184 => ?_) (fun c184 => ?_)
              · skip
                exact take (by rw [hbd, hx]; simp only [bsL, decide_eq_true c184]; rfl)
              · skip
                refine G.iload 8 rfl dX8_bySets_187 ?_
                refine G.iload_n 3 rfl rfl dX8_bySets_189 ?_
                refine G.icmp_ne 209 dX8_bySets_190 rfl (fun c190 => ?_) (fun c190 => ?_)
                · skip
                  exact keep (by rw [hbd, hx]; simp only [bsL, decide_eq_false c184, decide_eq_false c190]; rfl)
                · skip
                  refine G.iload 9 rfl dX8_bySets_193 ?_
                  refine G.iload 4 rfl dX8_bySets_195 ?_
                  refine G.icmp_ge 209 dX8_bySets_197 rfl (fun c197 => ?_) (fun c197 => ?_)
                  · skip
                    exact keep (by rw [hbd, hx]; simp only [bsL, decide_eq_false c184, decide_eq_false (Int32.not_lt.mpr c197), Bool.and_false]; rfl)
                  · skip
                    exact take (by rw [hbd, hx]; simp only [bsL, decide_eq_true c190, decide_eq_true (Int32.not_le.mp c197), Bool.and_true, Bool.or_true])
      refine G.iload 5 rfl dX8_bySets_10 ?_
      refine G.aload_n 0 rfl rfl dX8_bySets_12 ?_
      refine G.get 132 (by omega) h0 rfl twX8 14 (by decide) tb_618 rfl rfl dX8_bySets_13 ?_
      refine G.iload_n 1 rfl rfl dX8_bySets_16 ?_
      refine G.iald 144 (by omega) e2 jj (rfl) (by omega) (by omega) dX8_bySets_17 ?_
      refine G.topi (nI Gl.length) (hm) ?_
      refine G.aload_n 0 rfl rfl dX8_bySets_18 ?_
      refine G.get 132 (by omega) h0 rfl twX8 20 (by decide) tb_624 rfl rfl dX8_bySets_19 ?_
      refine G.iload_n 1 rfl rfl dX8_bySets_22 ?_
      refine G.iald 149 (by omega) g2 jj (rfl) (by omega) (by omega) dX8_bySets_23 ?_
      refine G.topi (nI Tl.length) (hmd) ?_
      refine G.iadd dX8_bySets_24 ?_
      refine G.topi (nI (Gl.length + Tl.length)) (nI_add Gl.length Tl.length) ?_
      refine G.ncmp_ge 215 dX8_bySets_25 rfl (by omega) (by omega) (fun c25 => ?_) (fun c25 => ?_)
      · skip
        omega
      · skip
        refine G.iload 5 rfl dX8_bySets_28 ?_
        refine G.aload_n 0 rfl rfl dX8_bySets_30 ?_
        refine G.get 132 (by omega) h0 rfl twX8 14 (by decide) tb_618 rfl rfl dX8_bySets_31 ?_
        refine G.iload_n 1 rfl rfl dX8_bySets_34 ?_
        refine G.iald 144 (by omega) e2 jj (rfl) (by omega) (by omega) dX8_bySets_35 ?_
        refine G.topi (nI Gl.length) (hm) ?_
        refine G.ncmp_ge 43 dX8_bySets_36 rfl (by omega) (by omega) (fun c36 => ?_) (fun c36 => ?_)
        · skip
          refine G.iconst (v := nI 0) dX8_bySets_43 (by decide +kernel) ?_
          refine G.istore [(6, .int (nI 0)), (0, .ref (ad 132)), (1, .int (nI jj)), (2, .int aa), (3, .int tt), (4, .int yy), (5, .int (nI ii))] dX8_bySets_44 (by decide) rfl ?_
          refine G.iload 0 rfl dX8_bySets_46 ?_
          refine G.nif_eq 62 dX8_bySets_48 rfl (by decide) (fun _ => ?_) (fun zz => absurd zz (by decide))
          refine G.bipush (v := nI 40) dX8_bySets_62 (by decide +kernel) ?_
          refine G.iload_n 2 rfl rfl dX8_bySets_64 ?_
          refine G.imul dX8_bySets_65 ?_
          refine G.topi (nI (40 * jj)) (pk_mul 40 jj) ?_
          refine G.iload 6 rfl dX8_bySets_66 ?_
          refine G.iadd dX8_bySets_68 ?_
          refine G.topi (nI ((40 * jj) + ii)) (nI_add ((40 * jj)) ii) ?_
          refine G.aload_n 1 rfl rfl dX8_bySets_69 ?_
          refine G.get 132 (by omega) h0 rfl twX8 14 (by decide) tb_618 rfl rfl dX8_bySets_70 ?_
          refine G.iload_n 2 rfl rfl dX8_bySets_73 ?_
          refine G.iald 144 (by omega) e2 jj (rfl) (by omega) (by omega) dX8_bySets_74 ?_
          refine G.topi (nI Gl.length) (hm) ?_
          refine G.isub dX8_bySets_75 ?_
          refine G.topi (nI (40 * jj + (ii - Gl.length))) (by rw [pk_sub (by omega)]; congr 1; omega) ?_
          refine G.istore [(7, .int (nI (40 * jj + (ii - Gl.length)))), (6, .int (nI 0)), (0, .ref (ad 132)), (1, .int (nI jj)), (2, .int aa), (3, .int tt), (4, .int yy), (5, .int (nI ii))] dX8_bySets_76 (by decide) rfl ?_
          refine G.iload 1 rfl dX8_bySets_78 ?_
          refine G.nif_eq 93 dX8_bySets_80 rfl (by decide) (fun _ => ?_) (fun zz => absurd zz (by decide))
          refine G.aload_n 2 rfl rfl dX8_bySets_93 ?_
          refine G.get 132 (by omega) h0 rfl twX8 21 (by decide) tb_625 rfl rfl dX8_bySets_94 ?_
          refine G.iload 0 rfl dX8_bySets_97 ?_
          refine G.iald 150 (by omega) g4 (40 * jj + (ii - Gl.length)) (rfl) (by omega) (by omega) dX8_bySets_99 ?_
          refine G.istore [(8, .int (Te (40 * jj + (ii - Gl.length)))), (7, .int (nI (40 * jj + (ii - Gl.length)))), (6, .int (nI 0)), (0, .ref (ad 132)), (1, .int (nI jj)), (2, .int aa), (3, .int tt), (4, .int yy), (5, .int (nI ii))] dX8_bySets_100 (by decide) rfl ?_
          refine G.iload 2 rfl dX8_bySets_102 ?_
          refine G.nif_eq 117 dX8_bySets_104 rfl (by decide) (fun _ => ?_) (fun zz => absurd zz (by decide))
          refine G.aload_n 3 rfl rfl dX8_bySets_117 ?_
          refine G.get 132 (by omega) h0 rfl twX8 22 (by decide) tb_626 rfl rfl dX8_bySets_118 ?_
          refine G.iload 1 rfl dX8_bySets_121 ?_
          refine G.iald 151 (by omega) g5 (40 * jj + (ii - Gl.length)) (rfl) (by omega) (by omega) dX8_bySets_123 ?_
          refine G.istore [(9, .int (Ye (40 * jj + (ii - Gl.length)))), (8, .int (Te (40 * jj + (ii - Gl.length)))), (7, .int (nI (40 * jj + (ii - Gl.length)))), (6, .int (nI 0)), (0, .ref (ad 132)), (1, .int (nI jj)), (2, .int aa), (3, .int tt), (4, .int yy), (5, .int (nI ii))] dX8_bySets_124 (by decide) rfl ?_
          refine G.iload 3 rfl dX8_bySets_126 ?_
          refine G.nif_eq 141 dX8_bySets_128 rfl (by decide) (fun _ => ?_) (fun zz => absurd zz (by decide))
          refine G.aload_n 4 rfl rfl dX8_bySets_141 ?_
          refine G.get 132 (by omega) h0 rfl twX8 23 (by decide) tb_627 rfl rfl dX8_bySets_142 ?_
          refine G.iload 2 rfl dX8_bySets_145 ?_
          refine G.lald 152 (by omega) g6 (40 * jj + (ii - Gl.length)) (rfl) (by omega) (by omega) dX8_bySets_147 ?_
          refine G.lstore [(10, .long (Ve (40 * jj + (ii - Gl.length)))), (9, .int (Ye (40 * jj + (ii - Gl.length)))), (8, .int (Te (40 * jj + (ii - Gl.length)))), (7, .int (nI (40 * jj + (ii - Gl.length)))), (6, .int (nI 0)), (0, .ref (ad 132)), (1, .int (nI jj)), (2, .int aa), (3, .int tt), (4, .int yy), (5, .int (nI ii))] dX8_bySets_148 (by decide) rfl ?_
          refine G.pick [5, 6, 7, 8, 9, 10, 4, 3, 2, 1, 0] [(0, .ref (ad 132)), (1, .int (nI jj)), (2, .int aa), (3, .int tt), (4, .int yy), (5, .int (nI ii)), (6, .int (nI 0)), (7, .int (nI (40 * jj + (ii - Gl.length)))), (8, .int (Te (40 * jj + (ii - Gl.length)))), (9, .int (Ye (40 * jj + (ii - Gl.length)))), (10, .long (Ve (40 * jj + (ii - Gl.length))))] rfl ?_
          exact body _ _ _ _ _ (by rw [← hxx, List.getD_eq_getElem?_getD, List.getElem?_append_right c36, ← List.getD_eq_getElem?_getD, hs _ (by omega)])
        · skip
          refine G.iconst (v := nI 1) dX8_bySets_39 (by decide +kernel) ?_
          refine G.goto 44 dX8_bySets_40 rfl ?_
          refine G.istore [(6, .int (nI 1)), (0, .ref (ad 132)), (1, .int (nI jj)), (2, .int aa), (3, .int tt), (4, .int yy), (5, .int (nI ii))] dX8_bySets_44 (by decide) rfl ?_
          refine G.iload 0 rfl dX8_bySets_46 ?_
          refine G.nif_eq 62 dX8_bySets_48 rfl (by decide) (fun zz => absurd zz (by decide)) (fun _ => ?_)
          refine G.sipush (v := nI 201) dX8_bySets_51 (by decide +kernel) ?_
          refine G.iload_n 2 rfl rfl dX8_bySets_54 ?_
          refine G.imul dX8_bySets_55 ?_
          refine G.topi (nI (201 * jj)) (pk_mul 201 jj) ?_
          refine G.iload 6 rfl dX8_bySets_56 ?_
          refine G.iadd dX8_bySets_58 ?_
          refine G.topi (nI ((201 * jj) + ii)) (nI_add ((201 * jj)) ii) ?_
          refine G.goto 76 dX8_bySets_59 rfl ?_
          refine G.istore [(7, .int (nI ((201 * jj) + ii))), (6, .int (nI 1)), (0, .ref (ad 132)), (1, .int (nI jj)), (2, .int aa), (3, .int tt), (4, .int yy), (5, .int (nI ii))] dX8_bySets_76 (by decide) rfl ?_
          refine G.iload 1 rfl dX8_bySets_78 ?_
          refine G.nif_eq 93 dX8_bySets_80 rfl (by decide) (fun zz => absurd zz (by decide)) (fun _ => ?_)
          refine G.aload_n 2 rfl rfl dX8_bySets_83 ?_
          refine G.get 132 (by omega) h0 rfl twX8 16 (by decide) tb_620 rfl rfl dX8_bySets_84 ?_
          refine G.iload 0 rfl dX8_bySets_87 ?_
          refine G.iald 146 (by omega) e4 ((201 * jj) + ii) (rfl) (by omega) (by omega) dX8_bySets_89 ?_
          refine G.goto 100 dX8_bySets_90 rfl ?_
          refine G.istore [(8, .int (T ((201 * jj) + ii))), (7, .int (nI ((201 * jj) + ii))), (6, .int (nI 1)), (0, .ref (ad 132)), (1, .int (nI jj)), (2, .int aa), (3, .int tt), (4, .int yy), (5, .int (nI ii))] dX8_bySets_100 (by decide) rfl ?_
          refine G.iload 2 rfl dX8_bySets_102 ?_
          refine G.nif_eq 117 dX8_bySets_104 rfl (by decide) (fun zz => absurd zz (by decide)) (fun _ => ?_)
          refine G.aload_n 3 rfl rfl dX8_bySets_107 ?_
          refine G.get 132 (by omega) h0 rfl twX8 17 (by decide) tb_621 rfl rfl dX8_bySets_108 ?_
          refine G.iload 1 rfl dX8_bySets_111 ?_
          refine G.iald 147 (by omega) e5 ((201 * jj) + ii) (rfl) (by omega) (by omega) dX8_bySets_113 ?_
          refine G.goto 124 dX8_bySets_114 rfl ?_
          refine G.istore [(9, .int (Y ((201 * jj) + ii))), (8, .int (T ((201 * jj) + ii))), (7, .int (nI ((201 * jj) + ii))), (6, .int (nI 1)), (0, .ref (ad 132)), (1, .int (nI jj)), (2, .int aa), (3, .int tt), (4, .int yy), (5, .int (nI ii))] dX8_bySets_124 (by decide) rfl ?_
          refine G.iload 3 rfl dX8_bySets_126 ?_
          refine G.nif_eq 141 dX8_bySets_128 rfl (by decide) (fun zz => absurd zz (by decide)) (fun _ => ?_)
          refine G.aload_n 4 rfl rfl dX8_bySets_131 ?_
          refine G.get 132 (by omega) h0 rfl twX8 18 (by decide) tb_622 rfl rfl dX8_bySets_132 ?_
          refine G.iload 2 rfl dX8_bySets_135 ?_
          refine G.lald 148 (by omega) e6 ((201 * jj) + ii) (rfl) (by omega) (by omega) dX8_bySets_137 ?_
          refine G.goto 148 dX8_bySets_138 rfl ?_
          refine G.lstore [(10, .long (V ((201 * jj) + ii))), (9, .int (Y ((201 * jj) + ii))), (8, .int (T ((201 * jj) + ii))), (7, .int (nI ((201 * jj) + ii))), (6, .int (nI 1)), (0, .ref (ad 132)), (1, .int (nI jj)), (2, .int aa), (3, .int tt), (4, .int yy), (5, .int (nI ii))] dX8_bySets_148 (by decide) rfl ?_
          refine G.pick [5, 6, 7, 8, 9, 10, 4, 3, 2, 1, 0] [(0, .ref (ad 132)), (1, .int (nI jj)), (2, .int aa), (3, .int tt), (4, .int yy), (5, .int (nI ii)), (6, .int (nI 1)), (7, .int (nI (201 * jj + ii))), (8, .int (T (201 * jj + ii))), (9, .int (Y (201 * jj + ii))), (10, .long (V (201 * jj + ii)))] rfl ?_
          exact body _ _ _ _ _ (by rw [← hxx, List.getD_eq_getElem?_getD, List.getElem?_append_left (by omega), ← List.getD_eq_getElem?_getD, hr _ (by omega)])
  exact loop (Gl.length + Tl.length) 0 (nI 0) (nI 0) (nI 0) none (by omega) rfl (fun _ => rfl) (fun p hp => by cases hp)
end RefI

