/-! the reference: FALLS, FIRST, JOIN, SPANS -/
section RefE
variable {l : Launch} {t : TT} {N : Nat} {ad : Nat → Nat} {w : Nat → va_E} {n on jb fl io op ot ok fa : Int32} {nw : Nat} {U0 M0 T0 Y0 : Nat → Int32} {V0 : Nat → Int64}
theorem c_X8_fallAll {o1 nm : Nat → Int32} {p : Nat} {W : Int32} {Pl : List RW} (h0 : w 132 = .inr (8, xF ad n on jb fl io op ot ok (nI nw) fa)) (h1 : w 140 = .inl (t.2.1, 12, .inl o1)) (h2 : w 142 = .inl (t.2.1, 12, .inl nm)) (hp : o1 nw = nI p) (hW : nm nw = W) (hpn : p < nw) (hPl : isP p Pl M0 T0 Y0 V0) (hD : isD t w nw [] U0 M0 T0 Y0 V0) (hn : nw < 12) (hN : 153 ≤ N) :
    K l t yX8_fallAll cX8_fallAll 5 none (rD 1) N ad w [.ref (ad 132)]
      (fun res w' => res = none ∧ isR t w' nw (srt aboveT (fallL Pl W Pl.length)) U0 M0 T0 Y0 V0 ∧ ∀ i, i < 143 ∨ 149 ≤ i ∨ i = 145 → w' i = w i) := by
  have zP := hPl.2.1
  refine K.of (own := RX8) (lv := [(0, .ref (ad 132))]) (by decide +kernel) rfl (Nat.le_of_ble_eq_true rfl) rfl (fun P post hret => ?_)
  obtain ⟨U9, M9, T9, Y9, V9, y1, y2, y3, y4, y5, y6, y7, y8, y9, y10, y11⟩ := id hD
  have em9 : M9 p = nI Pl.length := ((y10 p hpn).2).trans hPl.1
  refine G.sipush (v := nI 201) dX8_fallAll_0 (by decide +kernel) ?_
  refine G.aload_n 0 rfl rfl dX8_fallAll_3 ?_
  refine G.get 132 (by omega) h0 rfl twX8 9 (by decide) tb_613 rfl rfl dX8_fallAll_4 ?_
  refine G.aload_n 0 rfl rfl dX8_fallAll_7 ?_
  refine G.get 132 (by omega) h0 rfl twX8 28 (by decide) tb_632 rfl rfl dX8_fallAll_8 ?_
  refine G.iald 140 (by omega) h1 nw (rfl) (by omega) (by omega) dX8_fallAll_11 ?_
  refine G.topi (nI p) (hp) ?_
  refine G.imul dX8_fallAll_12 ?_
  refine G.topi (nI (201 * p)) (pk_mul 201 p) ?_
  refine G.istore_n [(1, .int (nI (201 * p))), (0, .ref (ad 132))] dX8_fallAll_13 rfl (by decide) rfl ?_
  refine G.iload_n 0 rfl rfl dX8_fallAll_14 ?_
  refine G.aload_n 1 rfl rfl dX8_fallAll_15 ?_
  refine G.get 132 (by omega) h0 rfl twX8 14 (by decide) tb_618 rfl rfl dX8_fallAll_16 ?_
  refine G.aload_n 1 rfl rfl dX8_fallAll_19 ?_
  refine G.get 132 (by omega) h0 rfl twX8 9 (by decide) tb_613 rfl rfl dX8_fallAll_20 ?_
  refine G.aload_n 1 rfl rfl dX8_fallAll_23 ?_
  refine G.get 132 (by omega) h0 rfl twX8 28 (by decide) tb_632 rfl rfl dX8_fallAll_24 ?_
  refine G.iald 140 (by omega) h1 nw (rfl) (by omega) (by omega) dX8_fallAll_27 ?_
  refine G.topi (nI p) (hp) ?_
  refine G.iald 144 (by omega) y2 p (rfl) (by omega) (by omega) dX8_fallAll_28 ?_
  refine G.topi (nI Pl.length) (em9) ?_
  refine G.iadd dX8_fallAll_29 ?_
  refine G.topi (nI ((201 * p) + Pl.length)) (nI_add ((201 * p)) Pl.length) ?_
  refine G.istore_n [(2, .int (nI ((201 * p) + Pl.length))), (1, .int (nI (201 * p))), (0, .ref (ad 132))] dX8_fallAll_30 rfl (by decide) rfl ?_
  refine G.iload_n 1 rfl rfl dX8_fallAll_31 ?_
  refine G.istore_n [(3, .int (nI (201 * p))), (2, .int (nI ((201 * p) + Pl.length))), (1, .int (nI (201 * p))), (0, .ref (ad 132))] dX8_fallAll_32 rfl (by decide) rfl ?_
  refine G.pick [3, 2, 1, 0] [(0, .ref (ad 132)), (1, .int (nI (201 * p))), (2, .int (nI (201 * p + Pl.length))), (3, .int (nI (201 * p)))] rfl ?_
  have loop : ∀ (mm ii : Nat) (zw : Nat → va_E), ii + mm = Pl.length → isD t zw nw (fallL Pl W ii) U0 M0 T0 Y0 V0 → (∀ i, i < 143 ∨ 149 ≤ i ∨ i = 145 → zw i = w i) → G l t (rD 1) P cX8_fallAll 5 RX8 none post 0 0 N ad 0 0 33 [(0, .ref (ad 132)), (1, .int (nI (201 * p))), (2, .int (nI (201 * p + Pl.length))), (3, .int (nI (201 * p + ii)))] [] zw := by
    intro mm
    induction mm with
    | zero =>
      intro ii zw hi eD hf
      have f0 := (hf 132 (by omega)).trans h0
      refine G.iload_n 3 rfl rfl dX8_fallAll_33 ?_
      refine G.iload_n 2 rfl rfl dX8_fallAll_34 ?_
      refine G.ncmp_ge 157 dX8_fallAll_35 rfl (by omega) (by omega) (fun c35 => ?_) (fun c35 => ?_)
      · skip
        refine G.aload_n 0 rfl rfl dX8_fallAll_157 ?_
        refine G.iconst (v := nI 0) dX8_fallAll_158 (by decide +kernel) ?_
        refine G.callV (n := 1) 132 (c_X8_rise f0 eD hn hN false) rfl (by omega) f0 rfl tb_772 tb_774 tb_19 tb_42 tb_775 (by decide +kernel) rfl ⟨(Nat.le_of_ble_eq_true rfl), (Nat.le_of_ble_eq_true rfl)⟩ ⟨rfl, rfl⟩ (Nat.le_of_ble_eq_true rfl) ⟨Nat.zero_le _, Nat.zero_le _⟩ dX8_fallAll_159 (fun gr1 zw2 hp => ?_)
        obtain ⟨rfl, h5, hf2⟩ := hp
        refine G.vret rfl rfl rfl dX8_fallAll_162 ?_
        rw [gk_f, show ii = Pl.length by omega] at h5
        exact hret _ _ ⟨rfl, isW.isR h5, fun i hi => (hf2 i (by omega)).trans (hf i hi)⟩
      · skip
        omega
    | succ mm ih =>
      intro ii zw hi eD hf
      have f0 := (hf 132 (by omega)).trans h0
      have f2 := (hf 142 (by omega)).trans h2
      obtain ⟨U, M, T, Y, V, e1, e2, e3, e4, e5, e6, e7, e8, e9, e10, e11⟩ := id eD
      have em : M p = nI Pl.length := ((e10 p (by omega)).2).trans hPl.1
      have ex : ∀ k, k < Pl.length → Pl.getD k r0 = (T (201 * p + k), Y (201 * p + k), V (201 * p + k)) := fun k hk => by
        rw [hPl.2.2 k hk, (e11 (201 * p + k) (by omega)).1, (e11 (201 * p + k) (by omega)).2.1, (e11 (201 * p + k) (by omega)).2.2]
      have fin : ∀ (zw3 : Nat → va_E) (jj : Nat) (R1 : List RW), jj ≤ Pl.length → isD t zw3 nw (fallL Pl W ii ++ R1) U0 M0 T0 Y0 V0 → fall1 Pl W ii = R1 → (∀ i, i < 143 ∨ 149 ≤ i ∨ i = 145 → zw3 i = zw i) → G l t (rD 1) P cX8_fallAll 5 RX8 none post 0 0 N ad 0 0 151 [(0, .ref (ad 132)), (1, .int (nI (201 * p))), (2, .int (nI (201 * p + Pl.length))), (3, .int (nI (201 * p + ii))), (4, .int (nI (201 * p + jj)))] [] zw3 := by
        intro zw3 jj R1 hjj hR he hf3
        refine G.iinc (v := nI ((201 * p + ii) + 1)) [(3, .int (nI ((201 * p + ii) + 1))), (0, .ref (ad 132)), (1, .int (nI (201 * p))), (2, .int (nI (201 * p + Pl.length))), (4, .int (nI (201 * p + jj)))] 3 dX8_fallAll_151 rfl (nI_add ((201 * p + ii)) 1) (by decide) rfl ?_
        refine G.goto 33 dX8_fallAll_154 rfl ?_
        refine G.pick [1, 2, 3, 0] [(0, .ref (ad 132)), (1, .int (nI (201 * p))), (2, .int (nI (201 * p + Pl.length))), (3, .int (nI (201 * p + ii + 1)))] rfl ?_
        exact ih (ii + 1) zw3 (by omega) (by rw [fallL_succ, he]; exact hR) (fun i hi => (hf3 i hi).trans (hf i hi))
      have tail : ∀ (jj : Nat), ii < jj → jj ≤ Pl.length → nextK Pl ii = (if jj < Pl.length then some jj else none) → G l t (rD 1) P cX8_fallAll 5 RX8 none post 0 0 N ad 0 0 71 [(0, .ref (ad 132)), (1, .int (nI (201 * p))), (2, .int (nI (201 * p + Pl.length))), (3, .int (nI (201 * p + ii))), (4, .int (nI (201 * p + jj)))] [] zw := by
        intro jj hij hjl hnx
        refine G.iload 4 rfl dX8_fallAll_71 ?_
        refine G.iload_n 2 rfl rfl dX8_fallAll_73 ?_
        refine G.ncmp_ge 151 dX8_fallAll_74 rfl (by omega) (by omega) (fun c74 => ?_) (fun c74 => ?_)
        · skip
          exact fin zw jj [] (by omega) (by rw [List.append_nil]; exact eD) (by rw [if_neg (by omega)] at hnx; rw [fall1, hnx]) (fun _ _ => rfl)
        · skip
          rw [if_pos (by omega)] at hnx
          have xi := ex ii (by omega)
          have xj := ex jj (by omega)
          have hfa : fall1 Pl W ii = (if V (201 * p + jj) < V (201 * p + ii) ∧ T (201 * p + jj) - T (201 * p + ii) ≤ W then [(T (201 * p + jj), Y (201 * p + ii), V (201 * p + ii) - V (201 * p + jj))] else []) := by
            unfold fall1
            rw [hnx]
            dsimp only
            rw [xi, xj]
          refine G.aload_n 0 rfl rfl dX8_fallAll_77 ?_
          refine G.get 132 (by omega) f0 rfl twX8 18 (by decide) tb_622 rfl rfl dX8_fallAll_78 ?_
          refine G.iload 4 rfl dX8_fallAll_81 ?_
          refine G.lald 148 (by omega) e5 (201 * p + jj) (rfl) (by omega) (by omega) dX8_fallAll_83 ?_
          refine G.aload_n 0 rfl rfl dX8_fallAll_84 ?_
          refine G.get 132 (by omega) f0 rfl twX8 18 (by decide) tb_622 rfl rfl dX8_fallAll_85 ?_
          refine G.iload_n 3 rfl rfl dX8_fallAll_88 ?_
          refine G.lald 148 (by omega) e5 (201 * p + ii) (rfl) (by omega) (by omega) dX8_fallAll_89 ?_
          refine G.lcmp dX8_fallAll_90 ?_
          refine G.if_ge 151 dX8_fallAll_91 rfl (fun c91 => ?_) (fun c91 => ?_)
          · skip
            exact fin zw jj [] (by omega) (by rw [List.append_nil]; exact eD) (by rw [hfa, if_neg (fun q => Int64.not_lt.mpr (lgc_ge.mp c91) q.1)]) (fun _ _ => rfl)
          · skip
            refine G.aload_n 0 rfl rfl dX8_fallAll_94 ?_
            refine G.get 132 (by omega) f0 rfl twX8 16 (by decide) tb_620 rfl rfl dX8_fallAll_95 ?_
            refine G.iload 4 rfl dX8_fallAll_98 ?_
            refine G.iald 146 (by omega) e3 (201 * p + jj) (rfl) (by omega) (by omega) dX8_fallAll_100 ?_
            refine G.aload_n 0 rfl rfl dX8_fallAll_101 ?_
            refine G.get 132 (by omega) f0 rfl twX8 16 (by decide) tb_620 rfl rfl dX8_fallAll_102 ?_
            refine G.iload_n 3 rfl rfl dX8_fallAll_105 ?_
            refine G.iald 146 (by omega) e3 (201 * p + ii) (rfl) (by omega) (by omega) dX8_fallAll_106 ?_
            refine G.isub dX8_fallAll_107 ?_
            refine G.aload_n 0 rfl rfl dX8_fallAll_108 ?_
            refine G.get 132 (by omega) f0 rfl twX8 11 (by decide) tb_615 rfl rfl dX8_fallAll_109 ?_
            refine G.aload_n 0 rfl rfl dX8_fallAll_112 ?_
            refine G.get 132 (by omega) f0 rfl twX8 28 (by decide) tb_632 rfl rfl dX8_fallAll_113 ?_
            refine G.iald 142 (by omega) f2 nw (rfl) (by omega) (by omega) dX8_fallAll_116 ?_
            refine G.topi (W) (hW) ?_
            refine G.icmp_gt 151 dX8_fallAll_117 rfl (fun c117 => ?_) (fun c117 => ?_)
            · skip
              exact fin zw jj [] (by omega) (by rw [List.append_nil]; exact eD) (by rw [hfa, if_neg (fun q => Int32.not_le.mpr c117 q.2)]) (fun _ _ => rfl)
            · skip
              refine G.aload_n 0 rfl rfl dX8_fallAll_120 ?_
              refine G.aload_n 0 rfl rfl dX8_fallAll_121 ?_
              refine G.get 132 (by omega) f0 rfl twX8 16 (by decide) tb_620 rfl rfl dX8_fallAll_122 ?_
              refine G.iload 4 rfl dX8_fallAll_125 ?_
              refine G.iald 146 (by omega) e3 (201 * p + jj) (rfl) (by omega) (by omega) dX8_fallAll_127 ?_
              refine G.aload_n 0 rfl rfl dX8_fallAll_128 ?_
              refine G.get 132 (by omega) f0 rfl twX8 17 (by decide) tb_621 rfl rfl dX8_fallAll_129 ?_
              refine G.iload_n 3 rfl rfl dX8_fallAll_132 ?_
              refine G.iald 147 (by omega) e4 (201 * p + ii) (rfl) (by omega) (by omega) dX8_fallAll_133 ?_
              refine G.aload_n 0 rfl rfl dX8_fallAll_134 ?_
              refine G.get 132 (by omega) f0 rfl twX8 18 (by decide) tb_622 rfl rfl dX8_fallAll_135 ?_
              refine G.iload_n 3 rfl rfl dX8_fallAll_138 ?_
              refine G.lald 148 (by omega) e5 (201 * p + ii) (rfl) (by omega) (by omega) dX8_fallAll_139 ?_
              refine G.aload_n 0 rfl rfl dX8_fallAll_140 ?_
              refine G.get 132 (by omega) f0 rfl twX8 18 (by decide) tb_622 rfl rfl dX8_fallAll_141 ?_
              refine G.iload 4 rfl dX8_fallAll_144 ?_
              refine G.lald 148 (by omega) e5 (201 * p + jj) (rfl) (by omega) (by omega) dX8_fallAll_146 ?_
              refine G.lsub dX8_fallAll_147 ?_
              refine G.callV (n := 3) 132 (c_X8_lay f0 eD hn hN (T (201 * p + jj)) (Y (201 * p + ii)) (V (201 * p + ii) - V (201 * p + jj))) rfl (by omega) f0 rfl tb_768 tb_770 tb_18 tb_42 tb_771 (by decide +kernel) rfl ⟨(Nat.le_of_ble_eq_true rfl), (Nat.le_of_ble_eq_true rfl)⟩ ⟨rfl, rfl⟩ (Nat.le_of_ble_eq_true rfl) ⟨Nat.zero_le _, Nat.zero_le _⟩ dX8_fallAll_148 (fun gr2 zw3 hp => ?_)
              obtain ⟨rfl, h5, hf4⟩ := hp
              exact fin zw3 jj _ (by omega) h5 (by rw [hfa, if_pos ⟨Int64.not_le.mp (fun q => c91 (lgc_ge.mpr q)), Int32.not_lt.mp c117⟩]) hf4
      have inner : ∀ (m2 jj : Nat), jj + m2 = Pl.length → ii < jj → (∀ k, ii < k → k < jj → (Pl.getD k r0).2.1 ≠ (Pl.getD ii r0).2.1) → G l t (rD 1) P cX8_fallAll 5 RX8 none post 0 0 N ad 0 0 43 [(0, .ref (ad 132)), (1, .int (nI (201 * p))), (2, .int (nI (201 * p + Pl.length))), (3, .int (nI (201 * p + ii))), (4, .int (nI (201 * p + jj)))] [] zw := by
        intro m2
        induction m2 with
        | zero =>
          intro jj hj hij hk
          obtain rfl : jj = Pl.length := by omega
          refine G.iload 4 rfl dX8_fallAll_43 ?_
          refine G.iload_n 2 rfl rfl dX8_fallAll_45 ?_
          refine G.ncmp_ge 71 dX8_fallAll_46 rfl (by omega) (by omega) (fun c46 => ?_) (fun c46 => ?_)
          · skip
            exact tail Pl.length hij (Nat.le_refl _) (by rw [if_neg (by omega)]; exact nextK_none hk)
          · skip
            omega
        | succ m2 ih2 =>
          intro jj hj hij hk
          have xi := ex ii (by omega)
          have xj := ex jj (by omega)
          refine G.iload 4 rfl dX8_fallAll_43 ?_
          refine G.iload_n 2 rfl rfl dX8_fallAll_45 ?_
          refine G.ncmp_ge 71 dX8_fallAll_46 rfl (by omega) (by omega) (fun c46 => ?_) (fun c46 => ?_)
          · skip
            omega
          · skip
            refine G.aload_n 0 rfl rfl dX8_fallAll_49 ?_
            refine G.get 132 (by omega) f0 rfl twX8 17 (by decide) tb_621 rfl rfl dX8_fallAll_50 ?_
            refine G.iload 4 rfl dX8_fallAll_53 ?_
            refine G.iald 147 (by omega) e4 (201 * p + jj) (rfl) (by omega) (by omega) dX8_fallAll_55 ?_
            refine G.aload_n 0 rfl rfl dX8_fallAll_56 ?_
            refine G.get 132 (by omega) f0 rfl twX8 17 (by decide) tb_621 rfl rfl dX8_fallAll_57 ?_
            refine G.iload_n 3 rfl rfl dX8_fallAll_60 ?_
            refine G.iald 147 (by omega) e4 (201 * p + ii) (rfl) (by omega) (by omega) dX8_fallAll_61 ?_
            refine G.icmp_eq 71 dX8_fallAll_62 rfl (fun c62 => ?_) (fun c62 => ?_)
            · skip
              exact tail jj hij (by omega) (by rw [if_pos (by omega)]; exact nextK_some hij (by omega) (by rw [xi, xj]; exact c62) hk)
            · skip
              refine G.iinc (v := nI ((201 * p + jj) + 1)) [(4, .int (nI ((201 * p + jj) + 1))), (0, .ref (ad 132)), (1, .int (nI (201 * p))), (2, .int (nI (201 * p + Pl.length))), (3, .int (nI (201 * p + ii)))] 4 dX8_fallAll_65 rfl (nI_add ((201 * p + jj)) 1) (by decide) rfl ?_
              refine G.goto 43 dX8_fallAll_68 rfl ?_
              refine G.pick [1, 2, 3, 4, 0] [(0, .ref (ad 132)), (1, .int (nI (201 * p))), (2, .int (nI (201 * p + Pl.length))), (3, .int (nI (201 * p + ii))), (4, .int (nI (201 * p + jj + 1)))] rfl ?_
              refine ih2 (jj + 1) (by omega) (by omega) (fun k k1 k2 => ?_)
              by_cases q : k = jj
              · subst q; rw [xi, xj]; exact c62
              · exact hk k k1 (by omega)
      refine G.iload_n 3 rfl rfl dX8_fallAll_33 ?_
      refine G.iload_n 2 rfl rfl dX8_fallAll_34 ?_
      refine G.ncmp_ge 157 dX8_fallAll_35 rfl (by omega) (by omega) (fun c35 => ?_) (fun c35 => ?_)
      · skip
        omega
      · skip
        refine G.iload_n 3 rfl rfl dX8_fallAll_38 ?_
        refine G.iconst (v := nI 1) dX8_fallAll_39 (by decide +kernel) ?_
        refine G.iadd dX8_fallAll_40 ?_
        refine G.topi (nI ((201 * p + ii) + 1)) (nI_add ((201 * p + ii)) 1) ?_
        refine G.istore [(4, .int (nI ((201 * p + ii) + 1))), (0, .ref (ad 132)), (1, .int (nI (201 * p))), (2, .int (nI (201 * p + Pl.length))), (3, .int (nI (201 * p + ii)))] dX8_fallAll_41 (by decide) rfl ?_
        refine G.pick [1, 2, 3, 4, 0] [(0, .ref (ad 132)), (1, .int (nI (201 * p))), (2, .int (nI (201 * p + Pl.length))), (3, .int (nI (201 * p + ii))), (4, .int (nI (201 * p + ii + 1)))] rfl ?_
        exact inner (Pl.length - (ii + 1)) (ii + 1) (by omega) (by omega) (fun k k1 k2 => by omega)
  exact loop Pl.length 0 w (by omega) hD (fun _ _ => rfl)
theorem c_X8_firstAll {o1 nm : Nat → Int32} {p m : Nat} {Pl : List RW} (h0 : w 132 = .inr (8, xF ad n on jb fl io op ot ok (nI nw) fa)) (h1 : w 140 = .inl (t.2.1, 12, .inl o1)) (h2 : w 142 = .inl (t.2.1, 12, .inl nm)) (hp : o1 nw = nI p) (hW : nm nw = nI m) (hm : m ≤ 1000) (hpn : p < nw) (hPl : isP p Pl M0 T0 Y0 V0) (hD : isD t w nw [] U0 M0 T0 Y0 V0) (hn : nw < 12) (hN : 153 ≤ N) :
    K l t yX8_firstAll cX8_firstAll 5 none (rD 1) N ad w [.ref (ad 132)]
      (fun res w' => res = none ∧ isR t w' nw (firL Pl m Pl.length) U0 M0 T0 Y0 V0 ∧ ∀ i, i < 143 ∨ 149 ≤ i ∨ i = 145 → w' i = w i) := by
  have zP := hPl.2.1
  refine K.of (own := RX8) (lv := [(0, .ref (ad 132))]) (by decide +kernel) rfl (Nat.le_of_ble_eq_true rfl) rfl (fun P post hret => ?_)
  refine G.sipush (v := nI 201) dX8_firstAll_0 (by decide +kernel) ?_
  refine G.aload_n 0 rfl rfl dX8_firstAll_3 ?_
  refine G.get 132 (by omega) h0 rfl twX8 9 (by decide) tb_613 rfl rfl dX8_firstAll_4 ?_
  refine G.aload_n 0 rfl rfl dX8_firstAll_7 ?_
  refine G.get 132 (by omega) h0 rfl twX8 28 (by decide) tb_632 rfl rfl dX8_firstAll_8 ?_
  refine G.iald 140 (by omega) h1 nw (rfl) (by omega) (by omega) dX8_firstAll_11 ?_
  refine G.topi (nI p) (hp) ?_
  refine G.imul dX8_firstAll_12 ?_
  refine G.topi (nI (201 * p)) (pk_mul 201 p) ?_
  refine G.istore_n [(1, .int (nI (201 * p))), (0, .ref (ad 132))] dX8_firstAll_13 rfl (by decide) rfl ?_
  refine G.iload_n 0 rfl rfl dX8_firstAll_14 ?_
  refine G.istore_n [(2, .int (nI (201 * p))), (1, .int (nI (201 * p))), (0, .ref (ad 132))] dX8_firstAll_15 rfl (by decide) rfl ?_
  refine G.pick [2, 1, 0] [(0, .ref (ad 132)), (1, .int (nI (201 * p))), (2, .int (nI (201 * p)))] rfl ?_
  have loop : ∀ (mm ii : Nat) (zw : Nat → va_E), ii + mm = Pl.length → isD t zw nw (firL Pl m ii) U0 M0 T0 Y0 V0 → (∀ i, i < 143 ∨ 149 ≤ i ∨ i = 145 → zw i = w i) → G l t (rD 1) P cX8_firstAll 5 RX8 none post 0 0 N ad 0 0 16 [(0, .ref (ad 132)), (1, .int (nI (201 * p))), (2, .int (nI (201 * p + ii)))] [] zw := by
    intro mm
    induction mm with
    | zero =>
      intro ii zw hi eD hf
      have f0 := (hf 132 (by omega)).trans h0
      have f1 := (hf 140 (by omega)).trans h1
      obtain ⟨U, M, T, Y, V, e1, e2, e3, e4, e5, e6, e7, e8, e9, e10, e11⟩ := id eD
      have em : M p = nI Pl.length := ((e10 p (by omega)).2).trans hPl.1
      have ex : ∀ k, k < Pl.length → Pl.getD k r0 = (T (201 * p + k), Y (201 * p + k), V (201 * p + k)) := fun k hk => by
        rw [hPl.2.2 k hk, (e11 (201 * p + k) (by omega)).1, (e11 (201 * p + k) (by omega)).2.1, (e11 (201 * p + k) (by omega)).2.2]
      refine G.iload_n 2 rfl rfl dX8_firstAll_16 ?_
      refine G.iload_n 1 rfl rfl dX8_firstAll_17 ?_
      refine G.aload_n 0 rfl rfl dX8_firstAll_18 ?_
      refine G.get 132 (by omega) f0 rfl twX8 14 (by decide) tb_618 rfl rfl dX8_firstAll_19 ?_
      refine G.aload_n 0 rfl rfl dX8_firstAll_22 ?_
      refine G.get 132 (by omega) f0 rfl twX8 9 (by decide) tb_613 rfl rfl dX8_firstAll_23 ?_
      refine G.aload_n 0 rfl rfl dX8_firstAll_26 ?_
      refine G.get 132 (by omega) f0 rfl twX8 28 (by decide) tb_632 rfl rfl dX8_firstAll_27 ?_
      refine G.iald 140 (by omega) f1 nw (rfl) (by omega) (by omega) dX8_firstAll_30 ?_
      refine G.topi (nI p) (hp) ?_
      refine G.iald 144 (by omega) e2 p (rfl) (by omega) (by omega) dX8_firstAll_31 ?_
      refine G.topi (nI Pl.length) (em) ?_
      refine G.iadd dX8_firstAll_32 ?_
      refine G.topi (nI ((201 * p) + Pl.length)) (nI_add ((201 * p)) Pl.length) ?_
      refine G.ncmp_ge 118 dX8_firstAll_33 rfl (by omega) (by omega) (fun c33 => ?_) (fun c33 => ?_)
      · skip
        refine G.vret rfl rfl rfl dX8_firstAll_118 ?_
        rw [show ii = Pl.length by omega] at eD
        exact hret _ _ ⟨rfl, isD.isR eD, hf⟩
      · skip
        omega
    | succ mm ih =>
      intro ii zw hi eD hf
      have f0 := (hf 132 (by omega)).trans h0
      have f1 := (hf 140 (by omega)).trans h1
      have f2 := (hf 142 (by omega)).trans h2
      obtain ⟨U, M, T, Y, V, e1, e2, e3, e4, e5, e6, e7, e8, e9, e10, e11⟩ := id eD
      have em : M p = nI Pl.length := ((e10 p (by omega)).2).trans hPl.1
      have ex : ∀ k, k < Pl.length → Pl.getD k r0 = (T (201 * p + k), Y (201 * p + k), V (201 * p + k)) := fun k hk => by
        rw [hPl.2.2 k hk, (e11 (201 * p + k) (by omega)).1, (e11 (201 * p + k) (by omega)).2.1, (e11 (201 * p + k) (by omega)).2.2]
      have xi := ex ii (by omega)
      have fin : ∀ (zw3 : Nat → va_E) (bb jj : Nat) (R1 : List RW), isD t zw3 nw (firL Pl m ii ++ R1) U0 M0 T0 Y0 V0 → fir1 Pl m ii = R1 → (∀ i, i < 143 ∨ 149 ≤ i ∨ i = 145 → zw3 i = zw i) → G l t (rD 1) P cX8_firstAll 5 RX8 none post 0 0 N ad 0 0 112 [(0, .ref (ad 132)), (1, .int (nI (201 * p))), (2, .int (nI (201 * p + ii))), (3, .int (nI bb)), (4, .int (nI (201 * p + jj)))] [] zw3 := by
        intro zw3 bb jj R1 hR he hf3
        refine G.iinc (v := nI ((201 * p + ii) + 1)) [(2, .int (nI ((201 * p + ii) + 1))), (0, .ref (ad 132)), (1, .int (nI (201 * p))), (3, .int (nI bb)), (4, .int (nI (201 * p + jj)))] 2 dX8_firstAll_112 rfl (nI_add ((201 * p + ii)) 1) (by decide) rfl ?_
        refine G.goto 16 dX8_firstAll_115 rfl ?_
        refine G.pick [1, 2, 0] [(0, .ref (ad 132)), (1, .int (nI (201 * p))), (2, .int (nI (201 * p + ii + 1)))] rfl ?_
        exact ih (ii + 1) zw3 (by omega) (by rw [firL_succ, he]; exact hR) (fun i hi => (hf3 i hi).trans (hf i hi))
      have inner : ∀ (m2 jj bb : Nat), jj + m2 = ii → bb = cntK Pl jj (Y (201 * p + ii)) → G l t (rD 1) P cX8_firstAll 5 RX8 none post 0 0 N ad 0 0 41 [(0, .ref (ad 132)), (1, .int (nI (201 * p))), (2, .int (nI (201 * p + ii))), (3, .int (nI bb)), (4, .int (nI (201 * p + jj)))] [] zw := by
        intro m2
        induction m2 with
        | zero =>
          intro jj bb hj hbb
          have hbl : cntK Pl jj (Y (201 * p + ii)) ≤ jj := by
            have h9 := List.countP_le_length (p := fun x : RW => decide (x.2.1 = Y (201 * p + ii))) (l := Pl.take jj)
            rw [List.length_take] at h9
            unfold cntK; omega
          obtain rfl : jj = ii := by omega
          refine G.iload 4 rfl dX8_firstAll_41 ?_
          refine G.iload_n 2 rfl rfl dX8_firstAll_43 ?_
          refine G.ncmp_ge 77 dX8_firstAll_44 rfl (by omega) (by omega) (fun c44 => ?_) (fun c44 => ?_)
          · skip
            refine G.iload_n 3 rfl rfl dX8_firstAll_77 ?_
            refine G.aload_n 0 rfl rfl dX8_firstAll_78 ?_
            refine G.get 132 (by omega) f0 rfl twX8 11 (by decide) tb_615 rfl rfl dX8_firstAll_79 ?_
            refine G.aload_n 0 rfl rfl dX8_firstAll_82 ?_
            refine G.get 132 (by omega) f0 rfl twX8 28 (by decide) tb_632 rfl rfl dX8_firstAll_83 ?_
            refine G.iald 142 (by omega) f2 nw (rfl) (by omega) (by omega) dX8_firstAll_86 ?_
            refine G.topi (nI m) (hW) ?_
            refine G.ncmp_ge 112 dX8_firstAll_87 rfl (by omega) (by omega) (fun c87 => ?_) (fun c87 => ?_)
            · skip
              exact fin zw bb jj [] (by rw [List.append_nil]; exact eD) (by rw [fir1, xi, ← hbb, if_neg (by omega)]) (fun _ _ => rfl)
            · skip
              refine G.aload_n 0 rfl rfl dX8_firstAll_90 ?_
              refine G.aload_n 0 rfl rfl dX8_firstAll_91 ?_
              refine G.get 132 (by omega) f0 rfl twX8 16 (by decide) tb_620 rfl rfl dX8_firstAll_92 ?_
              refine G.iload_n 2 rfl rfl dX8_firstAll_95 ?_
              refine G.iald 146 (by omega) e3 (201 * p + jj) (rfl) (by omega) (by omega) dX8_firstAll_96 ?_
              refine G.aload_n 0 rfl rfl dX8_firstAll_97 ?_
              refine G.get 132 (by omega) f0 rfl twX8 17 (by decide) tb_621 rfl rfl dX8_firstAll_98 ?_
              refine G.iload_n 2 rfl rfl dX8_firstAll_101 ?_
              refine G.iald 147 (by omega) e4 (201 * p + jj) (rfl) (by omega) (by omega) dX8_firstAll_102 ?_
              refine G.aload_n 0 rfl rfl dX8_firstAll_103 ?_
              refine G.get 132 (by omega) f0 rfl twX8 18 (by decide) tb_622 rfl rfl dX8_firstAll_104 ?_
              refine G.iload_n 2 rfl rfl dX8_firstAll_107 ?_
              refine G.lald 148 (by omega) e5 (201 * p + jj) (rfl) (by omega) (by omega) dX8_firstAll_108 ?_
              refine G.callV (n := 3) 132 (c_X8_lay f0 eD hn hN (T (201 * p + jj)) (Y (201 * p + jj)) (V (201 * p + jj))) rfl (by omega) f0 rfl tb_768 tb_770 tb_18 tb_42 tb_771 (by decide +kernel) rfl ⟨(Nat.le_of_ble_eq_true rfl), (Nat.le_of_ble_eq_true rfl)⟩ ⟨rfl, rfl⟩ (Nat.le_of_ble_eq_true rfl) ⟨Nat.zero_le _, Nat.zero_le _⟩ dX8_firstAll_109 (fun gr1 zw3 hp => ?_)
              obtain ⟨rfl, h5, hf4⟩ := hp
              exact fin zw3 bb jj _ h5 (by rw [fir1, xi, ← hbb, if_pos (by omega)]) hf4
          · skip
            omega
        | succ m2 ih2 =>
          intro jj bb hj hbb
          have xj := ex jj (by omega)
          have hcs := cntK_succ (P := Pl) (i := jj) (by omega) (Y (201 * p + ii))
          rw [xj] at hcs
          refine G.iload 4 rfl dX8_firstAll_41 ?_
          refine G.iload_n 2 rfl rfl dX8_firstAll_43 ?_
          refine G.ncmp_ge 77 dX8_firstAll_44 rfl (by omega) (by omega) (fun c44 => ?_) (fun c44 => ?_)
          · skip
            omega
          · skip
            refine G.iload_n 3 rfl rfl dX8_firstAll_47 ?_
            refine G.aload_n 0 rfl rfl dX8_firstAll_48 ?_
            refine G.get 132 (by omega) f0 rfl twX8 17 (by decide) tb_621 rfl rfl dX8_firstAll_49 ?_
            refine G.iload 4 rfl dX8_firstAll_52 ?_
            refine G.iald 147 (by omega) e4 (201 * p + jj) (rfl) (by omega) (by omega) dX8_firstAll_54 ?_
            refine G.aload_n 0 rfl rfl dX8_firstAll_55 ?_
            refine G.get 132 (by omega) f0 rfl twX8 17 (by decide) tb_621 rfl rfl dX8_firstAll_56 ?_
            refine G.iload_n 2 rfl rfl dX8_firstAll_59 ?_
            refine G.iald 147 (by omega) e4 (201 * p + ii) (rfl) (by omega) (by omega) dX8_firstAll_60 ?_
            refine G.icmp_ne 68 dX8_firstAll_61 rfl (fun c61 => ?_) (fun c61 => ?_)
            · skip
              refine G.iconst (v := nI 0) dX8_firstAll_68 (by decide +kernel) ?_
              refine G.iadd dX8_firstAll_69 ?_
              refine G.topi (nI (bb + 0)) (nI_add bb 0) ?_
              refine G.istore_n [(3, .int (nI (bb + 0))), (0, .ref (ad 132)), (1, .int (nI (201 * p))), (2, .int (nI (201 * p + ii))), (4, .int (nI (201 * p + jj)))] dX8_firstAll_70 rfl (by decide) rfl ?_
              refine G.iinc (v := nI ((201 * p + jj) + 1)) [(4, .int (nI ((201 * p + jj) + 1))), (3, .int (nI (bb + 0))), (0, .ref (ad 132)), (1, .int (nI (201 * p))), (2, .int (nI (201 * p + ii)))] 4 dX8_firstAll_71 rfl (nI_add ((201 * p + jj)) 1) (by decide) rfl ?_
              refine G.goto 41 dX8_firstAll_74 rfl ?_
              refine G.pick [2, 3, 4, 1, 0] [(0, .ref (ad 132)), (1, .int (nI (201 * p))), (2, .int (nI (201 * p + ii))), (3, .int (nI (bb + 0))), (4, .int (nI (201 * p + jj + 1)))] rfl ?_
              exact ih2 (jj + 1) (bb + 0) (by omega) (by rw [hcs, if_neg c61, hbb])
            · skip
              refine G.iconst (v := nI 1) dX8_firstAll_64 (by decide +kernel) ?_
              refine G.goto 69 dX8_firstAll_65 rfl ?_
              refine G.iadd dX8_firstAll_69 ?_
              refine G.topi (nI (bb + 1)) (nI_add bb 1) ?_
              refine G.istore_n [(3, .int (nI (bb + 1))), (0, .ref (ad 132)), (1, .int (nI (201 * p))), (2, .int (nI (201 * p + ii))), (4, .int (nI (201 * p + jj)))] dX8_firstAll_70 rfl (by decide) rfl ?_
              refine G.iinc (v := nI ((201 * p + jj) + 1)) [(4, .int (nI ((201 * p + jj) + 1))), (3, .int (nI (bb + 1))), (0, .ref (ad 132)), (1, .int (nI (201 * p))), (2, .int (nI (201 * p + ii)))] 4 dX8_firstAll_71 rfl (nI_add ((201 * p + jj)) 1) (by decide) rfl ?_
              refine G.goto 41 dX8_firstAll_74 rfl ?_
              refine G.pick [2, 3, 4, 1, 0] [(0, .ref (ad 132)), (1, .int (nI (201 * p))), (2, .int (nI (201 * p + ii))), (3, .int (nI (bb + 1))), (4, .int (nI (201 * p + jj + 1)))] rfl ?_
              exact ih2 (jj + 1) (bb + 1) (by omega) (by rw [hcs, if_pos c61, hbb])
      refine G.iload_n 2 rfl rfl dX8_firstAll_16 ?_
      refine G.iload_n 1 rfl rfl dX8_firstAll_17 ?_
      refine G.aload_n 0 rfl rfl dX8_firstAll_18 ?_
      refine G.get 132 (by omega) f0 rfl twX8 14 (by decide) tb_618 rfl rfl dX8_firstAll_19 ?_
      refine G.aload_n 0 rfl rfl dX8_firstAll_22 ?_
      refine G.get 132 (by omega) f0 rfl twX8 9 (by decide) tb_613 rfl rfl dX8_firstAll_23 ?_
      refine G.aload_n 0 rfl rfl dX8_firstAll_26 ?_
      refine G.get 132 (by omega) f0 rfl twX8 28 (by decide) tb_632 rfl rfl dX8_firstAll_27 ?_
      refine G.iald 140 (by omega) f1 nw (rfl) (by omega) (by omega) dX8_firstAll_30 ?_
      refine G.topi (nI p) (hp) ?_
      refine G.iald 144 (by omega) e2 p (rfl) (by omega) (by omega) dX8_firstAll_31 ?_
      refine G.topi (nI Pl.length) (em) ?_
      refine G.iadd dX8_firstAll_32 ?_
      refine G.topi (nI ((201 * p) + Pl.length)) (nI_add ((201 * p)) Pl.length) ?_
      refine G.ncmp_ge 118 dX8_firstAll_33 rfl (by omega) (by omega) (fun c33 => ?_) (fun c33 => ?_)
      · skip
        omega
      · skip
        refine G.iconst (v := nI 0) dX8_firstAll_36 (by decide +kernel) ?_
        refine G.istore_n [(3, .int (nI 0)), (0, .ref (ad 132)), (1, .int (nI (201 * p))), (2, .int (nI (201 * p + ii)))] dX8_firstAll_37 rfl (by decide) rfl ?_
        refine G.iload_n 2 rfl rfl dX8_firstAll_38 ?_
        refine G.istore [(4, .int (nI (201 * p))), (3, .int (nI 0)), (0, .ref (ad 132)), (1, .int (nI (201 * p))), (2, .int (nI (201 * p + ii)))] dX8_firstAll_39 (by decide) rfl ?_
        refine G.pick [2, 3, 4, 1, 0] [(0, .ref (ad 132)), (1, .int (nI (201 * p))), (2, .int (nI (201 * p + ii))), (3, .int (nI 0)), (4, .int (nI (201 * p)))] rfl ?_
        exact inner ii 0 0 (by omega) rfl
  exact loop Pl.length 0 w (by omega) hD (fun _ _ => rfl)
set_option maxHeartbeats 1000000 in
theorem c_X8_joinAll {o1 o2 nm : Nat → Int32} {p q W : Nat} {Pl Ql : List RW} (h0 : w 132 = .inr (8, xF ad n on jb fl io op ot ok (nI nw) fa)) (h1 : w 140 = .inl (t.2.1, 12, .inl o1)) (h2 : w 141 = .inl (t.2.1, 12, .inl o2)) (h3 : w 142 = .inl (t.2.1, 12, .inl nm)) (hp : o1 nw = nI p) (hq : o2 nw = nI q) (hW : nm nw = nI W) (hWb : W ≤ 1000) (hpn : p < nw) (hqn : q < nw) (hPl : isP p Pl M0 T0 Y0 V0) (hQl : isP q Ql M0 T0 Y0 V0) (okP : ∀ j, j < Pl.length → okR (Pl.getD j r0)) (okQ : ∀ j, j < Ql.length → okR (Ql.getD j r0)) (hD : isD t w nw [] U0 M0 T0 Y0 V0) (hn : nw < 12) (hN : 153 ≤ N) :
    K l t yX8_joinAll cX8_joinAll 6 none (rD 1) N ad w [.ref (ad 132)]
      (fun res w' => res = none ∧ isR t w' nw (srt aboveT (jn Pl Ql W)) U0 M0 T0 Y0 V0 ∧ ∀ i, i < 143 ∨ 149 ≤ i ∨ i = 145 → w' i = w i) := by
  have zP := hPl.2.1
  have zQ := hQl.2.1
  refine K.of (own := RX8) (lv := [(0, .ref (ad 132))]) (by decide +kernel) rfl (Nat.le_of_ble_eq_true rfl) rfl (fun P post hret => ?_)
  refine G.sipush (v := nI 201) dX8_joinAll_0 (by decide +kernel) ?_
  refine G.aload_n 0 rfl rfl dX8_joinAll_3 ?_
  refine G.get 132 (by omega) h0 rfl twX8 9 (by decide) tb_613 rfl rfl dX8_joinAll_4 ?_
  refine G.aload_n 0 rfl rfl dX8_joinAll_7 ?_
  refine G.get 132 (by omega) h0 rfl twX8 28 (by decide) tb_632 rfl rfl dX8_joinAll_8 ?_
  refine G.iald 140 (by omega) h1 nw (rfl) (by omega) (by omega) dX8_joinAll_11 ?_
  refine G.topi (nI p) (hp) ?_
  refine G.imul dX8_joinAll_12 ?_
  refine G.topi (nI (201 * p)) (pk_mul 201 p) ?_
  refine G.istore_n [(1, .int (nI (201 * p))), (0, .ref (ad 132))] dX8_joinAll_13 rfl (by decide) rfl ?_
  refine G.sipush (v := nI 201) dX8_joinAll_14 (by decide +kernel) ?_
  refine G.aload_n 1 rfl rfl dX8_joinAll_17 ?_
  refine G.get 132 (by omega) h0 rfl twX8 10 (by decide) tb_614 rfl rfl dX8_joinAll_18 ?_
  refine G.aload_n 1 rfl rfl dX8_joinAll_21 ?_
  refine G.get 132 (by omega) h0 rfl twX8 28 (by decide) tb_632 rfl rfl dX8_joinAll_22 ?_
  refine G.iald 141 (by omega) h2 nw (rfl) (by omega) (by omega) dX8_joinAll_25 ?_
  refine G.topi (nI q) (hq) ?_
  refine G.imul dX8_joinAll_26 ?_
  refine G.topi (nI (201 * q)) (pk_mul 201 q) ?_
  refine G.istore_n [(2, .int (nI (201 * q))), (1, .int (nI (201 * p))), (0, .ref (ad 132))] dX8_joinAll_27 rfl (by decide) rfl ?_
  refine G.iload_n 1 rfl rfl dX8_joinAll_28 ?_
  refine G.istore_n [(3, .int (nI (201 * p))), (2, .int (nI (201 * q))), (1, .int (nI (201 * p))), (0, .ref (ad 132))] dX8_joinAll_29 rfl (by decide) rfl ?_
  refine G.pick [3, 2, 1, 0] [(0, .ref (ad 132)), (1, .int (nI (201 * p))), (2, .int (nI (201 * q))), (3, .int (nI (201 * p)))] rfl ?_
  have loop : ∀ (mm ii : Nat) (zw : Nat → va_E), ii + mm = Pl.length → isD t zw nw (jn (Pl.take ii) Ql W) U0 M0 T0 Y0 V0 → (∀ i, i < 143 ∨ 149 ≤ i ∨ i = 145 → zw i = w i) → G l t (rD 1) P cX8_joinAll 6 RX8 none post 0 0 N ad 0 0 30 [(0, .ref (ad 132)), (1, .int (nI (201 * p))), (2, .int (nI (201 * q))), (3, .int (nI (201 * p + ii)))] [] zw := by
    intro mm
    induction mm with
    | zero =>
      intro ii zw hi eD hf
      have f0 := (hf 132 (by omega)).trans h0
      have f1 := (hf 140 (by omega)).trans h1
      obtain ⟨U, M, T, Y, V, e1, e2, e3, e4, e5, e6, e7, e8, e9, e10, e11⟩ := id eD
      have em : M p = nI Pl.length := ((e10 p (by omega)).2).trans hPl.1
      have ex : ∀ k, k < Pl.length → Pl.getD k r0 = (T (201 * p + k), Y (201 * p + k), V (201 * p + k)) := fun k hk => by
        rw [hPl.2.2 k hk, (e11 (201 * p + k) (by omega)).1, (e11 (201 * p + k) (by omega)).2.1, (e11 (201 * p + k) (by omega)).2.2]
      refine G.iload_n 3 rfl rfl dX8_joinAll_30 ?_
      refine G.iload_n 1 rfl rfl dX8_joinAll_31 ?_
      refine G.aload_n 0 rfl rfl dX8_joinAll_32 ?_
      refine G.get 132 (by omega) f0 rfl twX8 14 (by decide) tb_618 rfl rfl dX8_joinAll_33 ?_
      refine G.aload_n 0 rfl rfl dX8_joinAll_36 ?_
      refine G.get 132 (by omega) f0 rfl twX8 9 (by decide) tb_613 rfl rfl dX8_joinAll_37 ?_
      refine G.aload_n 0 rfl rfl dX8_joinAll_40 ?_
      refine G.get 132 (by omega) f0 rfl twX8 28 (by decide) tb_632 rfl rfl dX8_joinAll_41 ?_
      refine G.iald 140 (by omega) f1 nw (rfl) (by omega) (by omega) dX8_joinAll_44 ?_
      refine G.topi (nI p) (hp) ?_
      refine G.iald 144 (by omega) e2 p (rfl) (by omega) (by omega) dX8_joinAll_45 ?_
      refine G.topi (nI Pl.length) (em) ?_
      refine G.iadd dX8_joinAll_46 ?_
      refine G.topi (nI ((201 * p) + Pl.length)) (nI_add ((201 * p)) Pl.length) ?_
      refine G.ncmp_ge 196 dX8_joinAll_47 rfl (by omega) (by omega) (fun c47 => ?_) (fun c47 => ?_)
      · skip
        refine G.aload_n 0 rfl rfl dX8_joinAll_196 ?_
        refine G.iconst (v := nI 0) dX8_joinAll_197 (by decide +kernel) ?_
        refine G.callV (n := 1) 132 (c_X8_rise f0 eD hn hN false) rfl (by omega) f0 rfl tb_772 tb_774 tb_19 tb_42 tb_775 (by decide +kernel) rfl ⟨(Nat.le_of_ble_eq_true rfl), (Nat.le_of_ble_eq_true rfl)⟩ ⟨rfl, rfl⟩ (Nat.le_of_ble_eq_true rfl) ⟨Nat.zero_le _, Nat.zero_le _⟩ dX8_joinAll_198 (fun gr1 zw2 hp => ?_)
        obtain ⟨rfl, h5, hf2⟩ := hp
        refine G.vret rfl rfl rfl dX8_joinAll_201 ?_
        rw [gk_f, List.take_of_length_le (show Pl.length ≤ ii by omega)] at h5
        exact hret _ _ ⟨rfl, isW.isR h5, fun i hi => (hf2 i (by omega)).trans (hf i hi)⟩
      · skip
        omega
    | succ mm ih =>
      intro ii zw hi eD hf
      have inner : ∀ (m2 jj : Nat) (zw3 : Nat → va_E), jj + m2 = Ql.length → isD t zw3 nw (jn (Pl.take ii) Ql W ++ jRow W (Pl.getD ii r0) (Ql.take jj)) U0 M0 T0 Y0 V0 → (∀ i, i < 143 ∨ 149 ≤ i ∨ i = 145 → zw3 i = w i) → G l t (rD 1) P cX8_joinAll 6 RX8 none post 0 0 N ad 0 0 53 [(0, .ref (ad 132)), (1, .int (nI (201 * p))), (2, .int (nI (201 * q))), (3, .int (nI (201 * p + ii))), (4, .int (nI (201 * q + jj)))] [] zw3 := by
        intro m2
        induction m2 with
        | zero =>
          intro jj zw3 hj eD hf
          have f0 := (hf 132 (by omega)).trans h0
          have f2 := (hf 141 (by omega)).trans h2
          obtain ⟨U, M, T, Y, V, e1, e2, e3, e4, e5, e6, e7, e8, e9, e10, e11⟩ := id eD
          have em : M q = nI Ql.length := ((e10 q (by omega)).2).trans hQl.1
          have ex : ∀ k, k < Ql.length → Ql.getD k r0 = (T (201 * q + k), Y (201 * q + k), V (201 * q + k)) := fun k hk => by
            rw [hQl.2.2 k hk, (e11 (201 * q + k) (by omega)).1, (e11 (201 * q + k) (by omega)).2.1, (e11 (201 * q + k) (by omega)).2.2]
          refine G.iload 4 rfl dX8_joinAll_53 ?_
          refine G.iload_n 2 rfl rfl dX8_joinAll_55 ?_
          refine G.aload_n 0 rfl rfl dX8_joinAll_56 ?_
          refine G.get 132 (by omega) f0 rfl twX8 14 (by decide) tb_618 rfl rfl dX8_joinAll_57 ?_
          refine G.aload_n 0 rfl rfl dX8_joinAll_60 ?_
          refine G.get 132 (by omega) f0 rfl twX8 10 (by decide) tb_614 rfl rfl dX8_joinAll_61 ?_
          refine G.aload_n 0 rfl rfl dX8_joinAll_64 ?_
          refine G.get 132 (by omega) f0 rfl twX8 28 (by decide) tb_632 rfl rfl dX8_joinAll_65 ?_
          refine G.iald 141 (by omega) f2 nw (rfl) (by omega) (by omega) dX8_joinAll_68 ?_
          refine G.topi (nI q) (hq) ?_
          refine G.iald 144 (by omega) e2 q (rfl) (by omega) (by omega) dX8_joinAll_69 ?_
          refine G.topi (nI Ql.length) (em) ?_
          refine G.iadd dX8_joinAll_70 ?_
          refine G.topi (nI ((201 * q) + Ql.length)) (nI_add ((201 * q)) Ql.length) ?_
          refine G.ncmp_ge 190 dX8_joinAll_71 rfl (by omega) (by omega) (fun c71 => ?_) (fun c71 => ?_)
          · skip
            refine G.iinc (v := nI ((201 * p + ii) + 1)) [(3, .int (nI ((201 * p + ii) + 1))), (0, .ref (ad 132)), (1, .int (nI (201 * p))), (2, .int (nI (201 * q))), (4, .int (nI (201 * q + jj)))] 3 dX8_joinAll_190 rfl (nI_add ((201 * p + ii)) 1) (by decide) rfl ?_
            refine G.goto 30 dX8_joinAll_193 rfl ?_
            refine G.pick [1, 2, 3, 0] [(0, .ref (ad 132)), (1, .int (nI (201 * p))), (2, .int (nI (201 * q))), (3, .int (nI (201 * p + ii + 1)))] rfl ?_
            exact ih (ii + 1) zw3 (by omega) (by rw [jn_succ (by omega)]; rw [List.take_of_length_le (show Ql.length ≤ jj by omega)] at eD; exact eD) hf
          · skip
            omega
        | succ m2 ih2 =>
          intro jj zw3 hj eD hf
          have f0 := (hf 132 (by omega)).trans h0
          have f2 := (hf 141 (by omega)).trans h2
          have f3 := (hf 142 (by omega)).trans h3
          obtain ⟨U, M, T, Y, V, e1, e2, e3, e4, e5, e6, e7, e8, e9, e10, e11⟩ := id eD
          have emp : M p = nI Pl.length := ((e10 p (by omega)).2).trans hPl.1
          have exp : ∀ k, k < Pl.length → Pl.getD k r0 = (T (201 * p + k), Y (201 * p + k), V (201 * p + k)) := fun k hk => by
            rw [hPl.2.2 k hk, (e11 (201 * p + k) (by omega)).1, (e11 (201 * p + k) (by omega)).2.1, (e11 (201 * p + k) (by omega)).2.2]
          have emq : M q = nI Ql.length := ((e10 q (by omega)).2).trans hQl.1
          have exq : ∀ k, k < Ql.length → Ql.getD k r0 = (T (201 * q + k), Y (201 * q + k), V (201 * q + k)) := fun k hk => by
            rw [hQl.2.2 k hk, (e11 (201 * q + k) (by omega)).1, (e11 (201 * q + k) (by omega)).2.1, (e11 (201 * q + k) (by omega)).2.2]
          have xi := exp ii (by omega)
          have xj := exq jj (by omega)
          obtain ⟨m1, m3⟩ := jM_ref (okP ii (by omega)) (okQ jj (by omega)) hWb
          have sR : jRow W (Pl.getD ii r0) (Ql.take (jj + 1)) = jRow W (Pl.getD ii r0) (Ql.take jj) ++ (if (decide (Y (201 * p + ii) = Y (201 * q + jj)) && (decide (T (201 * p + ii) - T (201 * q + jj) ≤ nI W) && decide (-(T (201 * p + ii) - T (201 * q + jj)) ≤ nI W))) = true then [(if 0 < T (201 * p + ii) - T (201 * q + jj) then T (201 * p + ii) else T (201 * q + jj), Y (201 * p + ii), 1000 * V (201 * p + ii) + V (201 * q + jj))] else []) := by
            rw [jRow_succ (by omega), m1, m3]
            simp only [xi, xj]
          have fin : ∀ (zw4 : Nat → va_E) (R1 : List RW), isD t zw4 nw (jn (Pl.take ii) Ql W ++ jRow W (Pl.getD ii r0) (Ql.take jj) ++ R1) U0 M0 T0 Y0 V0 → jRow W (Pl.getD ii r0) (Ql.take (jj + 1)) = jRow W (Pl.getD ii r0) (Ql.take jj) ++ R1 → (∀ i, i < 143 ∨ 149 ≤ i ∨ i = 145 → zw4 i = zw3 i) → G l t (rD 1) P cX8_joinAll 6 RX8 none post 0 0 N ad 0 0 184 [(0, .ref (ad 132)), (1, .int (nI (201 * p))), (2, .int (nI (201 * q))), (3, .int (nI (201 * p + ii))), (4, .int (nI (201 * q + jj)))] [] zw4 := by
            intro zw4 R1 hR he hf3
            refine G.iinc (v := nI ((201 * q + jj) + 1)) [(4, .int (nI ((201 * q + jj) + 1))), (0, .ref (ad 132)), (1, .int (nI (201 * p))), (2, .int (nI (201 * q))), (3, .int (nI (201 * p + ii)))] 4 dX8_joinAll_184 rfl (nI_add ((201 * q + jj)) 1) (by decide) rfl ?_
            refine G.goto 53 dX8_joinAll_187 rfl ?_
            refine G.pick [1, 2, 3, 4, 0] [(0, .ref (ad 132)), (1, .int (nI (201 * p))), (2, .int (nI (201 * q))), (3, .int (nI (201 * p + ii))), (4, .int (nI (201 * q + jj + 1)))] rfl ?_
            exact ih2 (jj + 1) zw4 (by omega) (by rw [he, ← List.append_assoc]; exact hR) (fun i hi => (hf3 i hi).trans (hf i hi))
          refine G.iload 4 rfl dX8_joinAll_53 ?_
          refine G.iload_n 2 rfl rfl dX8_joinAll_55 ?_
          refine G.aload_n 0 rfl rfl dX8_joinAll_56 ?_
          refine G.get 132 (by omega) f0 rfl twX8 14 (by decide) tb_618 rfl rfl dX8_joinAll_57 ?_
          refine G.aload_n 0 rfl rfl dX8_joinAll_60 ?_
          refine G.get 132 (by omega) f0 rfl twX8 10 (by decide) tb_614 rfl rfl dX8_joinAll_61 ?_
          refine G.aload_n 0 rfl rfl dX8_joinAll_64 ?_
          refine G.get 132 (by omega) f0 rfl twX8 28 (by decide) tb_632 rfl rfl dX8_joinAll_65 ?_
          refine G.iald 141 (by omega) f2 nw (rfl) (by omega) (by omega) dX8_joinAll_68 ?_
          refine G.topi (nI q) (hq) ?_
          refine G.iald 144 (by omega) e2 q (rfl) (by omega) (by omega) dX8_joinAll_69 ?_
          refine G.topi (nI Ql.length) (emq) ?_
          refine G.iadd dX8_joinAll_70 ?_
          refine G.topi (nI ((201 * q) + Ql.length)) (nI_add ((201 * q)) Ql.length) ?_
          refine G.ncmp_ge 190 dX8_joinAll_71 rfl (by omega) (by omega) (fun c71 => ?_) (fun c71 => ?_)
          · skip
            omega
          · skip
            refine G.aload_n 0 rfl rfl dX8_joinAll_74 ?_
            refine G.get 132 (by omega) f0 rfl twX8 16 (by decide) tb_620 rfl rfl dX8_joinAll_75 ?_
            refine G.iload_n 3 rfl rfl dX8_joinAll_78 ?_
            refine G.iald 146 (by omega) e3 (201 * p + ii) (rfl) (by omega) (by omega) dX8_joinAll_79 ?_
            refine G.aload_n 0 rfl rfl dX8_joinAll_80 ?_
            refine G.get 132 (by omega) f0 rfl twX8 16 (by decide) tb_620 rfl rfl dX8_joinAll_81 ?_
            refine G.iload 4 rfl dX8_joinAll_84 ?_
            refine G.iald 146 (by omega) e3 (201 * q + jj) (rfl) (by omega) (by omega) dX8_joinAll_86 ?_
            refine G.isub dX8_joinAll_87 ?_
            refine G.namei (fun apa hapa => ?_)
            rw [← hapa] at sR
            refine G.istore [(5, .int apa), (0, .ref (ad 132)), (1, .int (nI (201 * p))), (2, .int (nI (201 * q))), (3, .int (nI (201 * p + ii))), (4, .int (nI (201 * q + jj)))] dX8_joinAll_88 (by decide) rfl ?_
            refine G.aload_n 1 rfl rfl dX8_joinAll_90 ?_
            refine G.get 132 (by omega) f0 rfl twX8 17 (by decide) tb_621 rfl rfl dX8_joinAll_91 ?_
            refine G.iload_n 4 rfl rfl dX8_joinAll_94 ?_
            refine G.iald 147 (by omega) e4 (201 * p + ii) (rfl) (by omega) (by omega) dX8_joinAll_95 ?_
            refine G.aload_n 1 rfl rfl dX8_joinAll_96 ?_
            refine G.get 132 (by omega) f0 rfl twX8 17 (by decide) tb_621 rfl rfl dX8_joinAll_97 ?_
            refine G.iload 5 rfl dX8_joinAll_100 ?_
            refine G.iald 147 (by omega) e4 (201 * q + jj) (rfl) (by omega) (by omega) dX8_joinAll_102 ?_
            refine G.icmp_ne 184 dX8_joinAll_103 rfl (fun c103 => ?_) (fun c103 => ?_)
            · skip
              refine G.pick [1, 2, 3, 4, 5] [(0, .ref (ad 132)), (1, .int (nI (201 * p))), (2, .int (nI (201 * q))), (3, .int (nI (201 * p + ii))), (4, .int (nI (201 * q + jj)))] rfl ?_
              exact fin zw3 [] (by rw [List.append_nil]; exact eD) (by rw [sR, decide_eq_false c103]; rfl) (fun _ _ => rfl)
            · skip
              refine G.iload 0 rfl dX8_joinAll_106 ?_
              refine G.aload_n 1 rfl rfl dX8_joinAll_108 ?_
              refine G.get 132 (by omega) f0 rfl twX8 11 (by decide) tb_615 rfl rfl dX8_joinAll_109 ?_
              refine G.aload_n 1 rfl rfl dX8_joinAll_112 ?_
              refine G.get 132 (by omega) f0 rfl twX8 28 (by decide) tb_632 rfl rfl dX8_joinAll_113 ?_
              refine G.iald 142 (by omega) f3 nw (rfl) (by omega) (by omega) dX8_joinAll_116 ?_
              refine G.topi (nI W) (hW) ?_
              refine G.icmp_gt 184 dX8_joinAll_117 rfl (fun c117 => ?_) (fun c117 => ?_)
              · skip
                refine G.pick [1, 2, 3, 4, 5] [(0, .ref (ad 132)), (1, .int (nI (201 * p))), (2, .int (nI (201 * q))), (3, .int (nI (201 * p + ii))), (4, .int (nI (201 * q + jj)))] rfl ?_
                exact fin zw3 [] (by rw [List.append_nil]; exact eD) (by rw [sR, decide_eq_false (Int32.not_le.mpr c117), Bool.false_and, Bool.and_false]; rfl) (fun _ _ => rfl)
              · skip
                refine G.iload 0 rfl dX8_joinAll_120 ?_
                refine G.ineg dX8_joinAll_122 ?_
                refine G.aload_n 1 rfl rfl dX8_joinAll_123 ?_
                refine G.get 132 (by omega) f0 rfl twX8 11 (by decide) tb_615 rfl rfl dX8_joinAll_124 ?_
                refine G.aload_n 1 rfl rfl dX8_joinAll_127 ?_
                refine G.get 132 (by omega) f0 rfl twX8 28 (by decide) tb_632 rfl rfl dX8_joinAll_128 ?_
                refine G.iald 142 (by omega) f3 nw (rfl) (by omega) (by omega) dX8_joinAll_131 ?_
                refine G.topi (nI W) (hW) ?_
                refine G.icmp_gt 184 dX8_joinAll_132 rfl (fun c132 => ?_) (fun c132 => ?_)
                · skip
                  refine G.pick [1, 2, 3, 4, 5] [(0, .ref (ad 132)), (1, .int (nI (201 * p))), (2, .int (nI (201 * q))), (3, .int (nI (201 * p + ii))), (4, .int (nI (201 * q + jj)))] rfl ?_
                  exact fin zw3 [] (by rw [List.append_nil]; exact eD) (by rw [sR, decide_eq_false (Int32.not_le.mpr c132), Bool.and_false, Bool.and_false]; rfl) (fun _ _ => rfl)
                · skip
                  rw [decide_eq_true c103, decide_eq_true (Int32.not_lt.mp c117), decide_eq_true (Int32.not_lt.mp c132), Bool.and_self, Bool.and_self, if_pos rfl] at sR
                  refine G.aload_n 1 rfl rfl dX8_joinAll_135 ?_
                  refine G.iload 0 rfl dX8_joinAll_136 ?_
                  refine G.if_le 150 dX8_joinAll_138 rfl (fun c138 => ?_) (fun c138 => ?_)
                  · skip
                    rw [if_neg (Int32.not_lt.mpr c138)] at sR
                    refine G.aload_n 1 rfl rfl dX8_joinAll_150 ?_
                    refine G.get 132 (by omega) f0 rfl twX8 16 (by decide) tb_620 rfl rfl dX8_joinAll_151 ?_
                    refine G.iload 5 rfl dX8_joinAll_154 ?_
                    refine G.iald 146 (by omega) e3 (201 * q + jj) (rfl) (by omega) (by omega) dX8_joinAll_156 ?_
                    refine G.aload_n 1 rfl rfl dX8_joinAll_157 ?_
                    refine G.get 132 (by omega) f0 rfl twX8 17 (by decide) tb_621 rfl rfl dX8_joinAll_158 ?_
                    refine G.iload_n 4 rfl rfl dX8_joinAll_161 ?_
                    refine G.iald 147 (by omega) e4 (201 * p + ii) (rfl) (by omega) (by omega) dX8_joinAll_162 ?_
                    refine G.ldc2_w dX8_joinAll_163 tb_784 ?_
                    refine G.aload_n 1 rfl rfl dX8_joinAll_166 ?_
                    refine G.get 132 (by omega) f0 rfl twX8 18 (by decide) tb_622 rfl rfl dX8_joinAll_167 ?_
                    refine G.iload_n 4 rfl rfl dX8_joinAll_170 ?_
                    refine G.lald 148 (by omega) e5 (201 * p + ii) (rfl) (by omega) (by omega) dX8_joinAll_171 ?_
                    refine G.lmul dX8_joinAll_172 ?_
                    refine G.aload_n 1 rfl rfl dX8_joinAll_173 ?_
                    refine G.get 132 (by omega) f0 rfl twX8 18 (by decide) tb_622 rfl rfl dX8_joinAll_174 ?_
                    refine G.iload 5 rfl dX8_joinAll_177 ?_
                    refine G.lald 148 (by omega) e5 (201 * q + jj) (rfl) (by omega) (by omega) dX8_joinAll_179 ?_
                    refine G.ladd dX8_joinAll_180 ?_
                    refine G.callV (n := 3) 132 (c_X8_lay f0 eD hn hN (T (201 * q + jj)) (Y (201 * p + ii)) (1000 * V (201 * p + ii) + V (201 * q + jj))) rfl (by omega) f0 rfl tb_768 tb_770 tb_18 tb_42 tb_771 (by decide +kernel) rfl ⟨(Nat.le_of_ble_eq_true rfl), (Nat.le_of_ble_eq_true rfl)⟩ ⟨rfl, rfl⟩ (Nat.le_of_ble_eq_true rfl) ⟨Nat.zero_le _, Nat.zero_le _⟩ dX8_joinAll_181 (fun gr2 zw4 hp => ?_)
                    obtain ⟨rfl, h5, hf4⟩ := hp
                    refine G.pick [1, 2, 3, 4, 5] [(0, .ref (ad 132)), (1, .int (nI (201 * p))), (2, .int (nI (201 * q))), (3, .int (nI (201 * p + ii))), (4, .int (nI (201 * q + jj)))] rfl ?_
                    exact fin zw4 _ h5 sR hf4
                  · skip
                    rw [if_pos (Int32.not_le.mp c138)] at sR
                    refine G.aload_n 1 rfl rfl dX8_joinAll_141 ?_
                    refine G.get 132 (by omega) f0 rfl twX8 16 (by decide) tb_620 rfl rfl dX8_joinAll_142 ?_
                    refine G.iload_n 4 rfl rfl dX8_joinAll_145 ?_
                    refine G.iald 146 (by omega) e3 (201 * p + ii) (rfl) (by omega) (by omega) dX8_joinAll_146 ?_
                    refine G.goto 157 dX8_joinAll_147 rfl ?_
                    refine G.aload_n 1 rfl rfl dX8_joinAll_157 ?_
                    refine G.get 132 (by omega) f0 rfl twX8 17 (by decide) tb_621 rfl rfl dX8_joinAll_158 ?_
                    refine G.iload_n 4 rfl rfl dX8_joinAll_161 ?_
                    refine G.iald 147 (by omega) e4 (201 * p + ii) (rfl) (by omega) (by omega) dX8_joinAll_162 ?_
                    refine G.ldc2_w dX8_joinAll_163 tb_784 ?_
                    refine G.aload_n 1 rfl rfl dX8_joinAll_166 ?_
                    refine G.get 132 (by omega) f0 rfl twX8 18 (by decide) tb_622 rfl rfl dX8_joinAll_167 ?_
                    refine G.iload_n 4 rfl rfl dX8_joinAll_170 ?_
                    refine G.lald 148 (by omega) e5 (201 * p + ii) (rfl) (by omega) (by omega) dX8_joinAll_171 ?_
                    refine G.lmul dX8_joinAll_172 ?_
                    refine G.aload_n 1 rfl rfl dX8_joinAll_173 ?_
                    refine G.get 132 (by omega) f0 rfl twX8 18 (by decide) tb_622 rfl rfl dX8_joinAll_174 ?_
                    refine G.iload 5 rfl dX8_joinAll_177 ?_
                    refine G.lald 148 (by omega) e5 (201 * q + jj) (rfl) (by omega) (by omega) dX8_joinAll_179 ?_
                    refine G.ladd dX8_joinAll_180 ?_
                    refine G.callV (n := 3) 132 (c_X8_lay f0 eD hn hN (T (201 * p + ii)) (Y (201 * p + ii)) (1000 * V (201 * p + ii) + V (201 * q + jj))) rfl (by omega) f0 rfl tb_768 tb_770 tb_18 tb_42 tb_771 (by decide +kernel) rfl ⟨(Nat.le_of_ble_eq_true rfl), (Nat.le_of_ble_eq_true rfl)⟩ ⟨rfl, rfl⟩ (Nat.le_of_ble_eq_true rfl) ⟨Nat.zero_le _, Nat.zero_le _⟩ dX8_joinAll_181 (fun gr3 zw4 hp => ?_)
                    obtain ⟨rfl, h5, hf4⟩ := hp
                    refine G.pick [1, 2, 3, 4, 5] [(0, .ref (ad 132)), (1, .int (nI (201 * p))), (2, .int (nI (201 * q))), (3, .int (nI (201 * p + ii))), (4, .int (nI (201 * q + jj)))] rfl ?_
                    exact fin zw4 _ h5 sR hf4
      have f0 := (hf 132 (by omega)).trans h0
      have f1 := (hf 140 (by omega)).trans h1
      obtain ⟨U, M, T, Y, V, e1, e2, e3, e4, e5, e6, e7, e8, e9, e10, e11⟩ := id eD
      have em : M p = nI Pl.length := ((e10 p (by omega)).2).trans hPl.1
      have ex : ∀ k, k < Pl.length → Pl.getD k r0 = (T (201 * p + k), Y (201 * p + k), V (201 * p + k)) := fun k hk => by
        rw [hPl.2.2 k hk, (e11 (201 * p + k) (by omega)).1, (e11 (201 * p + k) (by omega)).2.1, (e11 (201 * p + k) (by omega)).2.2]
      refine G.iload_n 3 rfl rfl dX8_joinAll_30 ?_
      refine G.iload_n 1 rfl rfl dX8_joinAll_31 ?_
      refine G.aload_n 0 rfl rfl dX8_joinAll_32 ?_
      refine G.get 132 (by omega) f0 rfl twX8 14 (by decide) tb_618 rfl rfl dX8_joinAll_33 ?_
      refine G.aload_n 0 rfl rfl dX8_joinAll_36 ?_
      refine G.get 132 (by omega) f0 rfl twX8 9 (by decide) tb_613 rfl rfl dX8_joinAll_37 ?_
      refine G.aload_n 0 rfl rfl dX8_joinAll_40 ?_
      refine G.get 132 (by omega) f0 rfl twX8 28 (by decide) tb_632 rfl rfl dX8_joinAll_41 ?_
      refine G.iald 140 (by omega) f1 nw (rfl) (by omega) (by omega) dX8_joinAll_44 ?_
      refine G.topi (nI p) (hp) ?_
      refine G.iald 144 (by omega) e2 p (rfl) (by omega) (by omega) dX8_joinAll_45 ?_
      refine G.topi (nI Pl.length) (em) ?_
      refine G.iadd dX8_joinAll_46 ?_
      refine G.topi (nI ((201 * p) + Pl.length)) (nI_add ((201 * p)) Pl.length) ?_
      refine G.ncmp_ge 196 dX8_joinAll_47 rfl (by omega) (by omega) (fun c47 => ?_) (fun c47 => ?_)
      · skip
        omega
      · skip
        refine G.iload_n 2 rfl rfl dX8_joinAll_50 ?_
        refine G.istore [(4, .int (nI (201 * q))), (0, .ref (ad 132)), (1, .int (nI (201 * p))), (2, .int (nI (201 * q))), (3, .int (nI (201 * p + ii)))] dX8_joinAll_51 (by decide) rfl ?_
        refine G.pick [1, 2, 3, 4, 0] [(0, .ref (ad 132)), (1, .int (nI (201 * p))), (2, .int (nI (201 * q))), (3, .int (nI (201 * p + ii))), (4, .int (nI (201 * q)))] rfl ?_
        exact inner Ql.length 0 zw (by omega) (by simpa [jRow] using eD) hf
  exact loop Pl.length 0 w (by omega) (by simpa [jn] using hD) (fun _ _ => rfl)
end RefE

