/-! the reference: READ, MEET, the rows one by one -/
section RefD
variable {l : Launch} {t : TT} {N : Nat} {ad : Nat → Nat} {w : Nat → va_E} {n on jb fl io op ot ok fa : Int32} {nw : Nat} {U0 M0 T0 Y0 : Nat → Int32} {V0 : Nat → Int64}
theorem c_X8_readAll {A : List AR} {o1 : Nat → Int32} {s : Int32} (h0 : w 132 = .inr (8, xF ad (nI A.length) on jb fl io op ot ok (nI nw) fa)) (hA : xArr t w A) (hA60 : A.length ≤ 60) (h1 : w 140 = .inl (t.2.1, 12, .inl o1)) (h2 : o1 nw = s) (hD : isD t w nw [] U0 M0 T0 Y0 V0) (hn : nw < 12) (hN : 153 ≤ N) :
    K l t yX8_readAll cX8_readAll 2 none (rD 1) N ad w [.ref (ad 132)]
      (fun res w' => res = none ∧ isR t w' nw (srt aboveT (sel s A)) U0 M0 T0 Y0 V0 ∧ ∀ i, i < 143 ∨ 149 ≤ i ∨ i = 145 → w' i = w i) := by
  obtain ⟨S, Tx, Yx, Vx, Z, a1, a2, a3, a4, a5, a6⟩ := hA
  refine K.of (own := RX8) (lv := [(0, .ref (ad 132))]) (by decide +kernel) rfl (Nat.le_of_ble_eq_true rfl) rfl (fun P post hret => ?_)
  refine G.iconst (v := nI 0) dX8_readAll_0 (by decide +kernel) ?_
  refine G.istore_n [(1, .int (nI 0)), (0, .ref (ad 132))] dX8_readAll_1 rfl (by decide) rfl ?_
  refine G.pick [1, 0] [(0, .ref (ad 132)), (1, .int (nI 0))] rfl ?_
  have loop : ∀ (mm ii : Nat) (zw : Nat → va_E), ii + mm = A.length → isD t zw nw (sel s (A.take ii)) U0 M0 T0 Y0 V0 → (∀ i, i < 143 ∨ 149 ≤ i ∨ i = 145 → zw i = w i) → G l t (rD 1) P cX8_readAll 2 RX8 none post 0 0 N ad 0 0 2 [(0, .ref (ad 132)), (1, .int (nI ii))] [] zw := by
    intro mm
    induction mm with
    | zero =>
      intro ii zw hi eD hf
      have f0 := (hf 132 (by omega)).trans h0
      refine G.iload_n 1 rfl rfl dX8_readAll_2 ?_
      refine G.aload_n 0 rfl rfl dX8_readAll_3 ?_
      refine G.get 132 (by omega) f0 rfl twX8 0 (by decide) tb_604 rfl rfl dX8_readAll_4 ?_
      refine G.ncmp_ge 66 dX8_readAll_7 rfl (by omega) (by omega) (fun c7 => ?_) (fun c7 => ?_)
      · skip
        refine G.aload_n 0 rfl rfl dX8_readAll_66 ?_
        refine G.iconst (v := nI 0) dX8_readAll_67 (by decide +kernel) ?_
        refine G.callV (n := 1) 132 (c_X8_rise f0 eD hn hN false) rfl (by omega) f0 rfl tb_772 tb_774 tb_19 tb_42 tb_775 (by decide +kernel) rfl ⟨(Nat.le_of_ble_eq_true rfl), (Nat.le_of_ble_eq_true rfl)⟩ ⟨rfl, rfl⟩ (Nat.le_of_ble_eq_true rfl) ⟨Nat.zero_le _, Nat.zero_le _⟩ dX8_readAll_68 (fun gr1 zw2 hp => ?_)
        obtain ⟨rfl, h5, hf2⟩ := hp
        refine G.vret rfl rfl rfl dX8_readAll_71 ?_
        rw [gk_f, List.take_of_length_le (show A.length ≤ ii by omega)] at h5
        exact hret _ _ ⟨rfl, isW.isR h5, fun i hi => (hf2 i (by omega)).trans (hf i hi)⟩
      · skip
        omega
    | succ mm ih =>
      intro ii zw hi eD hf
      have f0 := (hf 132 (by omega)).trans h0
      have b0 := (hf 140 (by omega)).trans h1
      have b1 := (hf 133 (by omega)).trans a1
      have b2 := (hf 134 (by omega)).trans a2
      have b3 := (hf 135 (by omega)).trans a3
      have b4 := (hf 136 (by omega)).trans a4
      have b5 := (hf 137 (by omega)).trans a5
      have ea := a6 ii (by omega)
      have est := sel_take (s := s) (A := A) (i := ii) (by omega)
      have skip : sel1 s (A.getD ii a0) = [] → G l t (rD 1) P cX8_readAll 2 RX8 none post 0 0 N ad 0 0 60 [(0, .ref (ad 132)), (1, .int (nI ii))] [] zw := by
        intro hb
        refine G.iinc (v := nI (ii + 1)) [(1, .int (nI (ii + 1))), (0, .ref (ad 132))] 1 dX8_readAll_60 rfl (nI_add ii 1) (by decide) rfl ?_
        refine G.goto 2 dX8_readAll_63 rfl ?_
        refine G.pick [1, 0] [(0, .ref (ad 132)), (1, .int (nI (ii + 1)))] rfl ?_
        exact ih (ii + 1) zw (by omega) (by rw [est, hb, List.append_nil]; exact eD) hf
      refine G.iload_n 1 rfl rfl dX8_readAll_2 ?_
      refine G.aload_n 0 rfl rfl dX8_readAll_3 ?_
      refine G.get 132 (by omega) f0 rfl twX8 0 (by decide) tb_604 rfl rfl dX8_readAll_4 ?_
      refine G.ncmp_ge 66 dX8_readAll_7 rfl (by omega) (by omega) (fun c7 => ?_) (fun c7 => ?_)
      · skip
        omega
      · skip
        refine G.aload_n 0 rfl rfl dX8_readAll_10 ?_
        refine G.get 132 (by omega) f0 rfl twX8 1 (by decide) tb_605 rfl rfl dX8_readAll_11 ?_
        refine G.iload_n 1 rfl rfl dX8_readAll_14 ?_
        refine G.iald 133 (by omega) b1 ii (rfl) (by omega) (by omega) dX8_readAll_15 ?_
        refine G.aload_n 0 rfl rfl dX8_readAll_16 ?_
        refine G.get 132 (by omega) f0 rfl twX8 9 (by decide) tb_613 rfl rfl dX8_readAll_17 ?_
        refine G.aload_n 0 rfl rfl dX8_readAll_20 ?_
        refine G.get 132 (by omega) f0 rfl twX8 28 (by decide) tb_632 rfl rfl dX8_readAll_21 ?_
        refine G.iald 140 (by omega) b0 nw (rfl) (by omega) (by omega) dX8_readAll_24 ?_
        refine G.icmp_ne 60 dX8_readAll_25 rfl (fun c25 => ?_) (fun c25 => ?_)
        · skip
          exact skip (by rw [ea, sel1, if_neg (fun q => c25 (by rw [h2]; exact q.1))])
        · skip
          refine G.aload_n 0 rfl rfl dX8_readAll_28 ?_
          refine G.get 132 (by omega) f0 rfl twX8 5 (by decide) tb_609 rfl rfl dX8_readAll_29 ?_
          refine G.iload_n 1 rfl rfl dX8_readAll_32 ?_
          refine G.zald 137 (by omega) b5 ii (rfl) (by omega) (by omega) dX8_readAll_33 ?_
          refine G.if_ne 60 dX8_readAll_34 rfl (fun c34 => ?_) (fun c34 => ?_)
          · skip
            exact skip (by rw [ea, sel1, if_neg (fun q => c34 q.2)])
          · skip
            refine G.aload_n 0 rfl rfl dX8_readAll_37 ?_
            refine G.aload_n 0 rfl rfl dX8_readAll_38 ?_
            refine G.get 132 (by omega) f0 rfl twX8 2 (by decide) tb_606 rfl rfl dX8_readAll_39 ?_
            refine G.iload_n 1 rfl rfl dX8_readAll_42 ?_
            refine G.iald 134 (by omega) b2 ii (rfl) (by omega) (by omega) dX8_readAll_43 ?_
            refine G.aload_n 0 rfl rfl dX8_readAll_44 ?_
            refine G.get 132 (by omega) f0 rfl twX8 3 (by decide) tb_607 rfl rfl dX8_readAll_45 ?_
            refine G.iload_n 1 rfl rfl dX8_readAll_48 ?_
            refine G.iald 135 (by omega) b3 ii (rfl) (by omega) (by omega) dX8_readAll_49 ?_
            refine G.aload_n 0 rfl rfl dX8_readAll_50 ?_
            refine G.get 132 (by omega) f0 rfl twX8 4 (by decide) tb_608 rfl rfl dX8_readAll_51 ?_
            refine G.iload_n 1 rfl rfl dX8_readAll_54 ?_
            refine G.iald 136 (by omega) b4 ii (rfl) (by omega) (by omega) dX8_readAll_55 ?_
            refine G.i2l dX8_readAll_56 ?_
            refine G.callV (n := 3) 132 (c_X8_lay f0 eD hn hN (Tx ii) (Yx ii) (Vx ii).toInt64) rfl (by omega) f0 rfl tb_768 tb_770 tb_18 tb_42 tb_771 (by decide +kernel) rfl ⟨(Nat.le_of_ble_eq_true rfl), (Nat.le_of_ble_eq_true rfl)⟩ ⟨rfl, rfl⟩ (Nat.le_of_ble_eq_true rfl) ⟨Nat.zero_le _, Nat.zero_le _⟩ dX8_readAll_57 (fun gr2 zw2 hp => ?_)
            obtain ⟨rfl, h5, hf2⟩ := hp
            refine G.iinc (v := nI (ii + 1)) [(1, .int (nI (ii + 1))), (0, .ref (ad 132))] 1 dX8_readAll_60 rfl (nI_add ii 1) (by decide) rfl ?_
            refine G.goto 2 dX8_readAll_63 rfl ?_
            refine G.pick [1, 0] [(0, .ref (ad 132)), (1, .int (nI (ii + 1)))] rfl ?_
            have hb : sel1 s (A.getD ii a0) = [(Tx ii, Yx ii, (Vx ii).toInt64)] := by rw [ea, sel1, if_pos ⟨c25.trans h2, c34⟩]
            exact ih (ii + 1) zw2 (by omega) (by rw [est, hb]; exact h5) (fun i hi => (hf2 i hi).trans (hf i hi))
  exact loop A.length 0 w (by omega) hD (fun _ _ => rfl)
theorem c_X8_meetAll {o1 o2 : Nat → Int32} {p q : Nat} {Pl Ql : List RW} (h0 : w 132 = .inr (8, xF ad n on jb fl io op ot ok (nI nw) fa)) (h1 : w 140 = .inl (t.2.1, 12, .inl o1)) (h2 : w 141 = .inl (t.2.1, 12, .inl o2)) (hp : o1 nw = nI p) (hq : o2 nw = nI q) (hpn : p < nw) (hqn : q < nw) (hPl : isP p Pl M0 T0 Y0 V0) (hQl : isP q Ql M0 T0 Y0 V0) (hD : isD t w nw [] U0 M0 T0 Y0 V0) (hn : nw < 12) (hN : 153 ≤ N) :
    K l t yX8_meetAll cX8_meetAll 2 none (rD 1) N ad w [.ref (ad 132)]
      (fun res w' => res = none ∧ isR t w' nw (srt aboveT (Pl ++ Ql)) U0 M0 T0 Y0 V0 ∧ ∀ i, i < 143 ∨ 149 ≤ i ∨ i = 145 → w' i = w i) := by
  have zP := hPl.2.1
  have zQ := hQl.2.1
  refine K.of (own := RX8) (lv := [(0, .ref (ad 132))]) (by decide +kernel) rfl (Nat.le_of_ble_eq_true rfl) rfl (fun P post hret => ?_)
  refine G.sipush (v := nI 201) dX8_meetAll_0 (by decide +kernel) ?_
  refine G.aload_n 0 rfl rfl dX8_meetAll_3 ?_
  refine G.get 132 (by omega) h0 rfl twX8 9 (by decide) tb_613 rfl rfl dX8_meetAll_4 ?_
  refine G.aload_n 0 rfl rfl dX8_meetAll_7 ?_
  refine G.get 132 (by omega) h0 rfl twX8 28 (by decide) tb_632 rfl rfl dX8_meetAll_8 ?_
  refine G.iald 140 (by omega) h1 nw (rfl) (by omega) (by omega) dX8_meetAll_11 ?_
  refine G.topi (nI p) (hp) ?_
  refine G.imul dX8_meetAll_12 ?_
  refine G.topi (nI (201 * p)) (pk_mul 201 p) ?_
  refine G.istore_n [(1, .int (nI (201 * p))), (0, .ref (ad 132))] dX8_meetAll_13 rfl (by decide) rfl ?_
  refine G.pick [1, 0] [(0, .ref (ad 132)), (1, .int (nI (201 * p)))] rfl ?_
  have loop2 : ∀ (mm ii : Nat) (zw : Nat → va_E), ii + mm = Ql.length → isD t zw nw (Pl ++ Ql.take ii) U0 M0 T0 Y0 V0 → (∀ i, i < 143 ∨ 149 ≤ i ∨ i = 145 → zw i = w i) → G l t (rD 1) P cX8_meetAll 2 RX8 none post 0 0 N ad 0 0 88 [(0, .ref (ad 132)), (1, .int (nI (201 * q + ii)))] [] zw := by
    intro mm
    induction mm with
    | zero =>
      intro ii zw hi eD hf
      have f0 := (hf 132 (by omega)).trans h0
      have f2 := (hf 141 (by omega)).trans h2
      obtain ⟨U, M, T, Y, V, e1, e2, e3, e4, e5, e6, e7, e8, e9, e10, e11⟩ := id eD
      have em : M q = nI Ql.length := ((e10 q hqn).2).trans hQl.1
      refine G.iload_n 1 rfl rfl dX8_meetAll_88 ?_
      refine G.sipush (v := nI 201) dX8_meetAll_89 (by decide +kernel) ?_
      refine G.aload_n 0 rfl rfl dX8_meetAll_92 ?_
      refine G.get 132 (by omega) f0 rfl twX8 10 (by decide) tb_614 rfl rfl dX8_meetAll_93 ?_
      refine G.aload_n 0 rfl rfl dX8_meetAll_96 ?_
      refine G.get 132 (by omega) f0 rfl twX8 28 (by decide) tb_632 rfl rfl dX8_meetAll_97 ?_
      refine G.iald 141 (by omega) f2 nw (rfl) (by omega) (by omega) dX8_meetAll_100 ?_
      refine G.topi (nI q) (hq) ?_
      refine G.imul dX8_meetAll_101 ?_
      refine G.topi (nI (201 * q)) (pk_mul 201 q) ?_
      refine G.aload_n 0 rfl rfl dX8_meetAll_102 ?_
      refine G.get 132 (by omega) f0 rfl twX8 14 (by decide) tb_618 rfl rfl dX8_meetAll_103 ?_
      refine G.aload_n 0 rfl rfl dX8_meetAll_106 ?_
      refine G.get 132 (by omega) f0 rfl twX8 10 (by decide) tb_614 rfl rfl dX8_meetAll_107 ?_
      refine G.aload_n 0 rfl rfl dX8_meetAll_110 ?_
      refine G.get 132 (by omega) f0 rfl twX8 28 (by decide) tb_632 rfl rfl dX8_meetAll_111 ?_
      refine G.iald 141 (by omega) f2 nw (rfl) (by omega) (by omega) dX8_meetAll_114 ?_
      refine G.topi (nI q) (hq) ?_
      refine G.iald 144 (by omega) e2 q (rfl) (by omega) (by omega) dX8_meetAll_115 ?_
      refine G.topi (nI Ql.length) (em) ?_
      refine G.iadd dX8_meetAll_116 ?_
      refine G.topi (nI ((201 * q) + Ql.length)) (nI_add ((201 * q)) Ql.length) ?_
      refine G.ncmp_ge 148 dX8_meetAll_117 rfl (by omega) (by omega) (fun c117 => ?_) (fun c117 => ?_)
      · skip
        refine G.aload_n 0 rfl rfl dX8_meetAll_148 ?_
        refine G.iconst (v := nI 0) dX8_meetAll_149 (by decide +kernel) ?_
        refine G.callV (n := 1) 132 (c_X8_rise f0 eD hn hN false) rfl (by omega) f0 rfl tb_772 tb_774 tb_19 tb_42 tb_775 (by decide +kernel) rfl ⟨(Nat.le_of_ble_eq_true rfl), (Nat.le_of_ble_eq_true rfl)⟩ ⟨rfl, rfl⟩ (Nat.le_of_ble_eq_true rfl) ⟨Nat.zero_le _, Nat.zero_le _⟩ dX8_meetAll_150 (fun gr1 zw2 hp => ?_)
        obtain ⟨rfl, h5, hf2⟩ := hp
        refine G.vret rfl rfl rfl dX8_meetAll_153 ?_
        rw [gk_f, List.take_of_length_le (show Ql.length ≤ ii by omega)] at h5
        exact hret _ _ ⟨rfl, isW.isR h5, fun i hi => (hf2 i (by omega)).trans (hf i hi)⟩
      · skip
        omega
    | succ mm ih =>
      intro ii zw hi eD hf
      have f0 := (hf 132 (by omega)).trans h0
      have f2 := (hf 141 (by omega)).trans h2
      obtain ⟨U, M, T, Y, V, e1, e2, e3, e4, e5, e6, e7, e8, e9, e10, e11⟩ := id eD
      have em : M q = nI Ql.length := ((e10 q (by omega)).2).trans hQl.1
      have ex : Ql.getD ii r0 = (T (201 * q + ii), Y (201 * q + ii), V (201 * q + ii)) := by
        rw [hQl.2.2 ii (by omega), (e11 (201 * q + ii) (by omega)).1, (e11 (201 * q + ii) (by omega)).2.1, (e11 (201 * q + ii) (by omega)).2.2]
      refine G.iload_n 1 rfl rfl dX8_meetAll_88 ?_
      refine G.sipush (v := nI 201) dX8_meetAll_89 (by decide +kernel) ?_
      refine G.aload_n 0 rfl rfl dX8_meetAll_92 ?_
      refine G.get 132 (by omega) f0 rfl twX8 10 (by decide) tb_614 rfl rfl dX8_meetAll_93 ?_
      refine G.aload_n 0 rfl rfl dX8_meetAll_96 ?_
      refine G.get 132 (by omega) f0 rfl twX8 28 (by decide) tb_632 rfl rfl dX8_meetAll_97 ?_
      refine G.iald 141 (by omega) f2 nw (rfl) (by omega) (by omega) dX8_meetAll_100 ?_
      refine G.topi (nI q) (hq) ?_
      refine G.imul dX8_meetAll_101 ?_
      refine G.topi (nI (201 * q)) (pk_mul 201 q) ?_
      refine G.aload_n 0 rfl rfl dX8_meetAll_102 ?_
      refine G.get 132 (by omega) f0 rfl twX8 14 (by decide) tb_618 rfl rfl dX8_meetAll_103 ?_
      refine G.aload_n 0 rfl rfl dX8_meetAll_106 ?_
      refine G.get 132 (by omega) f0 rfl twX8 10 (by decide) tb_614 rfl rfl dX8_meetAll_107 ?_
      refine G.aload_n 0 rfl rfl dX8_meetAll_110 ?_
      refine G.get 132 (by omega) f0 rfl twX8 28 (by decide) tb_632 rfl rfl dX8_meetAll_111 ?_
      refine G.iald 141 (by omega) f2 nw (rfl) (by omega) (by omega) dX8_meetAll_114 ?_
      refine G.topi (nI q) (hq) ?_
      refine G.iald 144 (by omega) e2 q (rfl) (by omega) (by omega) dX8_meetAll_115 ?_
      refine G.topi (nI Ql.length) (em) ?_
      refine G.iadd dX8_meetAll_116 ?_
      refine G.topi (nI ((201 * q) + Ql.length)) (nI_add ((201 * q)) Ql.length) ?_
      refine G.ncmp_ge 148 dX8_meetAll_117 rfl (by omega) (by omega) (fun c117 => ?_) (fun c117 => ?_)
      · skip
        omega
      · skip
        refine G.aload_n 0 rfl rfl dX8_meetAll_120 ?_
        refine G.aload_n 0 rfl rfl dX8_meetAll_121 ?_
        refine G.get 132 (by omega) f0 rfl twX8 16 (by decide) tb_620 rfl rfl dX8_meetAll_122 ?_
        refine G.iload_n 1 rfl rfl dX8_meetAll_125 ?_
        refine G.iald 146 (by omega) e3 (201 * q + ii) (rfl) (by omega) (by omega) dX8_meetAll_126 ?_
        refine G.aload_n 0 rfl rfl dX8_meetAll_127 ?_
        refine G.get 132 (by omega) f0 rfl twX8 17 (by decide) tb_621 rfl rfl dX8_meetAll_128 ?_
        refine G.iload_n 1 rfl rfl dX8_meetAll_131 ?_
        refine G.iald 147 (by omega) e4 (201 * q + ii) (rfl) (by omega) (by omega) dX8_meetAll_132 ?_
        refine G.aload_n 0 rfl rfl dX8_meetAll_133 ?_
        refine G.get 132 (by omega) f0 rfl twX8 18 (by decide) tb_622 rfl rfl dX8_meetAll_134 ?_
        refine G.iload_n 1 rfl rfl dX8_meetAll_137 ?_
        refine G.lald 148 (by omega) e5 (201 * q + ii) (rfl) (by omega) (by omega) dX8_meetAll_138 ?_
        refine G.callV (n := 3) 132 (c_X8_lay f0 eD hn hN (T (201 * q + ii)) (Y (201 * q + ii)) (V (201 * q + ii))) rfl (by omega) f0 rfl tb_768 tb_770 tb_18 tb_42 tb_771 (by decide +kernel) rfl ⟨(Nat.le_of_ble_eq_true rfl), (Nat.le_of_ble_eq_true rfl)⟩ ⟨rfl, rfl⟩ (Nat.le_of_ble_eq_true rfl) ⟨Nat.zero_le _, Nat.zero_le _⟩ dX8_meetAll_139 (fun gr2 zw2 hp => ?_)
        obtain ⟨rfl, h5, hf2⟩ := hp
        refine G.iinc (v := nI ((201 * q + ii) + 1)) [(1, .int (nI ((201 * q + ii) + 1))), (0, .ref (ad 132))] 1 dX8_meetAll_142 rfl (nI_add ((201 * q + ii)) 1) (by decide) rfl ?_
        refine G.goto 88 dX8_meetAll_145 rfl ?_
        refine G.pick [1, 0] [(0, .ref (ad 132)), (1, .int (nI (201 * q + ii + 1)))] rfl ?_
        exact ih (ii + 1) zw2 (by omega) (by rw [List.append_assoc, snoc_take (by omega) ex] at h5; exact h5) (fun i hi => (hf2 i hi).trans (hf i hi))
  have loop : ∀ (mm ii : Nat) (zw : Nat → va_E), ii + mm = Pl.length → isD t zw nw (Pl.take ii) U0 M0 T0 Y0 V0 → (∀ i, i < 143 ∨ 149 ≤ i ∨ i = 145 → zw i = w i) → G l t (rD 1) P cX8_meetAll 2 RX8 none post 0 0 N ad 0 0 14 [(0, .ref (ad 132)), (1, .int (nI (201 * p + ii)))] [] zw := by
    intro mm
    induction mm with
    | zero =>
      intro ii zw hi eD hf
      have f0 := (hf 132 (by omega)).trans h0
      have f1 := (hf 140 (by omega)).trans h1
      have f2 := (hf 141 (by omega)).trans h2
      obtain ⟨U, M, T, Y, V, e1, e2, e3, e4, e5, e6, e7, e8, e9, e10, e11⟩ := id eD
      have em : M p = nI Pl.length := ((e10 p hpn).2).trans hPl.1
      refine G.iload_n 1 rfl rfl dX8_meetAll_14 ?_
      refine G.sipush (v := nI 201) dX8_meetAll_15 (by decide +kernel) ?_
      refine G.aload_n 0 rfl rfl dX8_meetAll_18 ?_
      refine G.get 132 (by omega) f0 rfl twX8 9 (by decide) tb_613 rfl rfl dX8_meetAll_19 ?_
      refine G.aload_n 0 rfl rfl dX8_meetAll_22 ?_
      refine G.get 132 (by omega) f0 rfl twX8 28 (by decide) tb_632 rfl rfl dX8_meetAll_23 ?_
      refine G.iald 140 (by omega) f1 nw (rfl) (by omega) (by omega) dX8_meetAll_26 ?_
      refine G.topi (nI p) (hp) ?_
      refine G.imul dX8_meetAll_27 ?_
      refine G.topi (nI (201 * p)) (pk_mul 201 p) ?_
      refine G.aload_n 0 rfl rfl dX8_meetAll_28 ?_
      refine G.get 132 (by omega) f0 rfl twX8 14 (by decide) tb_618 rfl rfl dX8_meetAll_29 ?_
      refine G.aload_n 0 rfl rfl dX8_meetAll_32 ?_
      refine G.get 132 (by omega) f0 rfl twX8 9 (by decide) tb_613 rfl rfl dX8_meetAll_33 ?_
      refine G.aload_n 0 rfl rfl dX8_meetAll_36 ?_
      refine G.get 132 (by omega) f0 rfl twX8 28 (by decide) tb_632 rfl rfl dX8_meetAll_37 ?_
      refine G.iald 140 (by omega) f1 nw (rfl) (by omega) (by omega) dX8_meetAll_40 ?_
      refine G.topi (nI p) (hp) ?_
      refine G.iald 144 (by omega) e2 p (rfl) (by omega) (by omega) dX8_meetAll_41 ?_
      refine G.topi (nI Pl.length) (em) ?_
      refine G.iadd dX8_meetAll_42 ?_
      refine G.topi (nI ((201 * p) + Pl.length)) (nI_add ((201 * p)) Pl.length) ?_
      refine G.ncmp_ge 74 dX8_meetAll_43 rfl (by omega) (by omega) (fun c43 => ?_) (fun c43 => ?_)
      · skip
        refine G.sipush (v := nI 201) dX8_meetAll_74 (by decide +kernel) ?_
        refine G.aload_n 0 rfl rfl dX8_meetAll_77 ?_
        refine G.get 132 (by omega) f0 rfl twX8 10 (by decide) tb_614 rfl rfl dX8_meetAll_78 ?_
        refine G.aload_n 0 rfl rfl dX8_meetAll_81 ?_
        refine G.get 132 (by omega) f0 rfl twX8 28 (by decide) tb_632 rfl rfl dX8_meetAll_82 ?_
        refine G.iald 141 (by omega) f2 nw (rfl) (by omega) (by omega) dX8_meetAll_85 ?_
        refine G.topi (nI q) (hq) ?_
        refine G.imul dX8_meetAll_86 ?_
        refine G.topi (nI (201 * q)) (pk_mul 201 q) ?_
        refine G.istore_n [(1, .int (nI (201 * q))), (0, .ref (ad 132))] dX8_meetAll_87 rfl (by decide) rfl ?_
        refine G.pick [1, 0] [(0, .ref (ad 132)), (1, .int (nI (201 * q)))] rfl ?_
        exact loop2 Ql.length 0 zw (by omega) (by rw [List.take_of_length_le (show Pl.length ≤ ii by omega)] at eD; simpa using eD) hf
      · skip
        omega
    | succ mm ih =>
      intro ii zw hi eD hf
      have f0 := (hf 132 (by omega)).trans h0
      have f1 := (hf 140 (by omega)).trans h1
      obtain ⟨U, M, T, Y, V, e1, e2, e3, e4, e5, e6, e7, e8, e9, e10, e11⟩ := id eD
      have em : M p = nI Pl.length := ((e10 p (by omega)).2).trans hPl.1
      have ex : Pl.getD ii r0 = (T (201 * p + ii), Y (201 * p + ii), V (201 * p + ii)) := by
        rw [hPl.2.2 ii (by omega), (e11 (201 * p + ii) (by omega)).1, (e11 (201 * p + ii) (by omega)).2.1, (e11 (201 * p + ii) (by omega)).2.2]
      refine G.iload_n 1 rfl rfl dX8_meetAll_14 ?_
      refine G.sipush (v := nI 201) dX8_meetAll_15 (by decide +kernel) ?_
      refine G.aload_n 0 rfl rfl dX8_meetAll_18 ?_
      refine G.get 132 (by omega) f0 rfl twX8 9 (by decide) tb_613 rfl rfl dX8_meetAll_19 ?_
      refine G.aload_n 0 rfl rfl dX8_meetAll_22 ?_
      refine G.get 132 (by omega) f0 rfl twX8 28 (by decide) tb_632 rfl rfl dX8_meetAll_23 ?_
      refine G.iald 140 (by omega) f1 nw (rfl) (by omega) (by omega) dX8_meetAll_26 ?_
      refine G.topi (nI p) (hp) ?_
      refine G.imul dX8_meetAll_27 ?_
      refine G.topi (nI (201 * p)) (pk_mul 201 p) ?_
      refine G.aload_n 0 rfl rfl dX8_meetAll_28 ?_
      refine G.get 132 (by omega) f0 rfl twX8 14 (by decide) tb_618 rfl rfl dX8_meetAll_29 ?_
      refine G.aload_n 0 rfl rfl dX8_meetAll_32 ?_
      refine G.get 132 (by omega) f0 rfl twX8 9 (by decide) tb_613 rfl rfl dX8_meetAll_33 ?_
      refine G.aload_n 0 rfl rfl dX8_meetAll_36 ?_
      refine G.get 132 (by omega) f0 rfl twX8 28 (by decide) tb_632 rfl rfl dX8_meetAll_37 ?_
      refine G.iald 140 (by omega) f1 nw (rfl) (by omega) (by omega) dX8_meetAll_40 ?_
      refine G.topi (nI p) (hp) ?_
      refine G.iald 144 (by omega) e2 p (rfl) (by omega) (by omega) dX8_meetAll_41 ?_
      refine G.topi (nI Pl.length) (em) ?_
      refine G.iadd dX8_meetAll_42 ?_
      refine G.topi (nI ((201 * p) + Pl.length)) (nI_add ((201 * p)) Pl.length) ?_
      refine G.ncmp_ge 74 dX8_meetAll_43 rfl (by omega) (by omega) (fun c43 => ?_) (fun c43 => ?_)
      · skip
        omega
      · skip
        refine G.aload_n 0 rfl rfl dX8_meetAll_46 ?_
        refine G.aload_n 0 rfl rfl dX8_meetAll_47 ?_
        refine G.get 132 (by omega) f0 rfl twX8 16 (by decide) tb_620 rfl rfl dX8_meetAll_48 ?_
        refine G.iload_n 1 rfl rfl dX8_meetAll_51 ?_
        refine G.iald 146 (by omega) e3 (201 * p + ii) (rfl) (by omega) (by omega) dX8_meetAll_52 ?_
        refine G.aload_n 0 rfl rfl dX8_meetAll_53 ?_
        refine G.get 132 (by omega) f0 rfl twX8 17 (by decide) tb_621 rfl rfl dX8_meetAll_54 ?_
        refine G.iload_n 1 rfl rfl dX8_meetAll_57 ?_
        refine G.iald 147 (by omega) e4 (201 * p + ii) (rfl) (by omega) (by omega) dX8_meetAll_58 ?_
        refine G.aload_n 0 rfl rfl dX8_meetAll_59 ?_
        refine G.get 132 (by omega) f0 rfl twX8 18 (by decide) tb_622 rfl rfl dX8_meetAll_60 ?_
        refine G.iload_n 1 rfl rfl dX8_meetAll_63 ?_
        refine G.lald 148 (by omega) e5 (201 * p + ii) (rfl) (by omega) (by omega) dX8_meetAll_64 ?_
        refine G.callV (n := 3) 132 (c_X8_lay f0 eD hn hN (T (201 * p + ii)) (Y (201 * p + ii)) (V (201 * p + ii))) rfl (by omega) f0 rfl tb_768 tb_770 tb_18 tb_42 tb_771 (by decide +kernel) rfl ⟨(Nat.le_of_ble_eq_true rfl), (Nat.le_of_ble_eq_true rfl)⟩ ⟨rfl, rfl⟩ (Nat.le_of_ble_eq_true rfl) ⟨Nat.zero_le _, Nat.zero_le _⟩ dX8_meetAll_65 (fun gr3 zw2 hp => ?_)
        obtain ⟨rfl, h5, hf2⟩ := hp
        refine G.iinc (v := nI ((201 * p + ii) + 1)) [(1, .int (nI ((201 * p + ii) + 1))), (0, .ref (ad 132))] 1 dX8_meetAll_68 rfl (nI_add ((201 * p + ii)) 1) (by decide) rfl ?_
        refine G.goto 14 dX8_meetAll_71 rfl ?_
        refine G.pick [1, 0] [(0, .ref (ad 132)), (1, .int (nI (201 * p + ii + 1)))] rfl ?_
        exact ih (ii + 1) zw2 (by omega) (by rw [snoc_take (by omega) ex] at h5; exact h5) (fun i hi => (hf2 i hi).trans (hf i hi))
  exact loop Pl.length 0 w (by omega) (by simpa using hD) (fun _ _ => rfl)
set_option maxHeartbeats 1000000 in
theorem c_X8_eachAll {I : Nat → Int32} {k1 o1 o2 nm F : Nat → Int32} {p kd a fc : Nat} {c : Int32} {Pl : List RW} (h0 : w 132 = .inr (8, xF ad n on jb (nI fc) io op ot ok (nI nw) fa)) (hT : xTab t w I) (g1 : w 139 = .inl (t.2.1, 12, .inl k1)) (h1 : w 140 = .inl (t.2.1, 12, .inl o1)) (h2 : w 141 = .inl (t.2.1, 12, .inl o2)) (g2 : w 142 = .inl (t.2.1, 12, .inl nm)) (g3 : w 145 = .inl (t.2.1, 24, .inl F)) (hk : k1 nw = nI kd) (hp : o1 nw = nI p) (ha : o2 nw = nI a) (hc : nm nw = c) (hkd : 1 ≤ kd ∧ kd ≤ 3) (ha6 : a ≤ 6) (hpn : p < nw) (hPl : isP p Pl M0 T0 Y0 V0) (hF : F (2 * nw) = nI 0 ∧ F (2 * nw + 1) = nI 0) (hD : isD t w nw [] U0 M0 T0 Y0 V0) (hn : nw < 12) (hN : 153 ≤ N) :
    K l t yX8_eachAll cX8_eachAll 7 none (rD 1) N ad w [.ref (ad 132)]
      (fun res w' => res = none ∧ isR t w' nw (eachL I kd a c Pl) U0 M0 T0 Y0 V0 ∧ (∃ fa', w' 132 = .inr (8, xF ad n on jb (nI (fc + (failN 0 a c Pl + failN 1 a c Pl))) io op ot ok (nI nw) fa')) ∧ (∃ F', w' 145 = .inl (t.2.1, 24, .inl F') ∧ F' (2 * nw) = nI (failN 0 a c Pl) ∧ F' (2 * nw + 1) = nI (failN 1 a c Pl) ∧ ∀ j, j < 2 * nw → F' j = F j) ∧ ∀ i, i ≠ 132 → i < 143 ∨ 149 ≤ i → w' i = w i) := by
  have zP := hPl.2.1
  refine K.of (own := RX8) (lv := [(0, .ref (ad 132))]) (by decide +kernel) rfl (Nat.le_of_ble_eq_true rfl) rfl (fun P post hret => ?_)
  refine G.sipush (v := nI 201) dX8_eachAll_0 (by decide +kernel) ?_
  refine G.aload_n 0 rfl rfl dX8_eachAll_3 ?_
  refine G.get 132 (by omega) h0 rfl twX8 9 (by decide) tb_613 rfl rfl dX8_eachAll_4 ?_
  refine G.aload_n 0 rfl rfl dX8_eachAll_7 ?_
  refine G.get 132 (by omega) h0 rfl twX8 28 (by decide) tb_632 rfl rfl dX8_eachAll_8 ?_
  refine G.iald 140 (by omega) h1 nw (rfl) (by omega) (by omega) dX8_eachAll_11 ?_
  refine G.topi (nI p) (hp) ?_
  refine G.imul dX8_eachAll_12 ?_
  refine G.topi (nI (201 * p)) (pk_mul 201 p) ?_
  refine G.istore_n [(1, .int (nI (201 * p))), (0, .ref (ad 132))] dX8_eachAll_13 rfl (by decide) rfl ?_
  refine G.iload_n 0 rfl rfl dX8_eachAll_14 ?_
  refine G.istore_n [(2, .int (nI (201 * p))), (1, .int (nI (201 * p))), (0, .ref (ad 132))] dX8_eachAll_15 rfl (by decide) rfl ?_
  refine G.pick [2, 1, 0] [(0, .ref (ad 132)), (1, .int (nI (201 * p))), (2, .int (nI (201 * p)))] rfl ?_
  have loop : ∀ (mm ii : Nat) (zw : Nat → va_E) (fa1 : Int32) (F1 : Nat → Int32), ii + mm = Pl.length → isD t zw nw (eachL I kd a c (Pl.take ii)) U0 M0 T0 Y0 V0 → zw 132 = .inr (8, xF ad n on jb (nI (fc + (failN 0 a c (Pl.take ii) + failN 1 a c (Pl.take ii)))) io op ot ok (nI nw) fa1) → zw 145 = .inl (t.2.1, 24, .inl F1) → F1 (2 * nw) = nI (failN 0 a c (Pl.take ii)) → F1 (2 * nw + 1) = nI (failN 1 a c (Pl.take ii)) → (∀ j, j < 2 * nw → F1 j = F j) → (∀ i, i ≠ 132 → i < 143 ∨ 149 ≤ i → zw i = w i) → G l t (rD 1) P cX8_eachAll 7 RX8 none post 0 0 N ad 0 0 16 [(0, .ref (ad 132)), (1, .int (nI (201 * p))), (2, .int (nI (201 * p + ii)))] [] zw := by
    intro mm
    induction mm with
    | zero =>
      intro ii zw fa1 F1 hi eD f0 f9 f10 f11 f12 hf
      have f1 := (hf 140 (by omega) (by omega)).trans h1
      obtain ⟨U, M, T, Y, V, e1, e2, e3, e4, e5, e6, e7, e8, e9, e10, e11⟩ := id eD
      have em : M p = nI Pl.length := ((e10 p hpn).2).trans hPl.1
      refine G.iload_n 2 rfl rfl dX8_eachAll_16 ?_
      refine G.iload_n 1 rfl rfl dX8_eachAll_17 ?_
      refine G.aload_n 0 rfl rfl dX8_eachAll_18 ?_
      refine G.get 132 (by omega) f0 rfl twX8 14 (by decide) tb_618 rfl rfl dX8_eachAll_19 ?_
      refine G.aload_n 0 rfl rfl dX8_eachAll_22 ?_
      refine G.get 132 (by omega) f0 rfl twX8 9 (by decide) tb_613 rfl rfl dX8_eachAll_23 ?_
      refine G.aload_n 0 rfl rfl dX8_eachAll_26 ?_
      refine G.get 132 (by omega) f0 rfl twX8 28 (by decide) tb_632 rfl rfl dX8_eachAll_27 ?_
      refine G.iald 140 (by omega) f1 nw (rfl) (by omega) (by omega) dX8_eachAll_30 ?_
      refine G.topi (nI p) (hp) ?_
      refine G.iald 144 (by omega) e2 p (rfl) (by omega) (by omega) dX8_eachAll_31 ?_
      refine G.topi (nI Pl.length) (em) ?_
      refine G.iadd dX8_eachAll_32 ?_
      refine G.topi (nI ((201 * p) + Pl.length)) (nI_add ((201 * p)) Pl.length) ?_
      refine G.ncmp_ge 233 dX8_eachAll_33 rfl (by omega) (by omega) (fun c33 => ?_) (fun c33 => ?_)
      · skip
        refine G.vret rfl rfl rfl dX8_eachAll_233 ?_
        rw [List.take_of_length_le (show Pl.length ≤ ii by omega)] at eD f0 f10 f11
        exact hret _ _ ⟨rfl, isD.isR eD, ⟨_, f0⟩, ⟨F1, f9, f10, f11, f12⟩, hf⟩
      · skip
        omega
    | succ mm ih =>
      intro ii zw fa1 F1 hi eD f0 f9 f10 f11 f12 hf
      have f1 := (hf 140 (by omega) (by omega)).trans h1
      have f2 := (hf 141 (by omega) (by omega)).trans h2
      have f3 := (hf 142 (by omega) (by omega)).trans g2
      have fT : xTab t zw I := hT.keep (hf 138 (by omega) (by omega))
      have hl0 := failN_le 0 a c (Pl.take ii)
      have hl1 := failN_le 1 a c (Pl.take ii)
      rw [List.length_take] at hl0 hl1
      obtain ⟨U, M, T, Y, V, e1, e2, e3, e4, e5, e6, e7, e8, e9, e10, e11⟩ := id eD
      have em : M p = nI Pl.length := ((e10 p (by omega)).2).trans hPl.1
      have ex : Pl.getD ii r0 = (T (201 * p + ii), Y (201 * p + ii), V (201 * p + ii)) := by
        rw [hPl.2.2 ii (by omega), (e11 (201 * p + ii) (by omega)).1, (e11 (201 * p + ii) (by omega)).2.1, (e11 (201 * p + ii) (by omega)).2.2]
      have sE : eachL I kd a c (Pl.take (ii + 1)) = eachL I kd a c (Pl.take ii) ++ each1 I kd a c (Pl.getD ii r0) := flat_take _ (by omega)
      have s0 : failN 0 a c (Pl.take (ii + 1)) = failN 0 a c (Pl.take ii) + (if decide (ffail a (Pl.getD ii r0).2.2 c = 0) = true then 1 else 0) := count_take _ (by omega)
      have s1 : failN 1 a c (Pl.take (ii + 1)) = failN 1 a c (Pl.take ii) + (if decide (ffail a (Pl.getD ii r0).2.2 c = 1) = true then 1 else 0) := count_take _ (by omega)
      rw [ex] at sE s0 s1
      dsimp only at s0 s1
      refine G.iload_n 2 rfl rfl dX8_eachAll_16 ?_
      refine G.iload_n 1 rfl rfl dX8_eachAll_17 ?_
      refine G.aload_n 0 rfl rfl dX8_eachAll_18 ?_
      refine G.get 132 (by omega) f0 rfl twX8 14 (by decide) tb_618 rfl rfl dX8_eachAll_19 ?_
      refine G.aload_n 0 rfl rfl dX8_eachAll_22 ?_
      refine G.get 132 (by omega) f0 rfl twX8 9 (by decide) tb_613 rfl rfl dX8_eachAll_23 ?_
      refine G.aload_n 0 rfl rfl dX8_eachAll_26 ?_
      refine G.get 132 (by omega) f0 rfl twX8 28 (by decide) tb_632 rfl rfl dX8_eachAll_27 ?_
      refine G.iald 140 (by omega) f1 nw (rfl) (by omega) (by omega) dX8_eachAll_30 ?_
      refine G.topi (nI p) (hp) ?_
      refine G.iald 144 (by omega) e2 p (rfl) (by omega) (by omega) dX8_eachAll_31 ?_
      refine G.topi (nI Pl.length) (em) ?_
      refine G.iadd dX8_eachAll_32 ?_
      refine G.topi (nI ((201 * p) + Pl.length)) (nI_add ((201 * p)) Pl.length) ?_
      refine G.ncmp_ge 233 dX8_eachAll_33 rfl (by omega) (by omega) (fun c33 => ?_) (fun c33 => ?_)
      · skip
        omega
      · skip
        refine G.aload_n 0 rfl rfl dX8_eachAll_36 ?_
        refine G.aload_n 0 rfl rfl dX8_eachAll_37 ?_
        refine G.get 132 (by omega) f0 rfl twX8 10 (by decide) tb_614 rfl rfl dX8_eachAll_38 ?_
        refine G.aload_n 0 rfl rfl dX8_eachAll_41 ?_
        refine G.get 132 (by omega) f0 rfl twX8 28 (by decide) tb_632 rfl rfl dX8_eachAll_42 ?_
        refine G.iald 141 (by omega) f2 nw (rfl) (by omega) (by omega) dX8_eachAll_45 ?_
        refine G.topi (nI a) (ha) ?_
        refine G.aload_n 0 rfl rfl dX8_eachAll_46 ?_
        refine G.get 132 (by omega) f0 rfl twX8 18 (by decide) tb_622 rfl rfl dX8_eachAll_47 ?_
        refine G.iload_n 2 rfl rfl dX8_eachAll_50 ?_
        refine G.lald 148 (by omega) e5 (201 * p + ii) (rfl) (by omega) (by omega) dX8_eachAll_51 ?_
        refine G.aload_n 0 rfl rfl dX8_eachAll_52 ?_
        refine G.get 132 (by omega) f0 rfl twX8 11 (by decide) tb_615 rfl rfl dX8_eachAll_53 ?_
        refine G.aload_n 0 rfl rfl dX8_eachAll_56 ?_
        refine G.get 132 (by omega) f0 rfl twX8 28 (by decide) tb_632 rfl rfl dX8_eachAll_57 ?_
        refine G.iald 142 (by omega) f3 nw (rfl) (by omega) (by omega) dX8_eachAll_60 ?_
        refine G.topi (c) (hc) ?_
        refine G.i2l dX8_eachAll_61 ?_
        refine G.callV (n := 3) 132 (c_X8_worth f0 fT ha6 hN (V (201 * p + ii)) c) rfl (by omega) f0 rfl tb_801 tb_803 tb_26 tb_42 tb_804 (by decide +kernel) rfl ⟨(Nat.le_of_ble_eq_true rfl), (Nat.le_of_ble_eq_true rfl)⟩ ⟨rfl, rfl⟩ (Nat.le_of_ble_eq_true rfl) ⟨Nat.zero_le _, Nat.zero_le _⟩ dX8_eachAll_62 (fun gr1 zw2 hp => ?_)
        obtain ⟨rfl, d0, hf2⟩ := hp
        refine G.lstore_n [(3, .long (fres I a (V (201 * p + ii)) c)), (0, .ref (ad 132)), (1, .int (nI (201 * p))), (2, .int (nI (201 * p + ii)))] dX8_eachAll_65 rfl (by decide) rfl ?_
        refine G.pick [1, 2, 3, 0] [(0, .ref (ad 132)), (1, .int (nI (201 * p))), (2, .int (nI (201 * p + ii))), (3, .long (fres I a (V (201 * p + ii)) c))] rfl ?_
        have eD2 : isD t zw2 nw (eachL I kd a c (Pl.take ii)) U0 M0 T0 Y0 V0 := isW.keep eD (fun i q1 q2 q3 => hf2 i (by omega))
        have d1 := (hf2 139 (by omega)).trans ((hf 139 (by omega) (by omega)).trans g1)
        have d3 := (hf2 146 (by omega)).trans e3
        have d4 := (hf2 147 (by omega)).trans e4
        have d5 := (hf2 148 (by omega)).trans e5
        have d9 := (hf2 145 (by omega)).trans f9
        by_cases hff : ffail a (V (201 * p + ii)) c = -1
        · have hrf := rfail_n hff
          rw [hrf] at d0
          have t0 : failN 0 a c (Pl.take (ii + 1)) = failN 0 a c (Pl.take ii) := by rw [s0, hff]; rfl
          have t1 : failN 1 a c (Pl.take (ii + 1)) = failN 1 a c (Pl.take ii) := by rw [s1, hff]; rfl
          have tE : eachL I kd a c (Pl.take (ii + 1)) = eachL I kd a c (Pl.take ii) ++ eachR kd (T (201 * p + ii), Y (201 * p + ii), V (201 * p + ii)) (fres I a (V (201 * p + ii)) c) := by rw [sE, each1, if_pos hff]
          have fin : ∀ (zw3 : Nat → va_E) (lx : List (Nat × Value)) (R1 : List RW), isD t zw3 nw (eachL I kd a c (Pl.take ii) ++ R1) U0 M0 T0 Y0 V0 → eachR kd (T (201 * p + ii), Y (201 * p + ii), V (201 * p + ii)) (fres I a (V (201 * p + ii)) c) = R1 → (∀ i, i < 143 ∨ 149 ≤ i ∨ i = 145 → zw3 i = zw2 i) → G l t (rD 1) P cX8_eachAll 7 RX8 none post 0 0 N ad 0 0 227 [(0, .ref (ad 132)), (1, .int (nI (201 * p))), (2, .int (nI (201 * p + ii)))] [] zw3 := by
            intro zw3 lx R1 hR he hf3
            refine G.iinc (v := nI ((201 * p + ii) + 1)) [(2, .int (nI ((201 * p + ii) + 1))), (0, .ref (ad 132)), (1, .int (nI (201 * p)))] 2 dX8_eachAll_227 rfl (nI_add ((201 * p + ii)) 1) (by decide) rfl ?_
            refine G.goto 16 dX8_eachAll_230 rfl ?_
            refine G.pick [1, 2, 0] [(0, .ref (ad 132)), (1, .int (nI (201 * p))), (2, .int (nI (201 * p + ii + 1)))] rfl ?_
            exact ih (ii + 1) zw3 (-4) F1 (by omega) (by rw [tE, he]; exact hR) (by rw [t0, t1]; exact (hf3 132 (by omega)).trans d0) ((hf3 145 (by omega)).trans d9) (by rw [t0]; exact f10) (by rw [t1]; exact f11) f12 (fun i q1 q2 => (hf3 i (by omega)).trans ((hf2 i q1).trans (hf i q1 q2)))
          refine G.aload_n 0 rfl rfl dX8_eachAll_66 ?_
          refine G.get 132 (by omega) d0 rfl twX8 29 (by decide) tb_633 rfl rfl dX8_eachAll_67 ?_
          refine G.bipush (v := -4) dX8_eachAll_70 (by decide +kernel) ?_
          refine G.icmp_eq 108 dX8_eachAll_72 rfl (fun c72 => ?_) (fun c72 => ?_)
          · skip
            refine G.aload_n 0 rfl rfl dX8_eachAll_108 ?_
            refine G.get 132 (by omega) d0 rfl twX8 8 (by decide) tb_612 rfl rfl dX8_eachAll_109 ?_
            refine G.aload_n 0 rfl rfl dX8_eachAll_112 ?_
            refine G.get 132 (by omega) d0 rfl twX8 28 (by decide) tb_632 rfl rfl dX8_eachAll_113 ?_
            refine G.iald 139 (by omega) d1 nw (rfl) (by omega) (by omega) dX8_eachAll_116 ?_
            refine G.topi (nI kd) (hk) ?_
            refine G.iconst (v := nI 1) dX8_eachAll_117 (by decide +kernel) ?_
            refine G.ncmp_ne 141 dX8_eachAll_118 rfl (by omega) (by omega) (fun c118 => ?_) (fun c118 => ?_)
            · skip
              refine G.aload_n 0 rfl rfl dX8_eachAll_141 ?_
              refine G.get 132 (by omega) d0 rfl twX8 8 (by decide) tb_612 rfl rfl dX8_eachAll_142 ?_
              refine G.aload_n 0 rfl rfl dX8_eachAll_145 ?_
              refine G.get 132 (by omega) d0 rfl twX8 28 (by decide) tb_632 rfl rfl dX8_eachAll_146 ?_
              refine G.iald 139 (by omega) d1 nw (rfl) (by omega) (by omega) dX8_eachAll_149 ?_
              refine G.topi (nI kd) (hk) ?_
              refine G.iconst (v := nI 3) dX8_eachAll_150 (by decide +kernel) ?_
              refine G.ncmp_ne 199 dX8_eachAll_151 rfl (by omega) (by omega) (fun c151 => ?_) (fun c151 => ?_)
              · skip
                refine G.lload_n 3 rfl rfl dX8_eachAll_199 ?_
                refine G.lconst (v := 0) dX8_eachAll_200 (by decide +kernel) ?_
                refine G.lcmp dX8_eachAll_201 ?_
                refine G.if_le 227 dX8_eachAll_202 rfl (fun c202 => ?_) (fun c202 => ?_)
                · skip
                  refine G.pick [0, 1, 2] [(0, .ref (ad 132)), (1, .int (nI (201 * p))), (2, .int (nI (201 * p + ii)))] rfl ?_
                  exact fin zw2 [] [] (by rw [List.append_nil]; exact eD2) (by rw [eachR, if_neg c118, if_neg c151, if_neg (Int64.not_lt.mpr (lgc_le.mp c202))]) (fun _ _ => rfl)
                · skip
                  refine G.aload_n 0 rfl rfl dX8_eachAll_205 ?_
                  refine G.aload_n 0 rfl rfl dX8_eachAll_206 ?_
                  refine G.get 132 (by omega) d0 rfl twX8 16 (by decide) tb_620 rfl rfl dX8_eachAll_207 ?_
                  refine G.iload_n 2 rfl rfl dX8_eachAll_210 ?_
                  refine G.iald 146 (by omega) d3 (201 * p + ii) (rfl) (by omega) (by omega) dX8_eachAll_211 ?_
                  refine G.aload_n 0 rfl rfl dX8_eachAll_212 ?_
                  refine G.get 132 (by omega) d0 rfl twX8 17 (by decide) tb_621 rfl rfl dX8_eachAll_213 ?_
                  refine G.iload_n 2 rfl rfl dX8_eachAll_216 ?_
                  refine G.iald 147 (by omega) d4 (201 * p + ii) (rfl) (by omega) (by omega) dX8_eachAll_217 ?_
                  refine G.aload_n 0 rfl rfl dX8_eachAll_218 ?_
                  refine G.get 132 (by omega) d0 rfl twX8 18 (by decide) tb_622 rfl rfl dX8_eachAll_219 ?_
                  refine G.iload_n 2 rfl rfl dX8_eachAll_222 ?_
                  refine G.lald 148 (by omega) d5 (201 * p + ii) (rfl) (by omega) (by omega) dX8_eachAll_223 ?_
                  refine G.callV (n := 3) 132 (c_X8_lay d0 eD2 hn hN (T (201 * p + ii)) (Y (201 * p + ii)) (V (201 * p + ii))) rfl (by omega) d0 rfl tb_768 tb_770 tb_18 tb_42 tb_771 (by decide +kernel) rfl ⟨(Nat.le_of_ble_eq_true rfl), (Nat.le_of_ble_eq_true rfl)⟩ ⟨rfl, rfl⟩ (Nat.le_of_ble_eq_true rfl) ⟨Nat.zero_le _, Nat.zero_le _⟩ dX8_eachAll_224 (fun gr2 zw3 hp => ?_)
                  obtain ⟨rfl, h5, hf4⟩ := hp
                  refine G.pick [0, 1, 2] [(0, .ref (ad 132)), (1, .int (nI (201 * p))), (2, .int (nI (201 * p + ii)))] rfl ?_
                  exact fin zw3 [] _ h5 (by rw [eachR, if_neg c118, if_neg c151, if_pos (Int64.not_le.mp (fun q => c202 (lgc_le.mpr q)))]) hf4
              · skip
                have hfm := (fmod_is (fres I a (V (201 * p + ii)) c)).1
                refine G.lload_n 3 rfl rfl dX8_eachAll_154 ?_
                refine G.ldc2_w dX8_eachAll_155 tb_806 ?_
                refine G.lrem dX8_eachAll_158 (by decide) ?_
                refine G.lstore [(5, .long ((fres I a (V (201 * p + ii)) c) - (fres I a (V (201 * p + ii)) c) / 6 * 6)), (0, .ref (ad 132)), (1, .int (nI (201 * p))), (2, .int (nI (201 * p + ii))), (3, .long (fres I a (V (201 * p + ii)) c))] dX8_eachAll_159 (by decide) rfl ?_
                refine G.aload_n 1 rfl rfl dX8_eachAll_161 ?_
                refine G.aload_n 1 rfl rfl dX8_eachAll_162 ?_
                refine G.get 132 (by omega) d0 rfl twX8 16 (by decide) tb_620 rfl rfl dX8_eachAll_163 ?_
                refine G.iload_n 3 rfl rfl dX8_eachAll_166 ?_
                refine G.iald 146 (by omega) d3 (201 * p + ii) (rfl) (by omega) (by omega) dX8_eachAll_167 ?_
                refine G.lload 0 rfl dX8_eachAll_168 ?_
                refine G.lconst (v := 0) dX8_eachAll_170 (by decide +kernel) ?_
                refine G.lcmp dX8_eachAll_171 ?_
                refine G.if_ge 184 dX8_eachAll_172 rfl (fun c172 => ?_) (fun c172 => ?_)
                · skip
                  rw [if_neg (Int64.not_lt.mpr (lgc_ge.mp c172))] at hfm
                  refine G.lload 0 rfl dX8_eachAll_184 ?_
                  refine G.l2i dX8_eachAll_186 ?_
                  refine G.aload_n 1 rfl rfl dX8_eachAll_187 ?_
                  refine G.get 132 (by omega) d0 rfl twX8 18 (by decide) tb_622 rfl rfl dX8_eachAll_188 ?_
                  refine G.iload_n 3 rfl rfl dX8_eachAll_191 ?_
                  refine G.lald 148 (by omega) d5 (201 * p + ii) (rfl) (by omega) (by omega) dX8_eachAll_192 ?_
                  refine G.callV (n := 3) 132 (c_X8_lay d0 eD2 hn hN (T (201 * p + ii)) (fres I a (V (201 * p + ii)) c - fres I a (V (201 * p + ii)) c / 6 * 6).toInt32 (V (201 * p + ii))) rfl (by omega) d0 rfl tb_768 tb_770 tb_18 tb_42 tb_771 (by decide +kernel) rfl ⟨(Nat.le_of_ble_eq_true rfl), (Nat.le_of_ble_eq_true rfl)⟩ ⟨rfl, rfl⟩ (Nat.le_of_ble_eq_true rfl) ⟨Nat.zero_le _, Nat.zero_le _⟩ dX8_eachAll_193 (fun gr3 zw3 hp => ?_)
                  obtain ⟨rfl, h5, hf4⟩ := hp
                  refine G.goto 227 dX8_eachAll_196 rfl ?_
                  refine G.pick [1, 2, 3] [(0, .ref (ad 132)), (1, .int (nI (201 * p))), (2, .int (nI (201 * p + ii)))] rfl ?_
                  exact fin zw3 [] _ h5 (by rw [eachR, if_neg c118, if_pos c151, hfm]) hf4
                · skip
                  rw [if_pos (Int64.not_le.mp (fun q => c172 (lgc_ge.mpr q)))] at hfm
                  refine G.lload 0 rfl dX8_eachAll_175 ?_
                  refine G.ldc2_w dX8_eachAll_177 tb_806 ?_
                  refine G.ladd dX8_eachAll_180 ?_
                  refine G.goto 186 dX8_eachAll_181 rfl ?_
                  refine G.l2i dX8_eachAll_186 ?_
                  refine G.aload_n 1 rfl rfl dX8_eachAll_187 ?_
                  refine G.get 132 (by omega) d0 rfl twX8 18 (by decide) tb_622 rfl rfl dX8_eachAll_188 ?_
                  refine G.iload_n 3 rfl rfl dX8_eachAll_191 ?_
                  refine G.lald 148 (by omega) d5 (201 * p + ii) (rfl) (by omega) (by omega) dX8_eachAll_192 ?_
                  refine G.callV (n := 3) 132 (c_X8_lay d0 eD2 hn hN (T (201 * p + ii)) (fres I a (V (201 * p + ii)) c - fres I a (V (201 * p + ii)) c / 6 * 6 + 6).toInt32 (V (201 * p + ii))) rfl (by omega) d0 rfl tb_768 tb_770 tb_18 tb_42 tb_771 (by decide +kernel) rfl ⟨(Nat.le_of_ble_eq_true rfl), (Nat.le_of_ble_eq_true rfl)⟩ ⟨rfl, rfl⟩ (Nat.le_of_ble_eq_true rfl) ⟨Nat.zero_le _, Nat.zero_le _⟩ dX8_eachAll_193 (fun gr4 zw3 hp => ?_)
                  obtain ⟨rfl, h5, hf4⟩ := hp
                  refine G.goto 227 dX8_eachAll_196 rfl ?_
                  refine G.pick [1, 2, 3] [(0, .ref (ad 132)), (1, .int (nI (201 * p))), (2, .int (nI (201 * p + ii)))] rfl ?_
                  exact fin zw3 [] _ h5 (by rw [eachR, if_neg c118, if_pos c151, hfm]) hf4
            · skip
              refine G.aload_n 0 rfl rfl dX8_eachAll_121 ?_
              refine G.aload_n 0 rfl rfl dX8_eachAll_122 ?_
              refine G.get 132 (by omega) d0 rfl twX8 16 (by decide) tb_620 rfl rfl dX8_eachAll_123 ?_
              refine G.iload_n 2 rfl rfl dX8_eachAll_126 ?_
              refine G.iald 146 (by omega) d3 (201 * p + ii) (rfl) (by omega) (by omega) dX8_eachAll_127 ?_
              refine G.aload_n 0 rfl rfl dX8_eachAll_128 ?_
              refine G.get 132 (by omega) d0 rfl twX8 17 (by decide) tb_621 rfl rfl dX8_eachAll_129 ?_
              refine G.iload_n 2 rfl rfl dX8_eachAll_132 ?_
              refine G.iald 147 (by omega) d4 (201 * p + ii) (rfl) (by omega) (by omega) dX8_eachAll_133 ?_
              refine G.lload_n 3 rfl rfl dX8_eachAll_134 ?_
              refine G.callV (n := 3) 132 (c_X8_lay d0 eD2 hn hN (T (201 * p + ii)) (Y (201 * p + ii)) (fres I a (V (201 * p + ii)) c)) rfl (by omega) d0 rfl tb_768 tb_770 tb_18 tb_42 tb_771 (by decide +kernel) rfl ⟨(Nat.le_of_ble_eq_true rfl), (Nat.le_of_ble_eq_true rfl)⟩ ⟨rfl, rfl⟩ (Nat.le_of_ble_eq_true rfl) ⟨Nat.zero_le _, Nat.zero_le _⟩ dX8_eachAll_135 (fun gr5 zw3 hp => ?_)
              obtain ⟨rfl, h5, hf4⟩ := hp
              refine G.goto 227 dX8_eachAll_138 rfl ?_
              refine G.pick [0, 1, 2] [(0, .ref (ad 132)), (1, .int (nI (201 * p))), (2, .int (nI (201 * p + ii)))] rfl ?_
              exact fin zw3 [] _ h5 (by rw [eachR, if_pos c118]) hf4
          · skip
            exact absurd rfl c72
        · have hff2 : ffail a (V (201 * p + ii)) c = 0 ∨ ffail a (V (201 * p + ii)) c = 1 := by
            unfold ffail at hff ⊢
            by_cases q1 : (a = 2 ∨ a = 3) ∧ c = 0
            · rw [if_pos q1]; exact Or.inl rfl
            · rw [if_neg q1] at hff ⊢
              by_cases q2 : a = 4 ∧ inT (V (201 * p + ii)) = false
              · rw [if_pos q2]; exact Or.inr rfl
              · rw [if_neg q2] at hff; exact absurd rfl hff
          obtain ⟨kn, hkn, hff3⟩ : ∃ kn, kn < 2 ∧ ffail a (V (201 * p + ii)) c = nI kn := by
            rcases hff2 with q | q
            · exact ⟨0, by omega, q⟩
            · exact ⟨1, by omega, q⟩
          have hrf := rfail_s hff3 (by rcases (show kn = 0 ∨ kn = 1 by omega) with rfl | rfl <;> decide)
          rw [hrf] at d0
          have tE : eachL I kd a c (Pl.take (ii + 1)) = eachL I kd a c (Pl.take ii) := by rw [sE, each1, if_neg hff, List.append_nil]
          have tz : failN 0 a c (Pl.take (ii + 1)) + failN 1 a c (Pl.take (ii + 1)) = failN 0 a c (Pl.take ii) + failN 1 a c (Pl.take ii) + 1 := by
            rw [s0, s1, hff3]
            rcases (show kn = 0 ∨ kn = 1 by omega) with rfl | rfl
            · rw [if_pos (by decide), if_neg (by decide)]; omega
            · rw [if_neg (by decide), if_pos (by decide)]; omega
          have tf : F1 (2 * nw + kn) = nI (if kn = 0 then failN 0 a c (Pl.take ii) else failN 1 a c (Pl.take ii)) := by
            rcases (show kn = 0 ∨ kn = 1 by omega) with rfl | rfl
            · exact f10
            · exact f11
          refine G.aload_n 0 rfl rfl dX8_eachAll_66 ?_
          refine G.get 132 (by omega) d0 rfl twX8 29 (by decide) tb_633 rfl rfl dX8_eachAll_67 ?_
          refine G.bipush (v := -4) dX8_eachAll_70 (by decide +kernel) ?_
          refine G.icmp_eq 108 dX8_eachAll_72 rfl (fun c72 => ?_) (fun c72 => ?_)
          · skip
            exact absurd c72 (by rcases (show kn = 0 ∨ kn = 1 by omega) with rfl | rfl <;> decide)
          · skip
            refine G.aload_n 0 rfl rfl dX8_eachAll_75 ?_
            refine G.get 132 (by omega) d0 rfl twX8 15 (by decide) tb_619 rfl rfl dX8_eachAll_76 ?_
            refine G.iconst (v := nI 2) dX8_eachAll_79 (by decide +kernel) ?_
            refine G.aload_n 0 rfl rfl dX8_eachAll_80 ?_
            refine G.get 132 (by omega) d0 rfl twX8 28 (by decide) tb_632 rfl rfl dX8_eachAll_81 ?_
            refine G.imul dX8_eachAll_84 ?_
            refine G.topi (nI (2 * nw)) (pk_mul 2 nw) ?_
            refine G.aload_n 0 rfl rfl dX8_eachAll_85 ?_
            refine G.get 132 (by omega) d0 rfl twX8 29 (by decide) tb_633 rfl rfl dX8_eachAll_86 ?_
            refine G.iadd dX8_eachAll_89 ?_
            refine G.topi (nI ((2 * nw) + kn)) (nI_add ((2 * nw)) kn) ?_
            refine G.dup2_11 rfl rfl dX8_eachAll_90 ?_
            refine G.iald 145 (by omega) d9 ((2 * nw) + kn) (rfl) (by omega) (by omega) dX8_eachAll_91 ?_
            refine G.topi (nI (if kn = 0 then failN 0 a c (Pl.take ii) else failN 1 a c (Pl.take ii))) (tf) ?_
            refine G.iconst (v := nI 1) dX8_eachAll_92 (by decide +kernel) ?_
            refine G.iadd dX8_eachAll_93 ?_
            refine G.topi (nI ((if kn = 0 then failN 0 a c (Pl.take ii) else failN 1 a c (Pl.take ii)) + 1)) (nI_add ((if kn = 0 then failN 0 a c (Pl.take ii) else failN 1 a c (Pl.take ii))) 1) ?_
            refine G.iast 145 (by omega) d9 ((2 * nw) + kn) (rfl) (by omega) (by omega) dX8_eachAll_94 (fun gw6 gh7 gf8 => ?_)
            refine G.aload_n 0 rfl rfl dX8_eachAll_95 ?_
            refine G.dup rfl dX8_eachAll_96 ?_
            have gh9 := (gf8 132 (by omega)).trans d0
            refine G.get 132 (by omega) gh9 rfl twX8 19 (by decide) tb_623 rfl rfl dX8_eachAll_97 ?_
            refine G.iconst (v := nI 1) dX8_eachAll_100 (by decide +kernel) ?_
            refine G.iadd dX8_eachAll_101 ?_
            refine G.topi (nI ((fc + (failN 0 a c (Pl.take ii) + failN 1 a c (Pl.take ii))) + 1)) (nI_add ((fc + (failN 0 a c (Pl.take ii) + failN 1 a c (Pl.take ii)))) 1) ?_
            refine G.put 132 (by omega) gh9 rfl twX8 19 (by decide) tyX8 tyX8_ok nmX8 tb_623 rfl rfl (tyX8_ok 19 (by decide)) rfl rfl (Nat.le_of_ble_eq_true rfl) dX8_eachAll_102 (fun gw10 gh11 gf12 => ?_)
            refine G.goto 227 dX8_eachAll_105 rfl ?_
            have k0 := gh11
            have gh13 := (gf12 145 (by omega)).trans gh7
            have k9 := gh13
            have hfr : ∀ i, i ≠ 132 ∧ i ≠ 145 → gw10 i = zw2 i := fun i hi => (gf12 i (by omega)).trans (gf8 i (by omega))
            refine G.pick [0, 1, 2] [(0, .ref (ad 132)), (1, .int (nI (201 * p))), (2, .int (nI (201 * p + ii)))] rfl ?_
            refine G.iinc (v := nI ((201 * p + ii) + 1)) [(2, .int (nI ((201 * p + ii) + 1))), (0, .ref (ad 132)), (1, .int (nI (201 * p)))] 2 dX8_eachAll_227 rfl (nI_add ((201 * p + ii)) 1) (by decide) rfl ?_
            refine G.goto 16 dX8_eachAll_230 rfl ?_
            refine G.pick [1, 2, 0] [(0, .ref (ad 132)), (1, .int (nI (201 * p))), (2, .int (nI (201 * p + ii + 1)))] rfl ?_
            refine ih (ii + 1) _ (nI kn) _ (by omega) (by rw [tE]; exact isW.keep eD2 (fun i q1 q2 q3 => hfr i (by omega))) (by rw [tz]; exact k0) k9 ?_ ?_ (fun j hj => by rw [upd_n (by omega)]; exact f12 j hj) (fun i q1 q2 => (hfr i (by omega)).trans ((hf2 i q1).trans (hf i q1 q2)))
            · rcases (show kn = 0 ∨ kn = 1 by omega) with rfl | rfl
              · rw [show 2 * nw + 0 = 2 * nw from rfl, upd_s, s0, hff3, if_pos rfl, if_pos (by decide)]
              · rw [upd_n (by omega), s0, hff3, if_neg (by decide)]; exact f10
            · rcases (show kn = 0 ∨ kn = 1 by omega) with rfl | rfl
              · rw [upd_n (by omega), s1, hff3, if_neg (by decide)]; exact f11
              · rw [upd_s, s1, hff3, if_neg (by decide), if_pos (by decide)]
  exact loop Pl.length 0 w fa F (by omega) hD h0 g3 hF.1 hF.2 (fun _ _ => rfl) (fun _ _ _ => rfl)
end RefD

