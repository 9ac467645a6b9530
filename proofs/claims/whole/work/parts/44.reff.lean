/-! the reference: SPANS -/
section RefF
variable {l : Launch} {t : TT} {N : Nat} {ad : Nat → Nat} {w : Nat → va_E} {n on jb fl io op ot ok fa : Int32} {nw : Nat} {U0 M0 T0 Y0 : Nat → Int32} {V0 : Nat → Int64}
set_option maxHeartbeats 1000000 in
theorem c_X8_spanAll {o1 o2 nm : Nat → Int32} {p sz hw : Nat} {Pl : List RW} (h0 : w 132 = .inr (8, xF ad n on jb fl io op ot ok (nI nw) fa)) (h1 : w 140 = .inl (t.2.1, 12, .inl o1)) (h2 : w 141 = .inl (t.2.1, 12, .inl o2)) (h3 : w 142 = .inl (t.2.1, 12, .inl nm)) (hp : o1 nw = nI p) (hh : o2 nw = nI hw) (hS : nm nw = nI sz) (hh4 : hw ≤ 4) (hs1 : 1 ≤ sz) (hs2 : sz ≤ 1000) (hpn : p < nw) (hPl : isP p Pl M0 T0 Y0 V0) (hD : isD t w nw [] U0 M0 T0 Y0 V0) (hn : nw < 12) (hN : 153 ≤ N) :
    K l t yX8_spanAll cX8_spanAll 8 none (rD 1) N ad w [.ref (ad 132)]
      (fun res w' => res = none ∧ isR t w' nw (srt (gk true) (Pl.foldl (spR sz hw) [])) U0 M0 T0 Y0 V0 ∧ ∀ i, i < 143 ∨ 149 ≤ i ∨ i = 145 → w' i = w i) := by
  have zP := hPl.2.1
  have hsz : ¬ nI sz = 0 := fun q => by
    have := congrArg Int32.toInt q
    rw [nI_toInt (by omega)] at this
    have h9 : (0 : Int32).toInt = 0 := by decide
    omega
  refine K.of (own := RX8) (lv := [(0, .ref (ad 132))]) (by decide +kernel) rfl (Nat.le_of_ble_eq_true rfl) rfl (fun P post hret => ?_)
  refine G.sipush (v := nI 201) dX8_spanAll_0 (by decide +kernel) ?_
  refine G.aload_n 0 rfl rfl dX8_spanAll_3 ?_
  refine G.get 132 (by omega) h0 rfl twX8 9 (by decide) tb_613 rfl rfl dX8_spanAll_4 ?_
  refine G.aload_n 0 rfl rfl dX8_spanAll_7 ?_
  refine G.get 132 (by omega) h0 rfl twX8 28 (by decide) tb_632 rfl rfl dX8_spanAll_8 ?_
  refine G.iald 140 (by omega) h1 nw (rfl) (by omega) (by omega) dX8_spanAll_11 ?_
  refine G.topi (nI p) (hp) ?_
  refine G.imul dX8_spanAll_12 ?_
  refine G.topi (nI (201 * p)) (pk_mul 201 p) ?_
  refine G.istore_n [(1, .int (nI (201 * p))), (0, .ref (ad 132))] dX8_spanAll_13 rfl (by decide) rfl ?_
  refine G.aload_n 1 rfl rfl dX8_spanAll_14 ?_
  refine G.get 132 (by omega) h0 rfl twX8 11 (by decide) tb_615 rfl rfl dX8_spanAll_15 ?_
  refine G.aload_n 1 rfl rfl dX8_spanAll_18 ?_
  refine G.get 132 (by omega) h0 rfl twX8 28 (by decide) tb_632 rfl rfl dX8_spanAll_19 ?_
  refine G.iald 142 (by omega) h3 nw (rfl) (by omega) (by omega) dX8_spanAll_22 ?_
  refine G.topi (nI sz) (hS) ?_
  refine G.istore_n [(2, .int (nI sz)), (1, .int (nI (201 * p))), (0, .ref (ad 132))] dX8_spanAll_23 rfl (by decide) rfl ?_
  refine G.iload_n 1 rfl rfl dX8_spanAll_24 ?_
  refine G.istore_n [(3, .int (nI (201 * p))), (2, .int (nI sz)), (1, .int (nI (201 * p))), (0, .ref (ad 132))] dX8_spanAll_25 rfl (by decide) rfl ?_
  refine G.pick [3, 2, 1, 0] [(0, .ref (ad 132)), (1, .int (nI (201 * p))), (2, .int (nI sz)), (3, .int (nI (201 * p)))] rfl ?_
  have loop : ∀ (mm ii : Nat) (zw : Nat → va_E), ii + mm = Pl.length → isD t zw nw ((Pl.take ii).foldl (spR sz hw) []) U0 M0 T0 Y0 V0 → (∀ i, i < 143 ∨ 149 ≤ i ∨ i = 145 → zw i = w i) → G l t (rD 1) P cX8_spanAll 8 RX8 none post 0 0 N ad 0 0 26 [(0, .ref (ad 132)), (1, .int (nI (201 * p))), (2, .int (nI sz)), (3, .int (nI (201 * p + ii)))] [] zw := by
    intro mm
    induction mm with
    | zero =>
      intro ii zw hi eD hf
      have f0 := (hf 132 (by omega)).trans h0
      have f1 := (hf 140 (by omega)).trans h1
      obtain ⟨U, M, T, Y, V, e1, e2, e3, e4, e5, e6, e7, e8, e9, e10, e11⟩ := id eD
      have em : M p = nI Pl.length := ((e10 p (by omega)).2).trans hPl.1
      have ex : ∀ k, k < Pl.length → Pl.getD k r0 = (T (201 * p + k), Y (201 * p + k), V (201 * p + k)) := fun k hk => by
        rw [hPl.2.2 k hk, (e11 (201 * p + k) (by omega)).1, (e11 (201 * p + k) (by omega)).2.1, (e11 (201 * p + k) (by omega)).2.2]
      refine G.iload_n 3 rfl rfl dX8_spanAll_26 ?_
      refine G.iload_n 1 rfl rfl dX8_spanAll_27 ?_
      refine G.aload_n 0 rfl rfl dX8_spanAll_28 ?_
      refine G.get 132 (by omega) f0 rfl twX8 14 (by decide) tb_618 rfl rfl dX8_spanAll_29 ?_
      refine G.aload_n 0 rfl rfl dX8_spanAll_32 ?_
      refine G.get 132 (by omega) f0 rfl twX8 9 (by decide) tb_613 rfl rfl dX8_spanAll_33 ?_
      refine G.aload_n 0 rfl rfl dX8_spanAll_36 ?_
      refine G.get 132 (by omega) f0 rfl twX8 28 (by decide) tb_632 rfl rfl dX8_spanAll_37 ?_
      refine G.iald 140 (by omega) f1 nw (rfl) (by omega) (by omega) dX8_spanAll_40 ?_
      refine G.topi (nI p) (hp) ?_
      refine G.iald 144 (by omega) e2 p (rfl) (by omega) (by omega) dX8_spanAll_41 ?_
      refine G.topi (nI Pl.length) (em) ?_
      refine G.iadd dX8_spanAll_42 ?_
      refine G.topi (nI ((201 * p) + Pl.length)) (nI_add ((201 * p)) Pl.length) ?_
      refine G.ncmp_ge 374 dX8_spanAll_43 rfl (by omega) (by omega) (fun c43 => ?_) (fun c43 => ?_)
      · skip
        refine G.aload_n 0 rfl rfl dX8_spanAll_374 ?_
        refine G.iconst (v := nI 1) dX8_spanAll_375 (by decide +kernel) ?_
        refine G.callV (n := 1) 132 (c_X8_rise f0 eD hn hN true) rfl (by omega) f0 rfl tb_772 tb_774 tb_19 tb_42 tb_775 (by decide +kernel) rfl ⟨(Nat.le_of_ble_eq_true rfl), (Nat.le_of_ble_eq_true rfl)⟩ ⟨rfl, rfl⟩ (Nat.le_of_ble_eq_true rfl) ⟨Nat.zero_le _, Nat.zero_le _⟩ dX8_spanAll_376 (fun gr1 zw2 hp => ?_)
        obtain ⟨rfl, h5, hf2⟩ := hp
        refine G.vret rfl rfl rfl dX8_spanAll_379 ?_
        rw [List.take_of_length_le (show Pl.length ≤ ii by omega)] at h5
        exact hret _ _ ⟨rfl, isW.isR h5, fun i hi => (hf2 i (by omega)).trans (hf i hi)⟩
      · skip
        omega
    | succ mm ih =>
      intro ii zw hi eD hf
      have f0 := (hf 132 (by omega)).trans h0
      have f1 := (hf 140 (by omega)).trans h1
      have f2 := (hf 141 (by omega)).trans h2
      have hnext := foldl_take (P := Pl) (i := ii) (spR sz hw) [] (by omega)
      have hlen := spR_len sz hw (Pl.take ii) []
      rw [List.length_take] at hlen
      generalize (Pl.take ii).foldl (spR sz hw) [] = Dl at eD hnext hlen
      have hlen2 : Dl.length ≤ ii := by simp at hlen; omega
      have eW : isW t zw nw Dl false U0 M0 T0 Y0 V0 := by
        have h9 := eD
        unfold isD at h9
        rw [List.take_of_length_le (by omega), decide_eq_false (by omega)] at h9
        exact h9
      obtain ⟨U, M, T, Y, V, e1, e2, e3, e4, e5, e6, e7, e8, e9, e10, e11⟩ := id eW
      have em : M p = nI Pl.length := ((e10 p (by omega)).2).trans hPl.1
      have ex : ∀ k, k < Pl.length → Pl.getD k r0 = (T (201 * p + k), Y (201 * p + k), V (201 * p + k)) := fun k hk => by
        rw [hPl.2.2 k hk, (e11 (201 * p + k) (by omega)).1, (e11 (201 * p + k) (by omega)).2.1, (e11 (201 * p + k) (by omega)).2.2]
      have xi := ex ii (by omega)
      rw [xi, show spR sz hw Dl (T (201 * p + ii), Y (201 * p + ii), V (201 * p + ii)) = spS hw (lastT (T (201 * p + ii)) sz) (Y (201 * p + ii)) (V (201 * p + ii)) Dl from rfl] at hnext
      refine G.iload_n 3 rfl rfl dX8_spanAll_26 ?_
      refine G.iload_n 1 rfl rfl dX8_spanAll_27 ?_
      refine G.aload_n 0 rfl rfl dX8_spanAll_28 ?_
      refine G.get 132 (by omega) f0 rfl twX8 14 (by decide) tb_618 rfl rfl dX8_spanAll_29 ?_
      refine G.aload_n 0 rfl rfl dX8_spanAll_32 ?_
      refine G.get 132 (by omega) f0 rfl twX8 9 (by decide) tb_613 rfl rfl dX8_spanAll_33 ?_
      refine G.aload_n 0 rfl rfl dX8_spanAll_36 ?_
      refine G.get 132 (by omega) f0 rfl twX8 28 (by decide) tb_632 rfl rfl dX8_spanAll_37 ?_
      refine G.iald 140 (by omega) f1 nw (rfl) (by omega) (by omega) dX8_spanAll_40 ?_
      refine G.topi (nI p) (hp) ?_
      refine G.iald 144 (by omega) e2 p (rfl) (by omega) (by omega) dX8_spanAll_41 ?_
      refine G.topi (nI Pl.length) (em) ?_
      refine G.iadd dX8_spanAll_42 ?_
      refine G.topi (nI ((201 * p) + Pl.length)) (nI_add ((201 * p)) Pl.length) ?_
      refine G.ncmp_ge 374 dX8_spanAll_43 rfl (by omega) (by omega) (fun c43 => ?_) (fun c43 => ?_)
      · skip
        omega
      · skip
        refine G.aload_n 0 rfl rfl dX8_spanAll_46 ?_
        refine G.get 132 (by omega) f0 rfl twX8 16 (by decide) tb_620 rfl rfl dX8_spanAll_47 ?_
        refine G.iload_n 3 rfl rfl dX8_spanAll_50 ?_
        refine G.iald 146 (by omega) e3 (201 * p + ii) (rfl) (by omega) (by omega) dX8_spanAll_51 ?_
        refine G.iload_n 2 rfl rfl dX8_spanAll_52 ?_
        refine G.idiv dX8_spanAll_53 hsz ?_
        refine G.iload_n 2 rfl rfl dX8_spanAll_54 ?_
        refine G.imul dX8_spanAll_55 ?_
        refine G.iload_n 2 rfl rfl dX8_spanAll_56 ?_
        refine G.iadd dX8_spanAll_57 ?_
        refine G.iconst (v := nI 1) dX8_spanAll_58 (by decide +kernel) ?_
        refine G.isub dX8_spanAll_59 ?_
        refine G.namei (fun la hla => ?_)
        refine G.istore [(4, .int la), (0, .ref (ad 132)), (1, .int (nI (201 * p))), (2, .int (nI sz)), (3, .int (nI (201 * p + ii)))] dX8_spanAll_60 (by decide) rfl ?_
        refine G.sipush (v := nI 201) dX8_spanAll_62 (by decide +kernel) ?_
        refine G.aload_n 1 rfl rfl dX8_spanAll_65 ?_
        refine G.get 132 (by omega) f0 rfl twX8 28 (by decide) tb_632 rfl rfl dX8_spanAll_66 ?_
        refine G.imul dX8_spanAll_69 ?_
        refine G.topi (nI (201 * nw)) (pk_mul 201 nw) ?_
        refine G.istore [(5, .int (nI (201 * nw))), (4, .int la), (0, .ref (ad 132)), (1, .int (nI (201 * p))), (2, .int (nI sz)), (3, .int (nI (201 * p + ii)))] dX8_spanAll_70 (by decide) rfl ?_
        refine G.iload 0 rfl dX8_spanAll_72 ?_
        refine G.aload_n 2 rfl rfl dX8_spanAll_74 ?_
        refine G.get 132 (by omega) f0 rfl twX8 14 (by decide) tb_618 rfl rfl dX8_spanAll_75 ?_
        refine G.aload_n 2 rfl rfl dX8_spanAll_78 ?_
        refine G.get 132 (by omega) f0 rfl twX8 28 (by decide) tb_632 rfl rfl dX8_spanAll_79 ?_
        refine G.iald 144 (by omega) e2 nw (rfl) (by omega) (by omega) dX8_spanAll_82 ?_
        refine G.topi (nI Dl.length) (e8) ?_
        refine G.iadd dX8_spanAll_83 ?_
        refine G.topi (nI ((201 * nw) + Dl.length)) (nI_add ((201 * nw)) Dl.length) ?_
        refine G.istore [(6, .int (nI ((201 * nw) + Dl.length))), (5, .int (nI (201 * nw))), (4, .int la), (0, .ref (ad 132)), (1, .int (nI (201 * p))), (2, .int (nI sz)), (3, .int (nI (201 * p + ii)))] dX8_spanAll_84 (by decide) rfl ?_
        refine G.pick [3, 4, 5, 6, 2, 1, 0] [(0, .ref (ad 132)), (1, .int (nI (201 * p))), (2, .int (nI sz)), (3, .int (nI (201 * p + ii))), (4, .int la), (5, .int (nI (201 * nw))), (6, .int (nI (201 * nw + Dl.length)))] rfl ?_
        rw [show lastT (T (201 * p + ii)) sz = la from hla.symm] at hnext
        have upd : ∀ (zw2 : Nat → va_E) (D2 : List RW) (jj : Nat) (fr : Int32) (U2 M2 T2 Y2 : Nat → Int32) (V2 : Nat → Int64), zw2 143 = .inl (t.2.2.2.1, 12, .inl U2) → zw2 144 = .inl (t.2.1, 12, .inl M2) → zw2 146 = .inl (t.2.1, 2412, .inl T2) → zw2 147 = .inl (t.2.1, 2412, .inl Y2) → zw2 148 = .inl (t.2.2.1, 2412, .inr (.inl V2)) → D2.length ≤ 200 → U2 nw = nI (bN false) → M2 nw = nI D2.length → D2 = sg T2 Y2 V2 (201 * nw) D2.length → (∀ k, k < nw → U2 k = U0 k ∧ M2 k = M0 k) → (∀ j, j < 201 * nw → T2 j = T0 j ∧ Y2 j = Y0 j ∧ V2 j = V0 j) → jj < D2.length → (∀ i, i < 143 ∨ 149 ≤ i ∨ i = 145 → zw2 i = w i) → (Pl.take (ii + 1)).foldl (spR sz hw) [] = D2.set jj ((D2.getD jj r0).1, (D2.getD jj r0).2.1, sNext hw (D2.getD jj r0).2.2 (V (201 * p + ii))) → G l t (rD 1) P cX8_spanAll 8 RX8 none post 0 0 N ad 0 0 197 [(0, .ref (ad 132)), (1, .int (nI (201 * p))), (2, .int (nI sz)), (3, .int (nI (201 * p + ii))), (4, .int la), (5, .int (nI (201 * nw + jj))), (6, .int (nI (201 * nw + Dl.length))), (7, .int fr)] [] zw2 := by
          intro zw2 D2 jj fr U2 M2 T2 Y2 V2 d1 d2 d3 d4 d5 d6 d7 d8 d9 d10 d11 hjj hf2 hres
          have b0 := (hf2 132 (by omega)).trans h0
          have b2 := (hf2 141 (by omega)).trans h2
          have xv : V2 (201 * p + ii) = V (201 * p + ii) := by rw [(d11 _ (by omega)).2.2, (e11 _ (by omega)).2.2]
          have xo : (D2.getD jj r0).2.2 = V2 (201 * nw + jj) := by rw [sg_get d9 hjj]
          have done : ∀ (zw9 : Nat → va_E) (nv : Int64), zw9 148 = .inl (t.2.2.1, 2412, .inr (.inl (vp_updL V2 (201 * nw + jj) nv))) → (∀ i, i ≠ 148 → zw9 i = zw2 i) → nv = sNext hw (V2 (201 * nw + jj)) (V2 (201 * p + ii)) → G l t (rD 1) P cX8_spanAll 8 RX8 none post 0 0 N ad 0 0 368 [(0, .ref (ad 132)), (1, .int (nI (201 * p))), (2, .int (nI sz)), (3, .int (nI (201 * p + ii))), (4, .int la), (5, .int (nI (201 * nw + jj))), (6, .int (nI (201 * nw + Dl.length))), (7, .int fr)] [] zw9 := by
            intro zw9 nv k5 hf9 hnv
            refine G.iinc (v := nI ((201 * p + ii) + 1)) [(3, .int (nI ((201 * p + ii) + 1))), (0, .ref (ad 132)), (1, .int (nI (201 * p))), (2, .int (nI sz)), (4, .int la), (5, .int (nI (201 * nw + jj))), (6, .int (nI (201 * nw + Dl.length))), (7, .int fr)] 3 dX8_spanAll_368 rfl (nI_add ((201 * p + ii)) 1) (by decide) rfl ?_
            refine G.goto 26 dX8_spanAll_371 rfl ?_
            refine G.pick [1, 2, 3, 0] [(0, .ref (ad 132)), (1, .int (nI (201 * p))), (2, .int (nI sz)), (3, .int (nI (201 * p + ii + 1)))] rfl ?_
            refine ih (ii + 1) zw9 (by omega) ?_ (fun i hi => (hf9 i (by omega)).trans (hf2 i hi))
            rw [hres, xo, ← xv, ← hnv]
            exact isD.setV d1 d2 d3 d4 d6 d7 d8 d9 d10 d11 hjj k5 hf9
          refine G.aload_n 0 rfl rfl dX8_spanAll_197 ?_
          refine G.get 132 (by omega) b0 rfl twX8 10 (by decide) tb_614 rfl rfl dX8_spanAll_198 ?_
          refine G.aload_n 0 rfl rfl dX8_spanAll_201 ?_
          refine G.get 132 (by omega) b0 rfl twX8 28 (by decide) tb_632 rfl rfl dX8_spanAll_202 ?_
          refine G.iald 141 (by omega) b2 nw (rfl) (by omega) (by omega) dX8_spanAll_205 ?_
          refine G.topi (nI hw) (hh) ?_
          rcases (show hw = 0 ∨ hw = 1 ∨ hw = 2 ∨ hw = 3 ∨ hw = 4 by omega) with rfl | rfl | rfl | rfl | rfl
          · skip
            refine G.tableIn (off := 30) 236 dX8_spanAll_206 (by decide +kernel) (by decide +kernel) (by decide +kernel) rfl ?_
            refine G.aload_n 0 rfl rfl dX8_spanAll_236 ?_
            refine G.get 132 (by omega) b0 rfl twX8 18 (by decide) tb_622 rfl rfl dX8_spanAll_237 ?_
            refine G.iload 5 rfl dX8_spanAll_240 ?_
            refine G.dup2_11 rfl rfl dX8_spanAll_242 ?_
            refine G.lald 148 (by omega) d5 (201 * nw + jj) (rfl) (by omega) (by omega) dX8_spanAll_243 ?_
            refine G.aload_n 0 rfl rfl dX8_spanAll_244 ?_
            refine G.get 132 (by omega) b0 rfl twX8 18 (by decide) tb_622 rfl rfl dX8_spanAll_245 ?_
            refine G.iload_n 3 rfl rfl dX8_spanAll_248 ?_
            refine G.lald 148 (by omega) d5 (201 * p + ii) (rfl) (by omega) (by omega) dX8_spanAll_249 ?_
            refine G.ladd dX8_spanAll_250 ?_
            refine G.last 148 (by omega) d5 (201 * nw + jj) (rfl) (by omega) (by omega) dX8_spanAll_251 (fun gw2 gh3 gf4 => ?_)
            refine G.goto 368 dX8_spanAll_252 rfl ?_
            have k5 := gh3
            have hfr : ∀ i, i ≠ 148 → gw2 i = zw2 i := fun i hi => gf4 i (by omega)
            refine G.pick [0, 1, 2, 3, 4, 5, 6, 7] [(0, .ref (ad 132)), (1, .int (nI (201 * p))), (2, .int (nI sz)), (3, .int (nI (201 * p + ii))), (4, .int la), (5, .int (nI (201 * nw + jj))), (6, .int (nI (201 * nw + Dl.length))), (7, .int fr)] rfl ?_
            exact done _ _ k5 hfr rfl
          · skip
            refine G.tableIn (off := 49) 255 dX8_spanAll_206 (by decide +kernel) (by decide +kernel) (by decide +kernel) rfl ?_
            refine G.aload_n 0 rfl rfl dX8_spanAll_255 ?_
            refine G.get 132 (by omega) b0 rfl twX8 18 (by decide) tb_622 rfl rfl dX8_spanAll_256 ?_
            refine G.iload 5 rfl dX8_spanAll_259 ?_
            refine G.dup2_11 rfl rfl dX8_spanAll_261 ?_
            refine G.lald 148 (by omega) d5 (201 * nw + jj) (rfl) (by omega) (by omega) dX8_spanAll_262 ?_
            refine G.lconst (v := 1) dX8_spanAll_263 (by decide +kernel) ?_
            refine G.ladd dX8_spanAll_264 ?_
            refine G.last 148 (by omega) d5 (201 * nw + jj) (rfl) (by omega) (by omega) dX8_spanAll_265 (fun gw5 gh6 gf7 => ?_)
            refine G.goto 368 dX8_spanAll_266 rfl ?_
            have k5 := gh6
            have hfr : ∀ i, i ≠ 148 → gw5 i = zw2 i := fun i hi => gf7 i (by omega)
            refine G.pick [0, 1, 2, 3, 4, 5, 6, 7] [(0, .ref (ad 132)), (1, .int (nI (201 * p))), (2, .int (nI sz)), (3, .int (nI (201 * p + ii))), (4, .int la), (5, .int (nI (201 * nw + jj))), (6, .int (nI (201 * nw + Dl.length))), (7, .int fr)] rfl ?_
            exact done _ _ k5 hfr rfl
          · skip
            refine G.tableIn (off := 63) 269 dX8_spanAll_206 (by decide +kernel) (by decide +kernel) (by decide +kernel) rfl ?_
            refine G.aload_n 0 rfl rfl dX8_spanAll_269 ?_
            refine G.get 132 (by omega) b0 rfl twX8 18 (by decide) tb_622 rfl rfl dX8_spanAll_270 ?_
            refine G.iload 5 rfl dX8_spanAll_273 ?_
            refine G.aload_n 0 rfl rfl dX8_spanAll_275 ?_
            refine G.get 132 (by omega) b0 rfl twX8 18 (by decide) tb_622 rfl rfl dX8_spanAll_276 ?_
            refine G.iload_n 3 rfl rfl dX8_spanAll_279 ?_
            refine G.lald 148 (by omega) d5 (201 * p + ii) (rfl) (by omega) (by omega) dX8_spanAll_280 ?_
            refine G.aload_n 0 rfl rfl dX8_spanAll_281 ?_
            refine G.get 132 (by omega) b0 rfl twX8 18 (by decide) tb_622 rfl rfl dX8_spanAll_282 ?_
            refine G.iload 5 rfl dX8_spanAll_285 ?_
            refine G.lald 148 (by omega) d5 (201 * nw + jj) (rfl) (by omega) (by omega) dX8_spanAll_287 ?_
            refine G.lcmp dX8_spanAll_288 ?_
            refine G.if_ge 301 dX8_spanAll_289 rfl (fun c289 => ?_) (fun c289 => ?_)
            · skip
              refine G.aload_n 0 rfl rfl dX8_spanAll_301 ?_
              refine G.get 132 (by omega) b0 rfl twX8 18 (by decide) tb_622 rfl rfl dX8_spanAll_302 ?_
              refine G.iload 5 rfl dX8_spanAll_305 ?_
              refine G.lald 148 (by omega) d5 (201 * nw + jj) (rfl) (by omega) (by omega) dX8_spanAll_307 ?_
              refine G.last 148 (by omega) d5 (201 * nw + jj) (rfl) (by omega) (by omega) dX8_spanAll_308 (fun gw8 gh9 gf10 => ?_)
              refine G.goto 368 dX8_spanAll_309 rfl ?_
              have k5 := gh9
              have hfr : ∀ i, i ≠ 148 → gw8 i = zw2 i := fun i hi => gf10 i (by omega)
              refine G.pick [0, 1, 2, 3, 4, 5, 6, 7] [(0, .ref (ad 132)), (1, .int (nI (201 * p))), (2, .int (nI sz)), (3, .int (nI (201 * p + ii))), (4, .int la), (5, .int (nI (201 * nw + jj))), (6, .int (nI (201 * nw + Dl.length))), (7, .int fr)] rfl ?_
              exact done _ _ k5 hfr (by simp only [sNext]; rw [if_neg (by decide), if_neg (by decide), if_pos trivial, if_neg (Int64.not_lt.mpr (lgc_ge.mp c289))])
            · skip
              refine G.aload_n 0 rfl rfl dX8_spanAll_292 ?_
              refine G.get 132 (by omega) b0 rfl twX8 18 (by decide) tb_622 rfl rfl dX8_spanAll_293 ?_
              refine G.iload_n 3 rfl rfl dX8_spanAll_296 ?_
              refine G.lald 148 (by omega) d5 (201 * p + ii) (rfl) (by omega) (by omega) dX8_spanAll_297 ?_
              refine G.goto 308 dX8_spanAll_298 rfl ?_
              refine G.last 148 (by omega) d5 (201 * nw + jj) (rfl) (by omega) (by omega) dX8_spanAll_308 (fun gw11 gh12 gf13 => ?_)
              refine G.goto 368 dX8_spanAll_309 rfl ?_
              have k5 := gh12
              have hfr : ∀ i, i ≠ 148 → gw11 i = zw2 i := fun i hi => gf13 i (by omega)
              refine G.pick [0, 1, 2, 3, 4, 5, 6, 7] [(0, .ref (ad 132)), (1, .int (nI (201 * p))), (2, .int (nI sz)), (3, .int (nI (201 * p + ii))), (4, .int la), (5, .int (nI (201 * nw + jj))), (6, .int (nI (201 * nw + Dl.length))), (7, .int fr)] rfl ?_
              exact done _ _ k5 hfr (by simp only [sNext]; rw [if_neg (by decide), if_neg (by decide), if_pos trivial, if_pos (Int64.not_le.mp (fun q => c289 (lgc_ge.mpr q)))])
          · skip
            refine G.tableIn (off := 106) 312 dX8_spanAll_206 (by decide +kernel) (by decide +kernel) (by decide +kernel) rfl ?_
            refine G.aload_n 0 rfl rfl dX8_spanAll_312 ?_
            refine G.get 132 (by omega) b0 rfl twX8 18 (by decide) tb_622 rfl rfl dX8_spanAll_313 ?_
            refine G.iload 5 rfl dX8_spanAll_316 ?_
            refine G.aload_n 0 rfl rfl dX8_spanAll_318 ?_
            refine G.get 132 (by omega) b0 rfl twX8 18 (by decide) tb_622 rfl rfl dX8_spanAll_319 ?_
            refine G.iload_n 3 rfl rfl dX8_spanAll_322 ?_
            refine G.lald 148 (by omega) d5 (201 * p + ii) (rfl) (by omega) (by omega) dX8_spanAll_323 ?_
            refine G.aload_n 0 rfl rfl dX8_spanAll_324 ?_
            refine G.get 132 (by omega) b0 rfl twX8 18 (by decide) tb_622 rfl rfl dX8_spanAll_325 ?_
            refine G.iload 5 rfl dX8_spanAll_328 ?_
            refine G.lald 148 (by omega) d5 (201 * nw + jj) (rfl) (by omega) (by omega) dX8_spanAll_330 ?_
            refine G.lcmp dX8_spanAll_331 ?_
            refine G.if_le 344 dX8_spanAll_332 rfl (fun c332 => ?_) (fun c332 => ?_)
            · skip
              refine G.aload_n 0 rfl rfl dX8_spanAll_344 ?_
              refine G.get 132 (by omega) b0 rfl twX8 18 (by decide) tb_622 rfl rfl dX8_spanAll_345 ?_
              refine G.iload 5 rfl dX8_spanAll_348 ?_
              refine G.lald 148 (by omega) d5 (201 * nw + jj) (rfl) (by omega) (by omega) dX8_spanAll_350 ?_
              refine G.last 148 (by omega) d5 (201 * nw + jj) (rfl) (by omega) (by omega) dX8_spanAll_351 (fun gw14 gh15 gf16 => ?_)
              refine G.goto 368 dX8_spanAll_352 rfl ?_
              have k5 := gh15
              have hfr : ∀ i, i ≠ 148 → gw14 i = zw2 i := fun i hi => gf16 i (by omega)
              refine G.pick [0, 1, 2, 3, 4, 5, 6, 7] [(0, .ref (ad 132)), (1, .int (nI (201 * p))), (2, .int (nI sz)), (3, .int (nI (201 * p + ii))), (4, .int la), (5, .int (nI (201 * nw + jj))), (6, .int (nI (201 * nw + Dl.length))), (7, .int fr)] rfl ?_
              exact done _ _ k5 hfr (by simp only [sNext]; rw [if_neg (by decide), if_neg (by decide), if_neg (by decide), if_pos trivial, if_neg (Int64.not_lt.mpr (lgc_le.mp c332))])
            · skip
              refine G.aload_n 0 rfl rfl dX8_spanAll_335 ?_
              refine G.get 132 (by omega) b0 rfl twX8 18 (by decide) tb_622 rfl rfl dX8_spanAll_336 ?_
              refine G.iload_n 3 rfl rfl dX8_spanAll_339 ?_
              refine G.lald 148 (by omega) d5 (201 * p + ii) (rfl) (by omega) (by omega) dX8_spanAll_340 ?_
              refine G.goto 351 dX8_spanAll_341 rfl ?_
              refine G.last 148 (by omega) d5 (201 * nw + jj) (rfl) (by omega) (by omega) dX8_spanAll_351 (fun gw17 gh18 gf19 => ?_)
              refine G.goto 368 dX8_spanAll_352 rfl ?_
              have k5 := gh18
              have hfr : ∀ i, i ≠ 148 → gw17 i = zw2 i := fun i hi => gf19 i (by omega)
              refine G.pick [0, 1, 2, 3, 4, 5, 6, 7] [(0, .ref (ad 132)), (1, .int (nI (201 * p))), (2, .int (nI sz)), (3, .int (nI (201 * p + ii))), (4, .int la), (5, .int (nI (201 * nw + jj))), (6, .int (nI (201 * nw + Dl.length))), (7, .int fr)] rfl ?_
              exact done _ _ k5 hfr (by simp only [sNext]; rw [if_neg (by decide), if_neg (by decide), if_neg (by decide), if_pos trivial, if_pos (Int64.not_le.mp (fun q => c332 (lgc_le.mpr q)))])
          · skip
            refine G.tableOut 355 dX8_spanAll_206 (by decide +kernel) rfl ?_
            refine G.aload_n 0 rfl rfl dX8_spanAll_355 ?_
            refine G.get 132 (by omega) b0 rfl twX8 18 (by decide) tb_622 rfl rfl dX8_spanAll_356 ?_
            refine G.iload 5 rfl dX8_spanAll_359 ?_
            refine G.aload_n 0 rfl rfl dX8_spanAll_361 ?_
            refine G.get 132 (by omega) b0 rfl twX8 18 (by decide) tb_622 rfl rfl dX8_spanAll_362 ?_
            refine G.iload_n 3 rfl rfl dX8_spanAll_365 ?_
            refine G.lald 148 (by omega) d5 (201 * p + ii) (rfl) (by omega) (by omega) dX8_spanAll_366 ?_
            refine G.last 148 (by omega) d5 (201 * nw + jj) (rfl) (by omega) (by omega) dX8_spanAll_367 (fun gw20 gh21 gf22 => ?_)
            have k5 := gh21
            have hfr : ∀ i, i ≠ 148 → gw20 i = zw2 i := fun i hi => gf22 i (by omega)
            refine G.pick [0, 1, 2, 3, 4, 5, 6, 7] [(0, .ref (ad 132)), (1, .int (nI (201 * p))), (2, .int (nI sz)), (3, .int (nI (201 * p + ii))), (4, .int la), (5, .int (nI (201 * nw + jj))), (6, .int (nI (201 * nw + Dl.length))), (7, .int fr)] rfl ?_
            exact done _ _ k5 hfr rfl
        have tail : ∀ jj, jj ≤ Dl.length → (∀ k, k < jj → ¬ ((Dl.getD k r0).1 = la ∧ (Dl.getD k r0).2.1 = Y (201 * p + ii))) → (jj < Dl.length → (Dl.getD jj r0).1 = la ∧ (Dl.getD jj r0).2.1 = Y (201 * p + ii)) → G l t (rD 1) P cX8_spanAll 8 RX8 none post 0 0 N ad 0 0 127 [(0, .ref (ad 132)), (1, .int (nI (201 * p))), (2, .int (nI sz)), (3, .int (nI (201 * p + ii))), (4, .int la), (5, .int (nI (201 * nw + jj))), (6, .int (nI (201 * nw + Dl.length)))] [] zw := by
          intro jj hjl hno hyes
          refine G.iload 5 rfl dX8_spanAll_127 ?_
          refine G.iload 6 rfl dX8_spanAll_129 ?_
          refine G.ncmp_ne 138 dX8_spanAll_131 rfl (by omega) (by omega) (fun c131 => ?_) (fun c131 => ?_)
          · skip
            refine G.iconst (v := nI 0) dX8_spanAll_138 (by decide +kernel) ?_
            refine G.istore [(7, .int (nI 0)), (0, .ref (ad 132)), (1, .int (nI (201 * p))), (2, .int (nI sz)), (3, .int (nI (201 * p + ii))), (4, .int la), (5, .int (nI (201 * nw + jj))), (6, .int (nI (201 * nw + Dl.length)))] dX8_spanAll_139 (by decide) rfl ?_
            refine G.iload 0 rfl dX8_spanAll_141 ?_
            refine G.nif_eq 197 dX8_spanAll_143 rfl (by decide) (fun _ => ?_) (fun zz => absurd zz (by decide))
            refine G.pick [1, 2, 3, 4, 5, 6, 7, 0] [(0, .ref (ad 132)), (1, .int (nI (201 * p))), (2, .int (nI sz)), (3, .int (nI (201 * p + ii))), (4, .int la), (5, .int (nI (201 * nw + jj))), (6, .int (nI (201 * nw + Dl.length))), (7, .int (nI 0))] rfl ?_
            exact upd zw Dl jj (nI 0) U M T Y V e1 e2 e3 e4 e5 e6 e7 e8 e9 e10 e11 (by omega) hf (by rw [hnext, spS_hit (by omega) hno (hyes (by omega))])
          · skip
            obtain rfl : jj = Dl.length := by omega
            refine G.iconst (v := nI 1) dX8_spanAll_134 (by decide +kernel) ?_
            refine G.goto 139 dX8_spanAll_135 rfl ?_
            refine G.istore [(7, .int (nI 1)), (0, .ref (ad 132)), (1, .int (nI (201 * p))), (2, .int (nI sz)), (3, .int (nI (201 * p + ii))), (4, .int la), (5, .int (nI (201 * nw + Dl.length))), (6, .int (nI (201 * nw + Dl.length)))] dX8_spanAll_139 (by decide) rfl ?_
            refine G.iload 0 rfl dX8_spanAll_141 ?_
            refine G.nif_eq 197 dX8_spanAll_143 rfl (by decide) (fun zz => absurd zz (by decide)) (fun _ => ?_)
            have hla2 : (Pl.take (ii + 1)).foldl (spR sz hw) [] = Dl ++ [(la, Y (201 * p + ii), sStart hw (V (201 * p + ii)))] := by rw [hnext, spS_miss hno]
            have frs : ∀ v0 : Int64, v0 = sZero hw (V (201 * p + ii)) → G l t (rD 1) P cX8_spanAll 8 RX8 none post 0 0 N ad 0 0 194 [(7, .int (nI 1)), (0, .ref (ad 132)), (1, .int (nI (201 * p))), (2, .int (nI sz)), (3, .int (nI (201 * p + ii))), (4, .int la), (5, .int (nI (201 * nw + Dl.length))), (6, .int (nI (201 * nw + Dl.length)))] [.long v0, .int (Y (201 * p + ii)), .int la, .ref (ad 132)] zw := by
              intro v0 hv0
              refine G.callV (n := 3) 132 (c_X8_lay f0 eD hn hN la (Y (201 * p + ii)) v0) rfl (by omega) f0 rfl tb_768 tb_770 tb_18 tb_42 tb_771 (by decide +kernel) rfl ⟨(Nat.le_of_ble_eq_true rfl), (Nat.le_of_ble_eq_true rfl)⟩ ⟨rfl, rfl⟩ (Nat.le_of_ble_eq_true rfl) ⟨Nat.zero_le _, Nat.zero_le _⟩ dX8_spanAll_194 (fun gr23 zw4 hp => ?_)
              obtain ⟨rfl, h5, hf4⟩ := hp
              refine G.pick [1, 2, 3, 4, 5, 6, 7, 0] [(0, .ref (ad 132)), (1, .int (nI (201 * p))), (2, .int (nI sz)), (3, .int (nI (201 * p + ii))), (4, .int la), (5, .int (nI (201 * nw + Dl.length))), (6, .int (nI (201 * nw + Dl.length))), (7, .int (nI 1))] rfl ?_
              unfold isD at h5
              have zl : (Dl ++ [(la, Y (201 * p + ii), v0)]).length = Dl.length + 1 := by simp
              rw [List.take_of_length_le (by rw [zl]; omega), decide_eq_false (by rw [zl]; omega)] at h5
              obtain ⟨U2, M2, T2, Y2, V2, d1, d2, d3, d4, d5, d6, d7, d8, d9, d10, d11⟩ := h5
              exact upd zw4 _ Dl.length (nI 1) U2 M2 T2 Y2 V2 d1 d2 d3 d4 d5 d6 d7 d8 d9 d10 d11 (by rw [zl]; omega) (fun i hi => (hf4 i hi).trans (hf i hi)) (by rw [hla2, getD_snoc, hv0, sNext_zero]; simp)
            refine G.aload_n 1 rfl rfl dX8_spanAll_146 ?_
            refine G.iload 5 rfl dX8_spanAll_147 ?_
            refine G.aload_n 1 rfl rfl dX8_spanAll_149 ?_
            refine G.get 132 (by omega) f0 rfl twX8 17 (by decide) tb_621 rfl rfl dX8_spanAll_150 ?_
            refine G.iload_n 4 rfl rfl dX8_spanAll_153 ?_
            refine G.iald 147 (by omega) e4 (201 * p + ii) (rfl) (by omega) (by omega) dX8_spanAll_154 ?_
            refine G.aload_n 1 rfl rfl dX8_spanAll_155 ?_
            refine G.get 132 (by omega) f0 rfl twX8 10 (by decide) tb_614 rfl rfl dX8_spanAll_156 ?_
            refine G.aload_n 1 rfl rfl dX8_spanAll_159 ?_
            refine G.get 132 (by omega) f0 rfl twX8 28 (by decide) tb_632 rfl rfl dX8_spanAll_160 ?_
            refine G.iald 141 (by omega) f2 nw (rfl) (by omega) (by omega) dX8_spanAll_163 ?_
            refine G.topi (nI hw) (hh) ?_
            refine G.iconst (v := nI 1) dX8_spanAll_164 (by decide +kernel) ?_
            refine G.ncmp_ne 172 dX8_spanAll_165 rfl (by omega) (by omega) (fun c165 => ?_) (fun c165 => ?_)
            · skip
              refine G.aload_n 1 rfl rfl dX8_spanAll_172 ?_
              refine G.get 132 (by omega) f0 rfl twX8 10 (by decide) tb_614 rfl rfl dX8_spanAll_173 ?_
              refine G.aload_n 1 rfl rfl dX8_spanAll_176 ?_
              refine G.get 132 (by omega) f0 rfl twX8 28 (by decide) tb_632 rfl rfl dX8_spanAll_177 ?_
              refine G.iald 141 (by omega) f2 nw (rfl) (by omega) (by omega) dX8_spanAll_180 ?_
              refine G.topi (nI hw) (hh) ?_
              refine G.nif_ne 188 dX8_spanAll_181 rfl (by omega) (fun c181 => ?_) (fun c181 => ?_)
              · skip
                refine G.aload_n 1 rfl rfl dX8_spanAll_188 ?_
                refine G.get 132 (by omega) f0 rfl twX8 18 (by decide) tb_622 rfl rfl dX8_spanAll_189 ?_
                refine G.iload_n 4 rfl rfl dX8_spanAll_192 ?_
                refine G.lald 148 (by omega) e5 (201 * p + ii) (rfl) (by omega) (by omega) dX8_spanAll_193 ?_
                refine G.pick [0, 1, 2, 3, 4, 5, 6, 7] [(7, .int (nI 1)), (0, .ref (ad 132)), (1, .int (nI (201 * p))), (2, .int (nI sz)), (3, .int (nI (201 * p + ii))), (4, .int la), (5, .int (nI (201 * nw + Dl.length))), (6, .int (nI (201 * nw + Dl.length)))] rfl ?_
                exact frs _ (by rw [sZero, if_neg c165, if_neg (by omega)])
              · skip
                refine G.lconst (v := 0) dX8_spanAll_184 (by decide +kernel) ?_
                refine G.goto 194 dX8_spanAll_185 rfl ?_
                refine G.pick [0, 1, 2, 3, 4, 5, 6, 7] [(7, .int (nI 1)), (0, .ref (ad 132)), (1, .int (nI (201 * p))), (2, .int (nI sz)), (3, .int (nI (201 * p + ii))), (4, .int la), (5, .int (nI (201 * nw + Dl.length))), (6, .int (nI (201 * nw + Dl.length)))] rfl ?_
                exact frs _ (by rw [sZero, if_neg c165, if_pos c181])
            · skip
              refine G.lconst (v := 0) dX8_spanAll_168 (by decide +kernel) ?_
              refine G.goto 194 dX8_spanAll_169 rfl ?_
              refine G.pick [0, 1, 2, 3, 4, 5, 6, 7] [(7, .int (nI 1)), (0, .ref (ad 132)), (1, .int (nI (201 * p))), (2, .int (nI sz)), (3, .int (nI (201 * p + ii))), (4, .int la), (5, .int (nI (201 * nw + Dl.length))), (6, .int (nI (201 * nw + Dl.length)))] rfl ?_
              exact frs _ (by rw [sZero, if_pos c165])
        have find : ∀ (m2 jj : Nat), jj + m2 = Dl.length → (∀ k, k < jj → ¬ ((Dl.getD k r0).1 = la ∧ (Dl.getD k r0).2.1 = Y (201 * p + ii))) → G l t (rD 1) P cX8_spanAll 8 RX8 none post 0 0 N ad 0 0 86 [(0, .ref (ad 132)), (1, .int (nI (201 * p))), (2, .int (nI sz)), (3, .int (nI (201 * p + ii))), (4, .int la), (5, .int (nI (201 * nw + jj))), (6, .int (nI (201 * nw + Dl.length)))] [] zw := by
          intro m2
          induction m2 with
          | zero =>
            intro jj hj hno
            refine G.iload 5 rfl dX8_spanAll_86 ?_
            refine G.iload 6 rfl dX8_spanAll_88 ?_
            refine G.ncmp_ge 127 dX8_spanAll_90 rfl (by omega) (by omega) (fun c90 => ?_) (fun c90 => ?_)
            · skip
              exact tail jj (by omega) hno (fun q => by omega)
            · skip
              omega
          | succ m2 ih2 =>
            intro jj hj hno
            have xj : Dl.getD jj r0 = (T (201 * nw + jj), Y (201 * nw + jj), V (201 * nw + jj)) := sg_get e9 (by omega)
            have next : ¬ ((Dl.getD jj r0).1 = la ∧ (Dl.getD jj r0).2.1 = Y (201 * p + ii)) → G l t (rD 1) P cX8_spanAll 8 RX8 none post 0 0 N ad 0 0 121 [(0, .ref (ad 132)), (1, .int (nI (201 * p))), (2, .int (nI sz)), (3, .int (nI (201 * p + ii))), (4, .int la), (5, .int (nI (201 * nw + jj))), (6, .int (nI (201 * nw + Dl.length)))] [] zw := by
              intro hb
              refine G.iinc (v := nI ((201 * nw + jj) + 1)) [(5, .int (nI ((201 * nw + jj) + 1))), (0, .ref (ad 132)), (1, .int (nI (201 * p))), (2, .int (nI sz)), (3, .int (nI (201 * p + ii))), (4, .int la), (6, .int (nI (201 * nw + Dl.length)))] 5 dX8_spanAll_121 rfl (nI_add ((201 * nw + jj)) 1) (by decide) rfl ?_
              refine G.goto 86 dX8_spanAll_124 rfl ?_
              refine G.pick [1, 2, 3, 4, 5, 0, 6] [(0, .ref (ad 132)), (1, .int (nI (201 * p))), (2, .int (nI sz)), (3, .int (nI (201 * p + ii))), (4, .int la), (5, .int (nI (201 * nw + jj + 1))), (6, .int (nI (201 * nw + Dl.length)))] rfl ?_
              refine ih2 (jj + 1) (by omega) (fun k hk => ?_)
              by_cases q : k = jj
              · subst q; exact hb
              · exact hno k (by omega)
            refine G.iload 5 rfl dX8_spanAll_86 ?_
            refine G.iload 6 rfl dX8_spanAll_88 ?_
            refine G.ncmp_ge 127 dX8_spanAll_90 rfl (by omega) (by omega) (fun c90 => ?_) (fun c90 => ?_)
            · skip
              omega
            · skip
              refine G.aload_n 0 rfl rfl dX8_spanAll_93 ?_
              refine G.get 132 (by omega) f0 rfl twX8 16 (by decide) tb_620 rfl rfl dX8_spanAll_94 ?_
              refine G.iload 5 rfl dX8_spanAll_97 ?_
              refine G.iald 146 (by omega) e3 (201 * nw + jj) (rfl) (by omega) (by omega) dX8_spanAll_99 ?_
              refine G.iload 4 rfl dX8_spanAll_100 ?_
              refine G.icmp_ne 121 dX8_spanAll_102 rfl (fun c102 => ?_) (fun c102 => ?_)
              · skip
                exact next (by rw [xj]; exact fun q => c102 q.1)
              · skip
                refine G.aload_n 0 rfl rfl dX8_spanAll_105 ?_
                refine G.get 132 (by omega) f0 rfl twX8 17 (by decide) tb_621 rfl rfl dX8_spanAll_106 ?_
                refine G.iload 5 rfl dX8_spanAll_109 ?_
                refine G.iald 147 (by omega) e4 (201 * nw + jj) (rfl) (by omega) (by omega) dX8_spanAll_111 ?_
                refine G.aload_n 0 rfl rfl dX8_spanAll_112 ?_
                refine G.get 132 (by omega) f0 rfl twX8 17 (by decide) tb_621 rfl rfl dX8_spanAll_113 ?_
                refine G.iload_n 3 rfl rfl dX8_spanAll_116 ?_
                refine G.iald 147 (by omega) e4 (201 * p + ii) (rfl) (by omega) (by omega) dX8_spanAll_117 ?_
                refine G.icmp_eq 127 dX8_spanAll_118 rfl (fun c118 => ?_) (fun c118 => ?_)
                · skip
                  exact tail jj (by omega) hno (fun _ => by rw [xj]; exact ⟨c102, c118⟩)
                · skip
                  exact next (by rw [xj]; exact fun q => c118 q.2)
        exact find Dl.length 0 (by omega) (fun k hk => by omega)
  exact loop Pl.length 0 w (by omega) hD (fun _ _ => rfl)
end RefF

