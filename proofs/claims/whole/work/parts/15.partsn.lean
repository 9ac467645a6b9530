/-! functions of the table, the arrivals in time, operators' and spans' methods -/
section PartsN
variable {l : Launch} {t : TT} {N : Nat} {ad : Nat → Nat} {w : Nat → va_E} {k : Nat}
theorem c_X6_resultOf {I : Nat → Int32} (hT : isTab t ad w k I) (hN : k + 2 ≤ N) {f : Nat} (hf : f ≤ 6) (v : Int64) (c : Int32) :
    K l t yX6_resultOf cX6_resultOf 5 (some .long) (rD 1) N ad w [.ref (ad k), .int (nI f), .long v, .int c]
      (fun res w' => w = w' ∧ res = some (.long (fres I f v c))) := by
  have zo := hT
  obtain ⟨I', h0, h1, h2⟩ := zo
  refine K.of (own := RX6) (lv := [(0, .ref (ad k)), (1, .int (nI f)), (2, .long v), (4, .int c)]) (by decide +kernel) rfl (Nat.le_of_ble_eq_true rfl) rfl (fun P post hret => ?_)
  refine G.iload_n 1 rfl rfl dX6_resultOf_0 ?_
  rcases (show f = 0 ∨ f = 1 ∨ f = 2 ∨ f = 3 ∨ f = 4 ∨ f = 5 ∨ f = 6 by omega) with rfl | rfl | rfl | rfl | rfl | rfl | rfl
  · skip
    refine G.tableIn (off := 43) 44 dX6_resultOf_1 (by decide +kernel) (by decide +kernel) (by decide +kernel) rfl ?_
    refine G.lload_n 2 rfl rfl dX6_resultOf_44 ?_
    refine G.iload 3 rfl dX6_resultOf_45 ?_
    refine G.i2l dX6_resultOf_47 ?_
    refine G.ladd dX6_resultOf_48 ?_
    refine G.lret rfl rfl rfl dX6_resultOf_49 ?_
    exact hret _ _ ⟨rfl, rfl⟩
  · skip
    refine G.tableIn (off := 49) 50 dX6_resultOf_1 (by decide +kernel) (by decide +kernel) (by decide +kernel) rfl ?_
    refine G.lload_n 2 rfl rfl dX6_resultOf_50 ?_
    refine G.iload 3 rfl dX6_resultOf_51 ?_
    refine G.i2l dX6_resultOf_53 ?_
    refine G.lmul dX6_resultOf_54 ?_
    refine G.lret rfl rfl rfl dX6_resultOf_55 ?_
    exact hret _ _ ⟨rfl, rfl⟩
  · skip
    refine G.tableIn (off := 55) 56 dX6_resultOf_1 (by decide +kernel) (by decide +kernel) (by decide +kernel) rfl ?_
    refine G.iload 3 rfl dX6_resultOf_56 ?_
    refine G.if_ne 65 dX6_resultOf_58 rfl (fun c58 => ?_) (fun c58 => ?_)
    · skip
      refine G.lload_n 2 rfl rfl dX6_resultOf_65 ?_
      refine G.iload 3 rfl dX6_resultOf_66 ?_
      refine G.i2l dX6_resultOf_68 ?_
      refine G.ldiv dX6_resultOf_69 (i64_ne0 c58) ?_
      refine G.lret rfl rfl rfl dX6_resultOf_70 ?_
      exact hret _ _ ⟨rfl, by simp [fres, c58]⟩
    · skip
      refine G.lconst (v := 0) dX6_resultOf_61 (by decide +kernel) ?_
      refine G.goto 70 dX6_resultOf_62 rfl ?_
      refine G.lret rfl rfl rfl dX6_resultOf_70 ?_
      exact hret _ _ ⟨rfl, by simp [fres, c58]⟩
  · skip
    refine G.tableIn (off := 70) 71 dX6_resultOf_1 (by decide +kernel) (by decide +kernel) (by decide +kernel) rfl ?_
    refine G.iload 3 rfl dX6_resultOf_71 ?_
    refine G.if_ne 80 dX6_resultOf_73 rfl (fun c73 => ?_) (fun c73 => ?_)
    · skip
      refine G.lload_n 2 rfl rfl dX6_resultOf_80 ?_
      refine G.iload 3 rfl dX6_resultOf_81 ?_
      refine G.i2l dX6_resultOf_83 ?_
      refine G.lrem dX6_resultOf_84 (i64_ne0 c73) ?_
      refine G.lret rfl rfl rfl dX6_resultOf_85 ?_
      exact hret _ _ ⟨rfl, by simp [fres, c73]⟩
    · skip
      refine G.lconst (v := 0) dX6_resultOf_76 (by decide +kernel) ?_
      refine G.goto 85 dX6_resultOf_77 rfl ?_
      refine G.lret rfl rfl rfl dX6_resultOf_85 ?_
      exact hret _ _ ⟨rfl, by simp [fres, c73]⟩
  · skip
    refine G.tableIn (off := 85) 86 dX6_resultOf_1 (by decide +kernel) (by decide +kernel) (by decide +kernel) rfl ?_
    refine G.aload_n 0 rfl rfl dX6_resultOf_86 ?_
    refine G.lload_n 2 rfl rfl dX6_resultOf_87 ?_
    refine G.callV (n := 1) k (c_X6_hasItem hT hN v) rfl (by omega) h0 rfl tb_388 tb_390 tb_6 tb_35 tb_391 (by decide +kernel) rfl ⟨(Nat.le_of_ble_eq_true rfl), (Nat.le_of_ble_eq_true rfl)⟩ ⟨rfl, rfl⟩ (Nat.le_of_ble_eq_true rfl) ⟨Nat.zero_le _, Nat.zero_le _⟩ dX6_resultOf_88 (fun gr2 gw1 hp => ?_)
    obtain ⟨rfl, rfl⟩ := hp
    refine G.if_eq 105 dX6_resultOf_91 rfl (fun c91 => ?_) (fun c91 => ?_)
    · skip
      refine G.lconst (v := 0) dX6_resultOf_105 (by decide +kernel) ?_
      refine G.lret rfl rfl rfl dX6_resultOf_106 ?_
      have zb : inT v = false := by
        cases hb : inT v with
        | false => rfl
        | true => rw [hb] at c91; exact absurd c91 (by decide)
      exact hret _ _ ⟨rfl, by simp [fres, zb]⟩
    · skip
      have zb : inT v = true := by
        cases hb : inT v with
        | true => rfl
        | false => rw [hb] at c91; exact absurd rfl c91
      obtain ⟨j, hj, zj⟩ := inT_n zb
      refine G.aload_n 0 rfl rfl dX6_resultOf_94 ?_
      refine G.get k (by omega) h0 rfl twX6 0 (by decide) tb_85 rfl rfl dX6_resultOf_95 ?_
      refine G.lload_n 2 rfl rfl dX6_resultOf_98 ?_
      refine G.l2i dX6_resultOf_99 ?_
      refine G.topi (nI j) (zj) ?_
      refine G.iald (k + 1) (by omega) h1 j (rfl) (by omega) (by omega) dX6_resultOf_100 ?_
      refine G.i2l dX6_resultOf_101 ?_
      refine G.goto 106 dX6_resultOf_102 rfl ?_
      refine G.lret rfl rfl rfl dX6_resultOf_106 ?_
      exact hret _ _ ⟨rfl, by simp [fres, zb, zj, nI_clamp (show j < 2 ^ 31 by omega), h2 j hj]⟩
  · skip
    refine G.tableIn (off := 106) 107 dX6_resultOf_1 (by decide +kernel) (by decide +kernel) (by decide +kernel) rfl ?_
    refine G.iload 3 rfl dX6_resultOf_107 ?_
    refine G.i2l dX6_resultOf_109 ?_
    refine G.lload_n 2 rfl rfl dX6_resultOf_110 ?_
    refine G.lsub dX6_resultOf_111 ?_
    refine G.lret rfl rfl rfl dX6_resultOf_112 ?_
    exact hret _ _ ⟨rfl, rfl⟩
  · skip
    refine G.tableIn (off := 112) 113 dX6_resultOf_1 (by decide +kernel) (by decide +kernel) (by decide +kernel) rfl ?_
    refine G.lload_n 2 rfl rfl dX6_resultOf_113 ?_
    refine G.l2i dX6_resultOf_114 ?_
    refine G.i2b dX6_resultOf_115 ?_
    refine G.i2l dX6_resultOf_116 ?_
    refine G.lret rfl rfl rfl dX6_resultOf_117 ?_
    exact hret _ _ ⟨rfl, rfl⟩
theorem c_X0_swapLate {A : List AR} (hA : isArr t ad w k A) (hN : k + 6 ≤ N) {j : Nat} (hj : j < A.length) (h01 : (A.getD j a0).2.2.2.2 = 0 ∨ (A.getD j a0).2.2.2.2 = 1) (z : Int32) (hz : z = 0 ∨ z = 1) :
    K l t yX0_swapLate cX0_swapLate 4 (some .boolean) (rD 0) N ad w [.ref (ad k), .int (nI j), .int z]
      (fun res w' => res = some (.int (A.getD j a0).2.2.2.2) ∧ isArr t ad w' k (A.set j (setLate (A.getD j a0) z)) ∧ ∀ i, i < k ∨ k + 6 ≤ i → w' i = w i) := by
  obtain ⟨S, T, Y, V, Z, n, h0, h1, h2, h3, h4, h5, hn, rfl⟩ := hA
  rw [al_len] at hj
  rw [al_at hj] at h01 ⊢
  refine K.of (own := RX0) (lv := [(0, .ref (ad k)), (1, .int (nI j)), (2, .int z)]) (by decide +kernel) rfl (Nat.le_of_ble_eq_true rfl) rfl (fun P post hret => ?_)
  refine G.iload_n 1 rfl rfl dX0_swapLate_0 ?_
  refine G.nif_lt 12 dX0_swapLate_1 rfl (by omega) ?_
  refine G.iload_n 1 rfl rfl dX0_swapLate_4 ?_
  refine G.aload_n 0 rfl rfl dX0_swapLate_5 ?_
  refine G.get k (by omega) h0 rfl twX0 5 (by decide) tb_63 rfl rfl dX0_swapLate_6 ?_
  refine G.ncmp_lt 14 dX0_swapLate_9 rfl (by omega) (by omega) (fun c9 => ?_) (fun c9 => ?_)
  · skip
    refine G.aload_n 0 rfl rfl dX0_swapLate_14 ?_
    refine G.get k (by omega) h0 rfl twX0 4 (by decide) tb_62 rfl rfl dX0_swapLate_15 ?_
    refine G.iload_n 1 rfl rfl dX0_swapLate_18 ?_
    refine G.zald (k + 5) (by omega) h5 j (rfl) (by omega) (by omega) dX0_swapLate_19 ?_
    refine G.istore_n [(3, .int (Z j)), (0, .ref (ad k)), (1, .int (nI j)), (2, .int z)] dX0_swapLate_20 rfl (by decide) rfl ?_
    refine G.aload_n 1 rfl rfl dX0_swapLate_21 ?_
    refine G.get k (by omega) h0 rfl twX0 4 (by decide) tb_62 rfl rfl dX0_swapLate_22 ?_
    refine G.iload_n 2 rfl rfl dX0_swapLate_25 ?_
    refine G.iload_n 3 rfl rfl dX0_swapLate_26 ?_
    refine G.zast (k + 5) (by omega) h5 j (rfl) (by omega) (by omega) hz dX0_swapLate_27 (fun gw1 gh2 gf3 => ?_)
    refine G.iload_n 0 rfl rfl dX0_swapLate_28 ?_
    refine G.zret rfl h01 rfl rfl dX0_swapLate_29 ?_
    have gh4 := (gf3 k (by omega)).trans h0
    have z0 := gh4
    have gh5 := (gf3 (k + 1) (by omega)).trans h1
    have z1 := gh5
    have gh6 := (gf3 (k + 2) (by omega)).trans h2
    have z2 := gh6
    have gh7 := (gf3 (k + 3) (by omega)).trans h3
    have z3 := gh7
    have gh8 := (gf3 (k + 4) (by omega)).trans h4
    have z4 := gh8
    have z5 := gh2
    have hfr : ∀ i, i < k ∨ k + 6 ≤ i → gw1 i = w i := fun i hi => gf3 i (by omega)
    exact hret _ _ ⟨rfl, ⟨S, T, Y, V, _, n, z0, z1, z2, z3, z4, z5, hn, (al_set hj).symm⟩, hfr⟩
  · skip
    omega
theorem c_X0_giveInTime {A : List AR} {r cap : Nat} (hA : isArr t ad w k A) (hR : isRows t ad w r cap []) (hN : k + 6 ≤ N) (hN2 : r + 4 ≤ N) (hd : k + 6 ≤ r ∨ r + 4 ≤ k) (hc : cap < 1000000) (h60 : 60 ≤ cap) (s : Int32) :
    K l t yX0_giveInTime cX0_giveInTime 4 (some .boolean) (rD 2) N ad w [.ref (ad k), .int s, .ref (ad r)]
      (fun res w' => res = some (.int 1) ∧ isRows t ad w' r cap (srt aboveT (sel s A)) ∧ ∀ i, i < r ∨ r + 4 ≤ i → w' i = w i) := by
  have zl := hA.obj.2
  refine K.of (own := RX0) (lv := [(0, .ref (ad k)), (1, .int s), (2, .ref (ad r))]) (by decide +kernel) rfl (Nat.le_of_ble_eq_true rfl) rfl (fun P post hret => ?_)
  refine G.iconst (v := nI 0) dX0_giveInTime_0 (by decide +kernel) ?_
  refine G.istore_n [(3, .int (nI 0)), (0, .ref (ad k)), (1, .int s), (2, .ref (ad r))] dX0_giveInTime_1 rfl (by decide) rfl ?_
  refine G.pick [1, 2, 3, 0] [(0, .ref (ad k)), (1, .int s), (2, .ref (ad r)), (3, .int (nI 0))] rfl ?_
  have loop : ∀ (m i : Nat) (zw : Nat → va_E), i + m = A.length → isRows t ad zw r cap (srt aboveT (sel s (A.take i))) → (∀ q, q < r ∨ r + 4 ≤ q → zw q = w q) → G l t (rD 2) P cX0_giveInTime 4 RX0 (some .boolean) post 0 0 N ad 0 0 2 [(0, .ref (ad k)), (1, .int s), (2, .ref (ad r)), (3, .int (nI i))] [] zw := by
    intro m
    induction m with
    | zero =>
      intro i zw hi hR1 hf1
      have hA1 : isArr t ad zw k A := hA.keep (fun q a b => hf1 q (by omega))
      refine G.iload_n 3 rfl rfl dX0_giveInTime_2 ?_
      refine G.aload_n 0 rfl rfl dX0_giveInTime_3 ?_
      refine G.get k (by omega) hA1.obj.1 rfl twX0 5 (by decide) tb_63 rfl rfl dX0_giveInTime_4 ?_
      refine G.ncmp_ge 63 dX0_giveInTime_7 rfl (by omega) (by omega) (fun c7 => ?_) (fun c7 => ?_)
      · skip
        refine G.iconst (v := nI 1) dX0_giveInTime_63 (by decide +kernel) ?_
        refine G.zret rfl (by decide) rfl rfl dX0_giveInTime_64 ?_
        rw [List.take_of_length_le (by omega)] at hR1
        exact hret _ _ ⟨rfl, hR1, hf1⟩
      · skip
        omega
    | succ m ih =>
      intro i zw hi hR1 hf1
      have hA1 : isArr t ad zw k A := hA.keep (fun q a b => hf1 q (by omega))
      have zlen : (srt aboveT (sel s (A.take i))).length < cap := by
        have za := sel_len s (A.take i)
        rw [List.length_take] at za
        rw [srt_len]; omega
      have zst : ∀ x, sel1 s (A.getD i a0) = x → sel s (A.take (i + 1)) = sel s (A.take i) ++ x := fun x hx => by rw [sel_take (by omega), hx]
      obtain ⟨S, T, Y, V, Z, n, h0, h1, h2, h3, h4, h5, hn, hAe⟩ := hA1
      have zn : A.length = n := by rw [hAe, al_len]
      have zat : A.getD i a0 = (S i, T i, Y i, V i, Z i) := by rw [hAe]; exact al_at (by omega)
      rw [zat] at zst
      refine G.iload_n 3 rfl rfl dX0_giveInTime_2 ?_
      refine G.aload_n 0 rfl rfl dX0_giveInTime_3 ?_
      refine G.get k (by omega) h0 rfl twX0 5 (by decide) tb_63 rfl rfl dX0_giveInTime_4 ?_
      refine G.ncmp_ge 63 dX0_giveInTime_7 rfl (by omega) (by omega) (fun c7 => ?_) (fun c7 => ?_)
      · skip
        omega
      · skip
        refine G.aload_n 0 rfl rfl dX0_giveInTime_10 ?_
        refine G.get k (by omega) h0 rfl twX0 0 (by decide) tb_58 rfl rfl dX0_giveInTime_11 ?_
        refine G.iload_n 3 rfl rfl dX0_giveInTime_14 ?_
        refine G.iald (k + 1) (by omega) h1 i (rfl) (by omega) (by omega) dX0_giveInTime_15 ?_
        refine G.iload_n 1 rfl rfl dX0_giveInTime_16 ?_
        refine G.icmp_ne 57 dX0_giveInTime_17 rfl (fun c17 => ?_) (fun c17 => ?_)
        · skip
          refine G.iinc (v := nI (i + 1)) [(3, .int (nI (i + 1))), (0, .ref (ad k)), (1, .int s), (2, .ref (ad r))] 3 dX0_giveInTime_57 rfl (nI_add i 1) (by decide) rfl ?_
          refine G.goto 2 dX0_giveInTime_60 rfl ?_
          refine G.pick [1, 2, 3, 0] [(0, .ref (ad k)), (1, .int s), (2, .ref (ad r)), (3, .int (nI (i + 1)))] rfl ?_
          have zz := ih (i + 1) zw (by omega)
          rw [zst [] (by simp [sel1, c17]), List.append_nil] at zz
          exact zz hR1 hf1
        · skip
          refine G.aload_n 0 rfl rfl dX0_giveInTime_20 ?_
          refine G.get k (by omega) h0 rfl twX0 4 (by decide) tb_62 rfl rfl dX0_giveInTime_21 ?_
          refine G.iload_n 3 rfl rfl dX0_giveInTime_24 ?_
          refine G.zald (k + 5) (by omega) h5 i (rfl) (by omega) (by omega) dX0_giveInTime_25 ?_
          refine G.if_ne 57 dX0_giveInTime_26 rfl (fun c26 => ?_) (fun c26 => ?_)
          · skip
            refine G.iinc (v := nI (i + 1)) [(3, .int (nI (i + 1))), (0, .ref (ad k)), (1, .int s), (2, .ref (ad r))] 3 dX0_giveInTime_57 rfl (nI_add i 1) (by decide) rfl ?_
            refine G.goto 2 dX0_giveInTime_60 rfl ?_
            refine G.pick [1, 2, 3, 0] [(0, .ref (ad k)), (1, .int s), (2, .ref (ad r)), (3, .int (nI (i + 1)))] rfl ?_
            have zz := ih (i + 1) zw (by omega)
            rw [zst [] (by simp [sel1, c26]), List.append_nil] at zz
            exact zz hR1 hf1
          · skip
            refine G.aload_n 2 rfl rfl dX0_giveInTime_29 ?_
            refine G.aload_n 0 rfl rfl dX0_giveInTime_30 ?_
            refine G.get k (by omega) h0 rfl twX0 1 (by decide) tb_59 rfl rfl dX0_giveInTime_31 ?_
            refine G.iload_n 3 rfl rfl dX0_giveInTime_34 ?_
            refine G.iald (k + 2) (by omega) h2 i (rfl) (by omega) (by omega) dX0_giveInTime_35 ?_
            refine G.aload_n 0 rfl rfl dX0_giveInTime_36 ?_
            refine G.get k (by omega) h0 rfl twX0 2 (by decide) tb_60 rfl rfl dX0_giveInTime_37 ?_
            refine G.iload_n 3 rfl rfl dX0_giveInTime_40 ?_
            refine G.iald (k + 3) (by omega) h3 i (rfl) (by omega) (by omega) dX0_giveInTime_41 ?_
            refine G.aload_n 0 rfl rfl dX0_giveInTime_42 ?_
            refine G.get k (by omega) h0 rfl twX0 3 (by decide) tb_61 rfl rfl dX0_giveInTime_43 ?_
            refine G.iload_n 3 rfl rfl dX0_giveInTime_46 ?_
            refine G.iald (k + 4) (by omega) h4 i (rfl) (by omega) (by omega) dX0_giveInTime_47 ?_
            refine G.i2l dX0_giveInTime_48 ?_
            refine G.callV (n := 3) r (c_X4_addByTime hR1 hN2 hc (T i) (Y i) (V i).toInt64) rfl (by omega) hR1.obj rfl tb_357 tb_358 tb_359 tb_39 tb_360 (by decide +kernel) rfl ⟨(Nat.le_of_ble_eq_true rfl), (Nat.le_of_ble_eq_true rfl)⟩ ⟨rfl, rfl⟩ (Nat.le_of_ble_eq_true rfl) ⟨Nat.zero_le _, Nat.zero_le _⟩ dX0_giveInTime_49 (fun gr1 zw2 hp => ?_)
            obtain ⟨rfl, hR3, hf⟩ := hp
            rw [if_pos zlen] at hR3
            rw [if_pos zlen]
            refine G.if_ne 57 dX0_giveInTime_52 rfl (fun c52 => ?_) (fun c52 => ?_)
            · skip
              refine G.iinc (v := nI (i + 1)) [(3, .int (nI (i + 1))), (0, .ref (ad k)), (1, .int s), (2, .ref (ad r))] 3 dX0_giveInTime_57 rfl (nI_add i 1) (by decide) rfl ?_
              refine G.goto 2 dX0_giveInTime_60 rfl ?_
              refine G.pick [1, 2, 3, 0] [(0, .ref (ad k)), (1, .int s), (2, .ref (ad r)), (3, .int (nI (i + 1)))] rfl ?_
              refine ih (i + 1) zw2 (by omega) ?_ (fun q hq => (hf q hq).trans (hf1 q hq))
              rw [zst [(T i, Y i, (V i).toInt64)] (by simp [sel1, c17, c26]), srt_snoc]
              exact hR3
            · skip
              exact absurd c52 (by decide)
  exact loop A.length 0 w (by omega) hR (fun _ _ => rfl)
theorem c_X2_become {k0 p0 q0 e0 b0 u z x : Int32} (h0 : w k = .inr (2, opF ad k k0 p0 q0 e0 b0 u z x)) (hN : k + 9 ≤ N) (kd p q a b : Int32) :
    K l t yX2_become cX2_become 6 none (rD 0) N ad w [.ref (ad k), .int kd, .int p, .int q, .int a, .int b]
      (fun res w' => res = none ∧ w' k = .inr (2, opF ad k kd p q a b u z x) ∧ ∀ i, i ≠ k → w' i = w i) := by
  refine K.of (own := RX2) (lv := [(0, .ref (ad k)), (1, .int kd), (2, .int p), (3, .int q), (4, .int a), (5, .int b)]) (by decide +kernel) rfl (Nat.le_of_ble_eq_true rfl) rfl (fun P post hret => ?_)
  refine G.aload_n 0 rfl rfl dX2_become_0 ?_
  refine G.iload_n 1 rfl rfl dX2_become_1 ?_
  refine G.put k (by omega) h0 rfl twX2 2 (by decide) tyX2 tyX2_ok nmX2 tb_177 rfl rfl (tyX2_ok 2 (by decide)) rfl rfl (Nat.le_of_ble_eq_true rfl) dX2_become_2 (fun gw1 gh2 gf3 => ?_)
  refine G.aload_n 0 rfl rfl dX2_become_5 ?_
  refine G.iload_n 2 rfl rfl dX2_become_6 ?_
  refine G.put k (by omega) gh2 rfl twX2 3 (by decide) tyX2 tyX2_ok nmX2 tb_180 rfl rfl (tyX2_ok 3 (by decide)) rfl rfl (Nat.le_of_ble_eq_true rfl) dX2_become_7 (fun gw4 gh5 gf6 => ?_)
  refine G.aload_n 0 rfl rfl dX2_become_10 ?_
  refine G.iload_n 3 rfl rfl dX2_become_11 ?_
  refine G.put k (by omega) gh5 rfl twX2 4 (by decide) tyX2 tyX2_ok nmX2 tb_182 rfl rfl (tyX2_ok 4 (by decide)) rfl rfl (Nat.le_of_ble_eq_true rfl) dX2_become_12 (fun gw7 gh8 gf9 => ?_)
  refine G.aload_n 0 rfl rfl dX2_become_15 ?_
  refine G.iload 4 rfl dX2_become_16 ?_
  refine G.put k (by omega) gh8 rfl twX2 5 (by decide) tyX2 tyX2_ok nmX2 tb_184 rfl rfl (tyX2_ok 5 (by decide)) rfl rfl (Nat.le_of_ble_eq_true rfl) dX2_become_18 (fun gw10 gh11 gf12 => ?_)
  refine G.aload_n 0 rfl rfl dX2_become_21 ?_
  refine G.iload 5 rfl dX2_become_22 ?_
  refine G.put k (by omega) gh11 rfl twX2 6 (by decide) tyX2 tyX2_ok nmX2 tb_187 rfl rfl (tyX2_ok 6 (by decide)) rfl rfl (Nat.le_of_ble_eq_true rfl) dX2_become_24 (fun gw13 gh14 gf15 => ?_)
  refine G.vret rfl rfl rfl dX2_become_27 ?_
  have z0 := gh14
  have hfr : ∀ i, i ≠ k → gw13 i = w i := fun i hi => (gf15 i (by omega)).trans ((gf12 i (by omega)).trans ((gf9 i (by omega)).trans ((gf6 i (by omega)).trans (gf3 i (by omega)))))
  exact hret _ _ ⟨rfl, z0, hfr⟩
theorem c_X2_startAgain {kd p q a b u z x : Int32} {L : List RW} (h0 : w k = .inr (2, opF ad k kd p q a b u z x)) (hR : isRows t ad w (k + 1) 200 L) (hN : k + 9 ≤ N) :
    K l t yX2_startAgain cX2_startAgain 1 none (rD 1) N ad w [.ref (ad k)]
      (fun res w' => res = none ∧ w' k = .inr (2, opF ad k kd p q a b (nI 0) (nI 0) (nI 0)) ∧ isRows t ad w' (k + 1) 200 [] ∧ ∀ i, i < k ∨ k + 5 ≤ i → w' i = w i) := by
  refine K.of (own := RX2) (lv := [(0, .ref (ad k))]) (by decide +kernel) rfl (Nat.le_of_ble_eq_true rfl) rfl (fun P post hret => ?_)
  refine G.aload_n 0 rfl rfl dX2_startAgain_0 ?_
  refine G.get k (by omega) h0 rfl twX2 0 (by decide) tb_172 rfl rfl dX2_startAgain_1 ?_
  refine G.callV (n := 0) (k + 1) (c_X4_empty hR (by omega)) rfl (by omega) hR.obj rfl tb_352 tb_337 tb_338 tb_39 tb_339 (by decide +kernel) rfl ⟨(Nat.le_of_ble_eq_true rfl), (Nat.le_of_ble_eq_true rfl)⟩ ⟨rfl, rfl⟩ (Nat.le_of_ble_eq_true rfl) ⟨Nat.zero_le _, Nat.zero_le _⟩ dX2_startAgain_4 (fun gr1 zw hp => ?_)
  obtain ⟨rfl, hR1, hf⟩ := hp
  refine G.aload_n 0 rfl rfl dX2_startAgain_7 ?_
  refine G.iconst (v := nI 0) dX2_startAgain_8 (by decide +kernel) ?_
  have gh2 := (hf k (by omega)).trans h0
  refine G.put k (by omega) gh2 rfl twX2 7 (by decide) tyX2 tyX2_ok nmX2 tb_189 rfl rfl (tyX2_ok 7 (by decide)) (nb_n (Or.inl nI_0)) (nb_f (Or.inl nI_0)) (Nat.le_of_ble_eq_true rfl) dX2_startAgain_9 (fun gw3 gh4 gf5 => ?_)
  refine G.aload_n 0 rfl rfl dX2_startAgain_12 ?_
  refine G.iconst (v := nI 0) dX2_startAgain_13 (by decide +kernel) ?_
  refine G.put k (by omega) gh4 rfl twX2 8 (by decide) tyX2 tyX2_ok nmX2 tb_191 rfl rfl (tyX2_ok 8 (by decide)) rfl rfl (Nat.le_of_ble_eq_true rfl) dX2_startAgain_14 (fun gw6 gh7 gf8 => ?_)
  refine G.aload_n 0 rfl rfl dX2_startAgain_17 ?_
  refine G.iconst (v := nI 0) dX2_startAgain_18 (by decide +kernel) ?_
  refine G.put k (by omega) gh7 rfl twX2 9 (by decide) tyX2 tyX2_ok nmX2 tb_192 rfl rfl (tyX2_ok 9 (by decide)) rfl rfl (Nat.le_of_ble_eq_true rfl) dX2_startAgain_19 (fun gw9 gh10 gf11 => ?_)
  refine G.vret rfl rfl rfl dX2_startAgain_22 ?_
  have z0 := gh10
  have hfr : ∀ i, i ≠ k → gw9 i = zw i := fun i hi => (gf11 i (by omega)).trans ((gf8 i (by omega)).trans (gf5 i (by omega)))
  exact hret _ _ ⟨rfl, z0, hR1.keep (fun i i1 i2 => hfr i (by omega)), fun i hi => (hfr i (by omega)).trans (hf i (by omega))⟩
theorem c_X2_end {kd p q a b u z x : Int32} {L : List RW} (h0 : w k = .inr (2, opF ad k kd p q a b u z x)) (hR : isRows t ad w (k + 1) 200 L) (hN : k + 9 ≤ N) (d : Int32) :
    K l t yX2_end cX2_end 2 none (rD 1) N ad w [.ref (ad k), .int d]
      (fun res w' => res = none ∧ w' k = .inr (2, opF ad k kd p q a b (if d = 0 then nI 1 else nI 0) z x) ∧ isRows t ad w' (k + 1) 200 (if d = 0 then [] else L) ∧ ∀ i, i < k ∨ k + 5 ≤ i → w' i = w i) := by
  refine K.of (own := RX2) (lv := [(0, .ref (ad k)), (1, .int d)]) (by decide +kernel) rfl (Nat.le_of_ble_eq_true rfl) rfl (fun P post hret => ?_)
  refine G.aload_n 0 rfl rfl dX2_end_0 ?_
  refine G.iload_n 1 rfl rfl dX2_end_1 ?_
  refine G.if_ne 9 dX2_end_2 rfl (fun c2 => ?_) (fun c2 => ?_)
  · skip
    refine G.iconst (v := nI 0) dX2_end_9 (by decide +kernel) ?_
    refine G.put k (by omega) h0 rfl twX2 7 (by decide) tyX2 tyX2_ok nmX2 tb_189 rfl rfl (tyX2_ok 7 (by decide)) (nb_n (Or.inl nI_0)) (nb_f (Or.inl nI_0)) (Nat.le_of_ble_eq_true rfl) dX2_end_10 (fun gw1 gh2 gf3 => ?_)
    refine G.aload_n 0 rfl rfl dX2_end_13 ?_
    refine G.get k (by omega) gh2 rfl twX2 7 (by decide) tb_189 rfl rfl dX2_end_14 ?_
    refine G.nif_eq 27 dX2_end_17 rfl (by omega) (fun c17 => ?_) (fun c17 => ?_)
    · skip
      refine G.vret rfl rfl rfl dX2_end_27 ?_
      have z0 := gh2
      have hfr : ∀ i, i ≠ k → gw1 i = w i := fun i hi => gf3 i (by omega)
      rw [if_neg c2, if_neg c2] at hret
      exact hret _ _ ⟨rfl, z0, hR.keep (fun i i1 i2 => hfr i (by omega)), fun i hi => hfr i (by omega)⟩
    · skip
      omega
  · skip
    refine G.iconst (v := nI 1) dX2_end_5 (by decide +kernel) ?_
    refine G.goto 10 dX2_end_6 rfl ?_
    refine G.put k (by omega) h0 rfl twX2 7 (by decide) tyX2 tyX2_ok nmX2 tb_189 rfl rfl (tyX2_ok 7 (by decide)) (nb_n (Or.inr rfl)) (nb_f (Or.inr rfl)) (Nat.le_of_ble_eq_true rfl) dX2_end_10 (fun gw4 gh5 gf6 => ?_)
    refine G.aload_n 0 rfl rfl dX2_end_13 ?_
    refine G.get k (by omega) gh5 rfl twX2 7 (by decide) tb_189 rfl rfl dX2_end_14 ?_
    refine G.nif_eq 27 dX2_end_17 rfl (by omega) (fun c17 => ?_) (fun c17 => ?_)
    · skip
      omega
    · skip
      have hfr : ∀ i, i ≠ k → gw4 i = w i := fun i hi => gf6 i (by omega)
      have hR1 := hR.keep (fun i i1 i2 => hfr i (by omega))
      refine G.aload_n 0 rfl rfl dX2_end_20 ?_
      refine G.get k (by omega) gh5 rfl twX2 0 (by decide) tb_172 rfl rfl dX2_end_21 ?_
      have gh8 := (gf6 (k + 1) (by omega)).trans hR.obj
      refine G.callV (n := 0) (k + 1) (c_X4_empty hR1 (by omega)) rfl (by omega) gh8 rfl tb_352 tb_337 tb_338 tb_39 tb_339 (by decide +kernel) rfl ⟨(Nat.le_of_ble_eq_true rfl), (Nat.le_of_ble_eq_true rfl)⟩ ⟨rfl, rfl⟩ (Nat.le_of_ble_eq_true rfl) ⟨Nat.zero_le _, Nat.zero_le _⟩ dX2_end_24 (fun gr7 zw hp => ?_)
      obtain ⟨rfl, hR2, hf⟩ := hp
      have gh9 := (hf k (by omega)).trans gh5
      have z0 := gh9
      refine G.vret rfl rfl rfl dX2_end_27 ?_
      rw [if_pos c2, if_pos c2] at hret
      exact hret _ _ ⟨rfl, z0, hR2, fun i hi => (hf i (by omega)).trans (hfr i (by omega))⟩
theorem c_X2_addFailure {kd p q a b u : Int32} {z x : Nat} (h0 : w k = .inr (2, opF ad k kd p q a b u (nI z) (nI x))) (hN : k + 9 ≤ N) {f : Nat} (hf : f < 2) :
    K l t yX2_addFailure cX2_addFailure 2 none (rD 0) N ad w [.ref (ad k), .int (nI f)]
      (fun res w' => res = none ∧ w' k = .inr (2, opF ad k kd p q a b u (nI (if f = 0 then z + 1 else z)) (nI (if f = 1 then x + 1 else x))) ∧ ∀ i, i ≠ k → w' i = w i) := by
  refine K.of (own := RX2) (lv := [(0, .ref (ad k)), (1, .int (nI f))]) (by decide +kernel) rfl (Nat.le_of_ble_eq_true rfl) rfl (fun P post hret => ?_)
  refine G.iload_n 1 rfl rfl dX2_addFailure_0 ?_
  refine G.nif_ne 17 dX2_addFailure_1 rfl (by omega) (fun c1 => ?_) (fun c1 => ?_)
  · skip
    refine G.iload_n 1 rfl rfl dX2_addFailure_17 ?_
    refine G.iconst (v := nI 1) dX2_addFailure_18 (by decide +kernel) ?_
    refine G.ncmp_ne 32 dX2_addFailure_19 rfl (by omega) (by omega) (fun c19 => ?_) (fun c19 => ?_)
    · skip
      omega
    · skip
      refine G.aload_n 0 rfl rfl dX2_addFailure_22 ?_
      refine G.dup rfl dX2_addFailure_23 ?_
      refine G.get k (by omega) h0 rfl twX2 9 (by decide) tb_192 rfl rfl dX2_addFailure_24 ?_
      refine G.iconst (v := nI 1) dX2_addFailure_27 (by decide +kernel) ?_
      refine G.iadd dX2_addFailure_28 ?_
      refine G.topi (nI (x + 1)) (nI_add x 1) ?_
      refine G.put k (by omega) h0 rfl twX2 9 (by decide) tyX2 tyX2_ok nmX2 tb_192 rfl rfl (tyX2_ok 9 (by decide)) rfl rfl (Nat.le_of_ble_eq_true rfl) dX2_addFailure_29 (fun gw1 gh2 gf3 => ?_)
      refine G.vret rfl rfl rfl dX2_addFailure_32 ?_
      have z0 := gh2
      have hfr : ∀ i, i ≠ k → gw1 i = w i := fun i hi => gf3 i (by omega)
      subst c19
      exact hret _ _ ⟨rfl, z0, hfr⟩
  · skip
    refine G.aload_n 0 rfl rfl dX2_addFailure_4 ?_
    refine G.dup rfl dX2_addFailure_5 ?_
    refine G.get k (by omega) h0 rfl twX2 8 (by decide) tb_191 rfl rfl dX2_addFailure_6 ?_
    refine G.iconst (v := nI 1) dX2_addFailure_9 (by decide +kernel) ?_
    refine G.iadd dX2_addFailure_10 ?_
    refine G.topi (nI (z + 1)) (nI_add z 1) ?_
    refine G.put k (by omega) h0 rfl twX2 8 (by decide) tyX2 tyX2_ok nmX2 tb_191 rfl rfl (tyX2_ok 8 (by decide)) rfl rfl (Nat.le_of_ble_eq_true rfl) dX2_addFailure_11 (fun gw4 gh5 gf6 => ?_)
    refine G.goto 32 dX2_addFailure_14 rfl ?_
    refine G.vret rfl rfl rfl dX2_addFailure_32 ?_
    have z0 := gh5
    have hfr : ∀ i, i ≠ k → gw4 i = w i := fun i hi => gf6 i (by omega)
    subst c1
    exact hret _ _ ⟨rfl, z0, hfr⟩
theorem c_X2_failuresBy {kd p q a b u z x : Int32} (h0 : w k = .inr (2, opF ad k kd p q a b u z x)) (hN : k + 9 ≤ N) (f : Nat) (hf : f < 2) :
    K l t yX2_failuresBy cX2_failuresBy 2 (some .int) (rD 0) N ad w [.ref (ad k), .int (nI f)]
      (fun res w' => w = w' ∧ res = some (.int (if f = 0 then z else x))) := by
  refine K.of (own := RX2) (lv := [(0, .ref (ad k)), (1, .int (nI f))]) (by decide +kernel) rfl (Nat.le_of_ble_eq_true rfl) rfl (fun P post hret => ?_)
  refine G.iload_n 1 rfl rfl dX2_failuresBy_0 ?_
  refine G.nif_ne 11 dX2_failuresBy_1 rfl (by omega) (fun c1 => ?_) (fun c1 => ?_)
  · skip
    refine G.aload_n 0 rfl rfl dX2_failuresBy_11 ?_
    refine G.get k (by omega) h0 rfl twX2 9 (by decide) tb_192 rfl rfl dX2_failuresBy_12 ?_
    refine G.iret rfl rfl rfl dX2_failuresBy_15 ?_
    exact hret _ _ ⟨rfl, by rw [if_neg (by omega)]⟩
  · skip
    refine G.aload_n 0 rfl rfl dX2_failuresBy_4 ?_
    refine G.get k (by omega) h0 rfl twX2 8 (by decide) tb_191 rfl rfl dX2_failuresBy_5 ?_
    refine G.goto 15 dX2_failuresBy_8 rfl ?_
    refine G.iret rfl rfl rfl dX2_failuresBy_15 ?_
    exact hret _ _ ⟨rfl, by rw [if_pos c1]⟩
end PartsN

