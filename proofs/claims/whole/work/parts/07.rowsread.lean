/-! Rows: its readers -/
section RowsRead
variable {l : Launch} {t : TT} {N : Nat} {ad : Nat → Nat} {w : Nat → va_E} {r cap : Nat} {L : List RW}
theorem c_X4_size (hR : isRows t ad w r cap L) (hN : r + 4 ≤ N) :
    K l t yX4_size cX4_size 1 (some .int) (rD 0) N ad w [.ref (ad r)]
      (fun res w' => w = w' ∧ res = some (.int (nI L.length))) := by
  obtain ⟨T, Y, V, n, h0, h1, h2, h3, hn, rfl⟩ := hR
  refine K.of (own := RX4) (lv := [(0, .ref (ad r))]) (by decide +kernel) rfl (Nat.le_of_ble_eq_true rfl) rfl (fun P post hret => ?_)
  refine G.aload_n 0 rfl rfl dX4_size_0 ?_
  refine G.get r (by omega) h0 rfl twX4 3 (by decide) tb_136 rfl rfl dX4_size_1 ?_
  refine G.iret rfl rfl rfl dX4_size_4 ?_
  exact hret _ _ ⟨rfl, by rw [rl_len]⟩
theorem c_X4_empty (hR : isRows t ad w r cap L) (hN : r + 4 ≤ N) :
    K l t yX4_empty cX4_empty 1 none (rD 0) N ad w [.ref (ad r)]
      (fun res w' => res = none ∧ isRows t ad w' r cap [] ∧ ∀ i, i < r ∨ r + 4 ≤ i → w' i = w i) := by
  obtain ⟨T, Y, V, n, h0, h1, h2, h3, hn, rfl⟩ := hR
  refine K.of (own := RX4) (lv := [(0, .ref (ad r))]) (by decide +kernel) rfl (Nat.le_of_ble_eq_true rfl) rfl (fun P post hret => ?_)
  refine G.aload_n 0 rfl rfl dX4_empty_0 ?_
  refine G.iconst (v := nI 0) dX4_empty_1 (by decide +kernel) ?_
  refine G.put r (by omega) h0 rfl twX4 3 (by decide) tyX4 tyX4_ok nmX4 tb_136 rfl rfl (tyX4_ok 3 (by decide)) rfl rfl (Nat.le_of_ble_eq_true rfl) dX4_empty_2 (fun gw1 gh2 gf3 => ?_)
  refine G.vret rfl rfl rfl dX4_empty_5 ?_
  have e0 := gh2
  have gh4 := (gf3 (r + 1) (by omega)).trans h1
  have e1 := gh4
  have gh5 := (gf3 (r + 2) (by omega)).trans h2
  have e2 := gh5
  have gh6 := (gf3 (r + 3) (by omega)).trans h3
  have e3 := gh6
  have hfr : ∀ i, i < r ∨ r + 4 ≤ i → gw1 i = w i := fun i hi => gf3 i (by omega)
  exact hret _ _ ⟨rfl, ⟨T, Y, V, 0, e0, e1, e2, e3, Nat.zero_le _, rfl⟩, hfr⟩
theorem c_X4_timeAt (hR : isRows t ad w r cap L) (hN : r + 4 ≤ N) (hc : cap < 1000000) (i : Int32) :
    K l t yX4_timeAt cX4_timeAt 2 (some .int) (rD 0) N ad w [.ref (ad r), .int i]
      (fun res w' => w = w' ∧ res = some (.int (rAt L i).1)) := by
  obtain ⟨T, Y, V, n, h0, h1, h2, h3, hn, rfl⟩ := hR
  refine K.of (own := RX4) (lv := [(0, .ref (ad r)), (1, .int i)]) (by decide +kernel) rfl (Nat.le_of_ble_eq_true rfl) rfl (fun P post hret => ?_)
  refine G.iload_n 1 rfl rfl dX4_timeAt_0 ?_
  refine G.if_lt 21 dX4_timeAt_1 rfl (fun c1 => ?_) (fun c1 => ?_)
  · skip
    refine G.iconst (v := nI 0) dX4_timeAt_21 (by decide +kernel) ?_
    refine G.iret rfl rfl rfl dX4_timeAt_22 ?_
    exact hret _ _ ⟨rfl, by rw [rAt_neg _ c1]; rfl⟩
  · skip
    obtain ⟨j, hj, rfl⟩ := nI_of c1
    refine G.iload_n 1 rfl rfl dX4_timeAt_4 ?_
    refine G.aload_n 0 rfl rfl dX4_timeAt_5 ?_
    refine G.get r (by omega) h0 rfl twX4 3 (by decide) tb_136 rfl rfl dX4_timeAt_6 ?_
    refine G.ncmp_ge 21 dX4_timeAt_9 rfl (by omega) (by omega) (fun c9 => ?_) (fun c9 => ?_)
    · skip
      refine G.iconst (v := nI 0) dX4_timeAt_21 (by decide +kernel) ?_
      refine G.iret rfl rfl rfl dX4_timeAt_22 ?_
      exact hret _ _ ⟨rfl, by rw [rAt_n _ hj, rl_out c9]; rfl⟩
    · skip
      refine G.aload_n 0 rfl rfl dX4_timeAt_12 ?_
      refine G.get r (by omega) h0 rfl twX4 0 (by decide) tb_133 rfl rfl dX4_timeAt_13 ?_
      refine G.iload_n 1 rfl rfl dX4_timeAt_16 ?_
      refine G.iald (r + 1) (by omega) h1 j (rfl) (by omega) (by omega) dX4_timeAt_17 ?_
      refine G.goto 22 dX4_timeAt_18 rfl ?_
      refine G.iret rfl rfl rfl dX4_timeAt_22 ?_
      exact hret _ _ ⟨rfl, by rw [rAt_n _ hj, rl_at c9]⟩
theorem c_X4_keyAt (hR : isRows t ad w r cap L) (hN : r + 4 ≤ N) (hc : cap < 1000000) (i : Int32) :
    K l t yX4_keyAt cX4_keyAt 2 (some .int) (rD 0) N ad w [.ref (ad r), .int i]
      (fun res w' => w = w' ∧ res = some (.int (rAt L i).2.1)) := by
  obtain ⟨T, Y, V, n, h0, h1, h2, h3, hn, rfl⟩ := hR
  refine K.of (own := RX4) (lv := [(0, .ref (ad r)), (1, .int i)]) (by decide +kernel) rfl (Nat.le_of_ble_eq_true rfl) rfl (fun P post hret => ?_)
  refine G.iload_n 1 rfl rfl dX4_keyAt_0 ?_
  refine G.if_lt 21 dX4_keyAt_1 rfl (fun c1 => ?_) (fun c1 => ?_)
  · skip
    refine G.iconst (v := nI 0) dX4_keyAt_21 (by decide +kernel) ?_
    refine G.iret rfl rfl rfl dX4_keyAt_22 ?_
    exact hret _ _ ⟨rfl, by rw [rAt_neg _ c1]; rfl⟩
  · skip
    obtain ⟨j, hj, rfl⟩ := nI_of c1
    refine G.iload_n 1 rfl rfl dX4_keyAt_4 ?_
    refine G.aload_n 0 rfl rfl dX4_keyAt_5 ?_
    refine G.get r (by omega) h0 rfl twX4 3 (by decide) tb_136 rfl rfl dX4_keyAt_6 ?_
    refine G.ncmp_ge 21 dX4_keyAt_9 rfl (by omega) (by omega) (fun c9 => ?_) (fun c9 => ?_)
    · skip
      refine G.iconst (v := nI 0) dX4_keyAt_21 (by decide +kernel) ?_
      refine G.iret rfl rfl rfl dX4_keyAt_22 ?_
      exact hret _ _ ⟨rfl, by rw [rAt_n _ hj, rl_out c9]; rfl⟩
    · skip
      refine G.aload_n 0 rfl rfl dX4_keyAt_12 ?_
      refine G.get r (by omega) h0 rfl twX4 1 (by decide) tb_134 rfl rfl dX4_keyAt_13 ?_
      refine G.iload_n 1 rfl rfl dX4_keyAt_16 ?_
      refine G.iald (r + 2) (by omega) h2 j (rfl) (by omega) (by omega) dX4_keyAt_17 ?_
      refine G.goto 22 dX4_keyAt_18 rfl ?_
      refine G.iret rfl rfl rfl dX4_keyAt_22 ?_
      exact hret _ _ ⟨rfl, by rw [rAt_n _ hj, rl_at c9]⟩
theorem c_X4_valueAt (hR : isRows t ad w r cap L) (hN : r + 4 ≤ N) (hc : cap < 1000000) (i : Int32) :
    K l t yX4_valueAt cX4_valueAt 2 (some .long) (rD 0) N ad w [.ref (ad r), .int i]
      (fun res w' => w = w' ∧ res = some (.long (rAt L i).2.2)) := by
  obtain ⟨T, Y, V, n, h0, h1, h2, h3, hn, rfl⟩ := hR
  refine K.of (own := RX4) (lv := [(0, .ref (ad r)), (1, .int i)]) (by decide +kernel) rfl (Nat.le_of_ble_eq_true rfl) rfl (fun P post hret => ?_)
  refine G.iload_n 1 rfl rfl dX4_valueAt_0 ?_
  refine G.if_lt 21 dX4_valueAt_1 rfl (fun c1 => ?_) (fun c1 => ?_)
  · skip
    refine G.lconst (v := 0) dX4_valueAt_21 (by decide +kernel) ?_
    refine G.lret rfl rfl rfl dX4_valueAt_22 ?_
    exact hret _ _ ⟨rfl, by rw [rAt_neg _ c1]⟩
  · skip
    obtain ⟨j, hj, rfl⟩ := nI_of c1
    refine G.iload_n 1 rfl rfl dX4_valueAt_4 ?_
    refine G.aload_n 0 rfl rfl dX4_valueAt_5 ?_
    refine G.get r (by omega) h0 rfl twX4 3 (by decide) tb_136 rfl rfl dX4_valueAt_6 ?_
    refine G.ncmp_ge 21 dX4_valueAt_9 rfl (by omega) (by omega) (fun c9 => ?_) (fun c9 => ?_)
    · skip
      refine G.lconst (v := 0) dX4_valueAt_21 (by decide +kernel) ?_
      refine G.lret rfl rfl rfl dX4_valueAt_22 ?_
      exact hret _ _ ⟨rfl, by rw [rAt_n _ hj, rl_out c9]⟩
    · skip
      refine G.aload_n 0 rfl rfl dX4_valueAt_12 ?_
      refine G.get r (by omega) h0 rfl twX4 2 (by decide) tb_135 rfl rfl dX4_valueAt_13 ?_
      refine G.iload_n 1 rfl rfl dX4_valueAt_16 ?_
      refine G.lald (r + 3) (by omega) h3 j (rfl) (by omega) (by omega) dX4_valueAt_17 ?_
      refine G.goto 22 dX4_valueAt_18 rfl ?_
      refine G.lret rfl rfl rfl dX4_valueAt_22 ?_
      exact hret _ _ ⟨rfl, by rw [rAt_n _ hj, rl_at c9]⟩
theorem c_J6_compare (x y : Int32) :
    K l t yJ6_compare_7cf53 cJ6_compare_7cf53 2 (some .int) (rD 0) N ad w [.int x, .int y]
      (fun res w' => w = w' ∧ res = some (.int (cmpI x y))) := by
  refine K.of (own := RJ6) (lv := [(0, .int x), (1, .int y)]) (by decide +kernel) rfl (Nat.le_of_ble_eq_true rfl) rfl (fun P post hret => ?_)
  refine G.iload_n 0 rfl rfl dJ6_compare_7cf53_0 ?_
  refine G.iload_n 1 rfl rfl dJ6_compare_7cf53_1 ?_
  refine G.icmp_ge 9 dJ6_compare_7cf53_2 rfl (fun c2 => ?_) (fun c2 => ?_)
  · skip
    refine G.iload_n 0 rfl rfl dJ6_compare_7cf53_9 ?_
    refine G.iload_n 1 rfl rfl dJ6_compare_7cf53_10 ?_
    refine G.icmp_ne 18 dJ6_compare_7cf53_11 rfl (fun c11 => ?_) (fun c11 => ?_)
    · skip
      refine G.iconst (v := nI 1) dJ6_compare_7cf53_18 (by decide +kernel) ?_
      refine G.iret rfl rfl rfl dJ6_compare_7cf53_19 ?_
      exact hret _ _ ⟨rfl, by
       rw [cmpI, if_neg, if_neg c11]; rfl
       exact fun q => absurd q (Int32.not_lt.mpr c2)⟩
    · skip
      refine G.iconst (v := nI 0) dJ6_compare_7cf53_14 (by decide +kernel) ?_
      refine G.goto 19 dJ6_compare_7cf53_15 rfl ?_
      refine G.iret rfl rfl rfl dJ6_compare_7cf53_19 ?_
      exact hret _ _ ⟨rfl, by rw [cmpI, if_neg (Int32.not_lt.mpr c2), if_pos c11]; rfl⟩
  · skip
    refine G.iconst (v := -1) dJ6_compare_7cf53_5 (by decide +kernel) ?_
    refine G.goto 19 dJ6_compare_7cf53_6 rfl ?_
    refine G.iret rfl rfl rfl dJ6_compare_7cf53_19 ?_
    exact hret _ _ ⟨rfl, by rw [cmpI, if_pos (Int32.not_le.mp c2)]⟩
theorem c_X4_put {T Y : Nat → Int32} {V : Nat → Int64} {n : Nat} (hR : isRaw t ad w r cap T Y V n) (hN : r + 4 ≤ N) (hc : cap < 1000000) {j : Nat} (hj : j < cap) (time key : Int32) (v : Int64) :
    K l t yX4_put cX4_put 6 none (rD 0) N ad w [.ref (ad r), .int (nI j), .int time, .int key, .long v]
      (fun res w' => res = none ∧ isRaw t ad w' r cap (upd T j time) (upd Y j key) (vp_updL V j v) n ∧ ∀ i, i < r ∨ r + 4 ≤ i → w' i = w i) := by
  obtain ⟨h0, h1, h2, h3, hn⟩ := hR
  refine K.of (own := RX4) (lv := [(0, .ref (ad r)), (1, .int (nI j)), (2, .int time), (3, .int key), (4, .long v)]) (by decide +kernel) rfl (Nat.le_of_ble_eq_true rfl) rfl (fun P post hret => ?_)
  refine G.iload_n 1 rfl rfl dX4_put_0 ?_
  refine G.nif_lt 35 dX4_put_1 rfl (by omega) ?_
  refine G.iload_n 1 rfl rfl dX4_put_4 ?_
  refine G.aload_n 0 rfl rfl dX4_put_5 ?_
  refine G.get r (by omega) h0 rfl twX4 0 (by decide) tb_133 rfl rfl dX4_put_6 ?_
  refine G.alen (r + 1) (by omega) 0 h1 rfl (v := nI cap) rfl dX4_put_9 ?_
  refine G.ncmp_ge 35 dX4_put_10 rfl (by omega) (by omega) (fun c10 => ?_) (fun c10 => ?_)
  · skip
    omega
  · skip
    refine G.aload_n 0 rfl rfl dX4_put_13 ?_
    refine G.get r (by omega) h0 rfl twX4 0 (by decide) tb_133 rfl rfl dX4_put_14 ?_
    refine G.iload_n 1 rfl rfl dX4_put_17 ?_
    refine G.iload_n 2 rfl rfl dX4_put_18 ?_
    refine G.iast (r + 1) (by omega) h1 j (rfl) (by omega) (by omega) dX4_put_19 (fun gw1 gh2 gf3 => ?_)
    refine G.aload_n 0 rfl rfl dX4_put_20 ?_
    have gh4 := (gf3 r (by omega)).trans h0
    refine G.get r (by omega) gh4 rfl twX4 1 (by decide) tb_134 rfl rfl dX4_put_21 ?_
    refine G.iload_n 1 rfl rfl dX4_put_24 ?_
    refine G.iload_n 3 rfl rfl dX4_put_25 ?_
    have gh5 := (gf3 (r + 2) (by omega)).trans h2
    refine G.iast (r + 2) (by omega) gh5 j (rfl) (by omega) (by omega) dX4_put_26 (fun gw6 gh7 gf8 => ?_)
    refine G.aload_n 0 rfl rfl dX4_put_27 ?_
    have gh9 := (gf8 r (by omega)).trans gh4
    refine G.get r (by omega) gh9 rfl twX4 2 (by decide) tb_135 rfl rfl dX4_put_28 ?_
    refine G.iload_n 1 rfl rfl dX4_put_31 ?_
    refine G.lload 4 rfl dX4_put_32 ?_
    have gh10 := (gf3 (r + 3) (by omega)).trans h3
    have gh11 := (gf8 (r + 3) (by omega)).trans gh10
    refine G.last (r + 3) (by omega) gh11 j (rfl) (by omega) (by omega) dX4_put_34 (fun gw12 gh13 gf14 => ?_)
    refine G.vret rfl rfl rfl dX4_put_35 ?_
    have gh15 := (gf14 r (by omega)).trans gh9
    have e0 := gh15
    have gh16 := (gf8 (r + 1) (by omega)).trans gh2
    have gh17 := (gf14 (r + 1) (by omega)).trans gh16
    have e1 := gh17
    have gh18 := (gf14 (r + 2) (by omega)).trans gh7
    have e2 := gh18
    have e3 := gh13
    have hfr : ∀ i, i < r ∨ r + 4 ≤ i → gw12 i = w i := fun i hi => (gf14 i (by omega)).trans ((gf8 i (by omega)).trans (gf3 i (by omega)))
    exact hret _ _ ⟨rfl, ⟨e0, e1, e2, e3, hn⟩, hfr⟩
theorem c_X4_add (hR : isRows t ad w r cap L) (hN : r + 4 ≤ N) (hc : cap < 1000000) (time key : Int32) (v : Int64) :
    K l t yX4_add cX4_add 5 (some .boolean) (rD 1) N ad w [.ref (ad r), .int time, .int key, .long v]
      (fun res w' => res = some (.int (if L.length < cap then 1 else 0)) ∧ isRows t ad w' r cap (if L.length < cap then L ++ [(time, key, v)] else L) ∧ ∀ i, i < r ∨ r + 4 ≤ i → w' i = w i) := by
  obtain ⟨T, Y, V, n, hW, rfl⟩ := hR.raw
  obtain ⟨h0, h1, h2, h3, hn⟩ := id hW
  rw [rl_len]
  refine K.of (own := RX4) (lv := [(0, .ref (ad r)), (1, .int time), (2, .int key), (3, .long v)]) (by decide +kernel) rfl (Nat.le_of_ble_eq_true rfl) rfl (fun P post hret => ?_)
  refine G.aload_n 0 rfl rfl dX4_add_0 ?_
  refine G.get r (by omega) h0 rfl twX4 3 (by decide) tb_136 rfl rfl dX4_add_1 ?_
  refine G.aload_n 0 rfl rfl dX4_add_4 ?_
  refine G.get r (by omega) h0 rfl twX4 0 (by decide) tb_133 rfl rfl dX4_add_5 ?_
  refine G.alen (r + 1) (by omega) 0 h1 rfl (v := nI cap) rfl dX4_add_8 ?_
  refine G.ncmp_lt 14 dX4_add_9 rfl (by omega) (by omega) (fun c9 => ?_) (fun c9 => ?_)
  · skip
    refine G.aload_n 0 rfl rfl dX4_add_14 ?_
    refine G.aload_n 0 rfl rfl dX4_add_15 ?_
    refine G.get r (by omega) h0 rfl twX4 3 (by decide) tb_136 rfl rfl dX4_add_16 ?_
    refine G.iload_n 1 rfl rfl dX4_add_19 ?_
    refine G.iload_n 2 rfl rfl dX4_add_20 ?_
    refine G.lload_n 3 rfl rfl dX4_add_21 ?_
    refine G.callV (n := 4) r (c_X4_put hW hN hc c9 time key v) rfl (by omega) h0 rfl tb_361 tb_363 tb_5 tb_39 tb_364 (by decide +kernel) rfl ⟨(Nat.le_of_ble_eq_true rfl), (Nat.le_of_ble_eq_true rfl)⟩ ⟨rfl, rfl⟩ (Nat.le_of_ble_eq_true rfl) ⟨Nat.zero_le _, Nat.zero_le _⟩ dX4_add_22 (fun gr1 w1 hp => ?_)
    obtain ⟨rfl, ⟨e0, e1, e2, e3, -⟩, hf⟩ := hp
    refine G.aload_n 0 rfl rfl dX4_add_25 ?_
    refine G.dup rfl dX4_add_26 ?_
    refine G.get r (by omega) e0 rfl twX4 3 (by decide) tb_136 rfl rfl dX4_add_27 ?_
    refine G.iconst (v := nI 1) dX4_add_30 (by decide +kernel) ?_
    refine G.iadd dX4_add_31 ?_
    refine G.topi (nI (n + 1)) (nI_add n 1) ?_
    refine G.put r (by omega) e0 rfl twX4 3 (by decide) tyX4 tyX4_ok nmX4 tb_136 rfl rfl (tyX4_ok 3 (by decide)) rfl rfl (Nat.le_of_ble_eq_true rfl) dX4_add_32 (fun gw2 gh3 gf4 => ?_)
    refine G.iconst (v := nI 1) dX4_add_35 (by decide +kernel) ?_
    refine G.zret rfl (by decide) rfl rfl dX4_add_36 ?_
    have k0 := gh3
    have gh5 := (gf4 (r + 1) (by omega)).trans e1
    have k1 := gh5
    have gh6 := (gf4 (r + 2) (by omega)).trans e2
    have k2 := gh6
    have gh7 := (gf4 (r + 3) (by omega)).trans e3
    have k3 := gh7
    have hfr : ∀ i, i < r ∨ r + 4 ≤ i → gw2 i = w1 i := fun i hi => gf4 i (by omega)
    exact hret _ _ ⟨by rw [if_pos c9]; rfl, by
     rw [if_pos c9]
     refine ⟨_, _, _, n + 1, k0, k1, k2, k3, c9, ?_⟩
     rw [rl_push, pk_us, pk_us, pk_uLs]
     congr 1
     exact rl_eq (fun i hi => ⟨(pk_un (by omega)).symm, (pk_un (by omega)).symm, (pk_uLn (by omega)).symm⟩), fun i hi => (hfr i hi).trans (hf i hi)⟩
  · skip
    refine G.iconst (v := nI 0) dX4_add_12 (by decide +kernel) ?_
    refine G.zret rfl (by decide) rfl rfl dX4_add_13 ?_
    exact hret _ _ ⟨by rw [if_neg (by omega)]; rfl, by rw [if_neg (by omega)]; exact hW.rows, fun i _ => rfl⟩
end RowsRead

