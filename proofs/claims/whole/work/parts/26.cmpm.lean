/-! Comparison -/
section CmpM
variable {l : Launch} {t : TT} {N : Nat} {ad : Nat → Nat} {w : Nat → va_E} {k r r2 : Nat} {G1 T1 : List RW} {d pl tm ky : Int32}
theorem c_X1_forget (h0 : w k = .inr (1, cmF ad k d pl tm ky)) (hN : k + 9 ≤ N) :
    K l t yX1_forget cX1_forget 1 none (rD 0) N ad w [.ref (ad k)]
      (fun res w' => res = none ∧ w' k = .inr (1, cmF ad k (nI 0) pl tm ky) ∧ ∀ i, i ≠ k → w' i = w i) := by
  refine K.of (own := RX1) (lv := [(0, .ref (ad k))]) (by decide +kernel) rfl (Nat.le_of_ble_eq_true rfl) rfl (fun P post hret => ?_)
  refine G.aload_n 0 rfl rfl dX1_forget_0 ?_
  refine G.iconst (v := nI 0) dX1_forget_1 (by decide +kernel) ?_
  refine G.put k (by omega) h0 rfl twX1 2 (by decide) tyX1 tyX1_ok nmX1 tb_148 rfl rfl (tyX1_ok 2 (by decide)) (nb_n (Or.inl nI_0)) (nb_f (Or.inl nI_0)) (Nat.le_of_ble_eq_true rfl) dX1_forget_2 (fun gw1 gh2 gf3 => ?_)
  refine G.vret rfl rfl rfl dX1_forget_5 ?_
  have z0 := gh2
  have hfr : ∀ i, i ≠ k → gw1 i = w i := fun i hi => gf3 i (by omega)
  exact hret _ _ ⟨rfl, z0, hfr⟩
theorem c_X1_hasDifference (h0 : w k = .inr (1, cmF ad k d pl tm ky)) (hN : k + 9 ≤ N) (hd : d = 0 ∨ d = 1) :
    K l t yX1_hasDifference cX1_hasDifference 1 (some .boolean) (rD 0) N ad w [.ref (ad k)]
      (fun res w' => w = w' ∧ res = some (.int d)) := by
  refine K.of (own := RX1) (lv := [(0, .ref (ad k))]) (by decide +kernel) rfl (Nat.le_of_ble_eq_true rfl) rfl (fun P post hret => ?_)
  refine G.aload_n 0 rfl rfl dX1_hasDifference_0 ?_
  refine G.get k (by omega) h0 rfl twX1 2 (by decide) tb_148 rfl rfl dX1_hasDifference_1 ?_
  refine G.zret rfl hd rfl rfl dX1_hasDifference_4 ?_
  exact hret _ _ ⟨rfl, rfl⟩
theorem c_X1_partOfDifference (h0 : w k = .inr (1, cmF ad k d pl tm ky)) (hN : k + 9 ≤ N) {n : Nat} (hn : n < 3) :
    K l t yX1_partOfDifference cX1_partOfDifference 2 (some .int) (rD 0) N ad w [.ref (ad k), .int (nI n)]
      (fun res w' => w = w' ∧ res = some (.int (if n = 0 then pl else if n = 1 then tm else ky))) := by
  refine K.of (own := RX1) (lv := [(0, .ref (ad k)), (1, .int (nI n))]) (by decide +kernel) rfl (Nat.le_of_ble_eq_true rfl) rfl (fun P post hret => ?_)
  refine G.iload_n 1 rfl rfl dX1_partOfDifference_0 ?_
  refine G.nif_ne 9 dX1_partOfDifference_1 rfl (by omega) (fun c1 => ?_) (fun c1 => ?_)
  · skip
    refine G.iload_n 1 rfl rfl dX1_partOfDifference_9 ?_
    refine G.iconst (v := nI 1) dX1_partOfDifference_10 (by decide +kernel) ?_
    refine G.ncmp_ne 21 dX1_partOfDifference_11 rfl (by omega) (by omega) (fun c11 => ?_) (fun c11 => ?_)
    · skip
      refine G.aload_n 0 rfl rfl dX1_partOfDifference_21 ?_
      refine G.get k (by omega) h0 rfl twX1 5 (by decide) tb_151 rfl rfl dX1_partOfDifference_22 ?_
      refine G.iret rfl rfl rfl dX1_partOfDifference_25 ?_
      exact hret _ _ ⟨rfl, by rw [if_neg (by omega), if_neg c11]⟩
    · skip
      refine G.aload_n 0 rfl rfl dX1_partOfDifference_14 ?_
      refine G.get k (by omega) h0 rfl twX1 4 (by decide) tb_150 rfl rfl dX1_partOfDifference_15 ?_
      refine G.goto 25 dX1_partOfDifference_18 rfl ?_
      refine G.iret rfl rfl rfl dX1_partOfDifference_25 ?_
      exact hret _ _ ⟨rfl, by rw [if_neg (by omega), if_pos c11]⟩
  · skip
    refine G.aload_n 0 rfl rfl dX1_partOfDifference_4 ?_
    refine G.get k (by omega) h0 rfl twX1 3 (by decide) tb_149 rfl rfl dX1_partOfDifference_5 ?_
    refine G.iret rfl rfl rfl dX1_partOfDifference_8 ?_
    exact hret _ _ ⟨rfl, by rw [if_pos c1]⟩
theorem c_X1_differenceOf {a b : Nat} (ha : a < 1000000) (hb : b < 1000000) :
    K l t yX1_differenceOf cX1_differenceOf 2 (some .int) (rD 0) N ad w [.int (nI a), .int (nI b)]
      (fun res w' => w = w' ∧ res = some (.int (nI (dOf a b)))) := by
  refine K.of (own := RX1) (lv := [(0, .int (nI a)), (1, .int (nI b))]) (by decide +kernel) rfl (Nat.le_of_ble_eq_true rfl) rfl (fun P post hret => ?_)
  refine G.iload_n 0 rfl rfl dX1_differenceOf_0 ?_
  refine G.iload_n 1 rfl rfl dX1_differenceOf_1 ?_
  refine G.ncmp_ne 7 dX1_differenceOf_2 rfl (by omega) (by omega) (fun c2 => ?_) (fun c2 => ?_)
  · skip
    refine G.iload_n 1 rfl rfl dX1_differenceOf_7 ?_
    refine G.iload_n 0 rfl rfl dX1_differenceOf_8 ?_
    refine G.ncmp_ge 16 dX1_differenceOf_9 rfl (by omega) (by omega) (fun c9 => ?_) (fun c9 => ?_)
    · skip
      refine G.iconst (v := nI 2) dX1_differenceOf_16 (by decide +kernel) ?_
      refine G.iret rfl rfl rfl dX1_differenceOf_17 ?_
      exact hret _ _ ⟨rfl, by rw [dOf, if_neg c2, if_neg (by omega)]⟩
    · skip
      refine G.iconst (v := nI 1) dX1_differenceOf_12 (by decide +kernel) ?_
      refine G.goto 17 dX1_differenceOf_13 rfl ?_
      refine G.iret rfl rfl rfl dX1_differenceOf_17 ?_
      exact hret _ _ ⟨rfl, by rw [dOf, if_neg c2, if_pos (by omega)]⟩
  · skip
    refine G.iconst (v := nI 3) dX1_differenceOf_5 (by decide +kernel) ?_
    refine G.iret rfl rfl rfl dX1_differenceOf_6 ?_
    exact hret _ _ ⟨rfl, by rw [dOf, if_pos c2]⟩
theorem c_X1_keep {L : List RW} {cap : Nat} (h0 : w k = .inr (1, cmF ad k d pl tm ky)) (hR : isRows t ad w r cap L) (hN : k + 9 ≤ N) (hN1 : r + 4 ≤ N) (hc : cap < 1000000) (hd : k + 1 ≤ r ∨ r + 4 ≤ k) (p : Int32) {j : Nat} (hj : j < 1000000) :
    K l t yX1_keep cX1_keep 4 none (rD 1) N ad w [.ref (ad k), .int p, .ref (ad r), .int (nI j)]
      (fun res w' => res = none ∧ w' k = .inr (1, cmF ad k (nI 1) p (L.getD j r0).1 (L.getD j r0).2.1) ∧ ∀ i, i ≠ k → w' i = w i) := by
  have zr : rAt L (nI j) = L.getD j r0 := rAt_n _ (by omega)
  refine K.of (own := RX1) (lv := [(0, .ref (ad k)), (1, .int p), (2, .ref (ad r)), (3, .int (nI j))]) (by decide +kernel) rfl (Nat.le_of_ble_eq_true rfl) rfl (fun P post hret => ?_)
  refine G.aload_n 0 rfl rfl dX1_keep_0 ?_
  refine G.iconst (v := nI 1) dX1_keep_1 (by decide +kernel) ?_
  refine G.put k (by omega) h0 rfl twX1 2 (by decide) tyX1 tyX1_ok nmX1 tb_148 rfl rfl (tyX1_ok 2 (by decide)) (nb_n (Or.inr rfl)) (nb_f (Or.inr rfl)) (Nat.le_of_ble_eq_true rfl) dX1_keep_2 (fun gw1 gh2 gf3 => ?_)
  refine G.aload_n 0 rfl rfl dX1_keep_5 ?_
  refine G.iload_n 1 rfl rfl dX1_keep_6 ?_
  refine G.put k (by omega) gh2 rfl twX1 3 (by decide) tyX1 tyX1_ok nmX1 tb_149 rfl rfl (tyX1_ok 3 (by decide)) rfl rfl (Nat.le_of_ble_eq_true rfl) dX1_keep_7 (fun gw4 gh5 gf6 => ?_)
  refine G.aload_n 0 rfl rfl dX1_keep_10 ?_
  refine G.aload_n 2 rfl rfl dX1_keep_11 ?_
  refine G.iload_n 3 rfl rfl dX1_keep_12 ?_
  have za : ∀ i, i ≠ k → gw4 i = w i := fun i hi => (gf6 i (by omega)).trans (gf3 i (by omega))
  have hR1 := hR.keep (fun i i1 i2 => za i (by omega))
  have gh9 := (gf3 r (by omega)).trans hR.obj
  have gh10 := (gf6 r (by omega)).trans gh9
  refine G.callV (n := 1) r (c_X4_timeAt hR1 hN1 hc (nI j)) rfl (by omega) gh10 rfl tb_548 tb_404 tb_405 tb_39 tb_406 (by decide +kernel) rfl ⟨(Nat.le_of_ble_eq_true rfl), (Nat.le_of_ble_eq_true rfl)⟩ ⟨rfl, rfl⟩ (Nat.le_of_ble_eq_true rfl) ⟨Nat.zero_le _, Nat.zero_le _⟩ dX1_keep_13 (fun gr8 gw7 hp => ?_)
  obtain ⟨rfl, rfl⟩ := hp
  refine G.put k (by omega) gh5 rfl twX1 4 (by decide) tyX1 tyX1_ok nmX1 tb_150 rfl rfl (tyX1_ok 4 (by decide)) rfl rfl (Nat.le_of_ble_eq_true rfl) dX1_keep_16 (fun gw11 gh12 gf13 => ?_)
  refine G.aload_n 0 rfl rfl dX1_keep_19 ?_
  refine G.aload_n 2 rfl rfl dX1_keep_20 ?_
  refine G.iload_n 3 rfl rfl dX1_keep_21 ?_
  have zb : ∀ i, i ≠ k → gw11 i = w i := fun i hi => (gf13 i (by omega)).trans ((gf6 i (by omega)).trans (gf3 i (by omega)))
  have hR2 := hR.keep (fun i i1 i2 => zb i (by omega))
  have gh16 := (gf13 r (by omega)).trans gh10
  refine G.callV (n := 1) r (c_X4_keyAt hR2 hN1 hc (nI j)) rfl (by omega) gh16 rfl tb_549 tb_408 tb_409 tb_39 tb_410 (by decide +kernel) rfl ⟨(Nat.le_of_ble_eq_true rfl), (Nat.le_of_ble_eq_true rfl)⟩ ⟨rfl, rfl⟩ (Nat.le_of_ble_eq_true rfl) ⟨Nat.zero_le _, Nat.zero_le _⟩ dX1_keep_22 (fun gr15 gw14 hp => ?_)
  obtain ⟨rfl, rfl⟩ := hp
  refine G.put k (by omega) gh12 rfl twX1 5 (by decide) tyX1 tyX1_ok nmX1 tb_151 rfl rfl (tyX1_ok 5 (by decide)) rfl rfl (Nat.le_of_ble_eq_true rfl) dX1_keep_25 (fun gw17 gh18 gf19 => ?_)
  refine G.vret rfl rfl rfl dX1_keep_28 ?_
  have z0 := gh18
  have hfr : ∀ i, i ≠ k → gw17 i = w i := fun i hi => (gf19 i (by omega)).trans ((gf13 i (by omega)).trans ((gf6 i (by omega)).trans (gf3 i (by omega))))
  rw [zr] at z0
  exact hret _ _ ⟨rfl, z0, hfr⟩
theorem c_X1_byOrder {cap cap2 : Nat} (h0 : w k = .inr (1, cmF ad k d pl tm ky)) (hG : isRows t ad w r cap G1) (hT : isRows t ad w r2 cap2 T1) (hN : k + 9 ≤ N) (hN1 : r + 4 ≤ N) (hN2 : r2 + 4 ≤ N) (hc : cap < 1000000) (hc2 : cap2 < 1000000) (hd : k + 1 ≤ r ∨ r + 4 ≤ k) (hd2 : k + 1 ≤ r2 ∨ r2 + 4 ≤ k) :
    K l t yX1_byOrder cX1_byOrder 6 (some .int) (rD 4) N ad w [.ref (ad k), .ref (ad r), .ref (ad r2)]
      (fun res w' => res = some (.int (nI (cO G1 T1).1)) ∧ isCmp t ad w' k (cO G1 T1).2 ∧ ∀ i, i ≠ k → w' i = w i) := by
  have zg := hG.le
  have zt := hT.le
  have zfd : fd G1 T1 < 1000000 := by have := fd_le G1 T1; omega
  refine K.of (own := RX1) (lv := [(0, .ref (ad k)), (1, .ref (ad r)), (2, .ref (ad r2))]) (by decide +kernel) rfl (Nat.le_of_ble_eq_true rfl) rfl (fun P post hret => ?_)
  refine G.aload_n 1 rfl rfl dX1_byOrder_0 ?_
  refine G.aload_n 2 rfl rfl dX1_byOrder_1 ?_
  refine G.callV (n := 1) r (c_X4_firstDifference hG hT hN1 hN2 hc hc2) rfl (by omega) hG.obj rfl tb_525 tb_526 tb_527 tb_39 tb_528 (by decide +kernel) rfl ⟨(Nat.le_of_ble_eq_true rfl), (Nat.le_of_ble_eq_true rfl)⟩ ⟨rfl, rfl⟩ (Nat.le_of_ble_eq_true rfl) ⟨Nat.zero_le _, Nat.zero_le _⟩ dX1_byOrder_2 (fun gr2 gw1 hp => ?_)
  obtain ⟨rfl, rfl⟩ := hp
  refine G.istore_n [(3, .int (nI (fd G1 T1))), (0, .ref (ad k)), (1, .ref (ad r)), (2, .ref (ad r2))] dX1_byOrder_5 rfl (by decide) rfl ?_
  refine G.iload_n 0 rfl rfl dX1_byOrder_6 ?_
  refine G.aload_n 2 rfl rfl dX1_byOrder_7 ?_
  refine G.callV (n := 0) r (c_X4_size hG hN1) rfl (by omega) hG.obj rfl tb_542 tb_377 tb_378 tb_39 tb_379 (by decide +kernel) rfl ⟨(Nat.le_of_ble_eq_true rfl), (Nat.le_of_ble_eq_true rfl)⟩ ⟨rfl, rfl⟩ (Nat.le_of_ble_eq_true rfl) ⟨Nat.zero_le _, Nat.zero_le _⟩ dX1_byOrder_8 (fun gr4 gw3 hp => ?_)
  obtain ⟨rfl, rfl⟩ := hp
  refine G.ncmp_ge 18 dX1_byOrder_11 rfl (by omega) (by omega) (fun c11 => ?_) (fun c11 => ?_)
  · skip
    refine G.iconst (v := nI 0) dX1_byOrder_18 (by decide +kernel) ?_
    refine G.istore [(4, .int (nI 0)), (3, .int (nI (fd G1 T1))), (0, .ref (ad k)), (1, .ref (ad r)), (2, .ref (ad r2))] dX1_byOrder_19 (by decide) rfl ?_
    refine G.iload_n 1 rfl rfl dX1_byOrder_21 ?_
    refine G.aload_n 4 rfl rfl dX1_byOrder_22 ?_
    refine G.callV (n := 0) r2 (c_X4_size hT hN2) rfl (by omega) hT.obj rfl tb_542 tb_377 tb_378 tb_39 tb_379 (by decide +kernel) rfl ⟨(Nat.le_of_ble_eq_true rfl), (Nat.le_of_ble_eq_true rfl)⟩ ⟨rfl, rfl⟩ (Nat.le_of_ble_eq_true rfl) ⟨Nat.zero_le _, Nat.zero_le _⟩ dX1_byOrder_23 (fun gr6 gw5 hp => ?_)
    obtain ⟨rfl, rfl⟩ := hp
    refine G.ncmp_ge 33 dX1_byOrder_26 rfl (by omega) (by omega) (fun c26 => ?_) (fun c26 => ?_)
    · skip
      refine G.iconst (v := nI 0) dX1_byOrder_33 (by decide +kernel) ?_
      refine G.istore [(5, .int (nI 0)), (4, .int (nI 0)), (3, .int (nI (fd G1 T1))), (0, .ref (ad k)), (1, .ref (ad r)), (2, .ref (ad r2))] dX1_byOrder_34 (by decide) rfl ?_
      refine G.iload 1 rfl dX1_byOrder_36 ?_
      refine G.nif_ne 52 dX1_byOrder_38 rfl (by omega) (fun zz => absurd zz (by decide)) (fun _ => ?_)
      refine G.iload 0 rfl dX1_byOrder_41 ?_
      refine G.nif_ne 52 dX1_byOrder_43 rfl (by omega) (fun zz => absurd zz (by decide)) (fun _ => ?_)
      refine G.aload_n 3 rfl rfl dX1_byOrder_46 ?_
      refine G.callV (n := 0) k (c_X1_forget h0 hN) rfl (by omega) h0 rfl tb_543 tb_297 tb_298 tb_38 tb_299 (by decide +kernel) rfl ⟨(Nat.le_of_ble_eq_true rfl), (Nat.le_of_ble_eq_true rfl)⟩ ⟨rfl, rfl⟩ (Nat.le_of_ble_eq_true rfl) ⟨Nat.zero_le _, Nat.zero_le _⟩ dX1_byOrder_47 (fun gr7 zw hp => ?_)
      obtain ⟨rfl, z0, hf⟩ := hp
      refine G.iconst (v := nI 0) dX1_byOrder_50 (by decide +kernel) ?_
      refine G.iret rfl rfl rfl dX1_byOrder_51 ?_
      have zc : cO G1 T1 = (0, none) := by rw [cO, if_neg (by omega), if_neg (by omega)]
      rw [zc] at hret
      exact hret _ _ ⟨rfl, isCmp.none z0, hf⟩
    · skip
      refine G.iconst (v := nI 1) dX1_byOrder_29 (by decide +kernel) ?_
      refine G.goto 34 dX1_byOrder_30 rfl ?_
      refine G.istore [(5, .int (nI 1)), (4, .int (nI 0)), (3, .int (nI (fd G1 T1))), (0, .ref (ad k)), (1, .ref (ad r)), (2, .ref (ad r2))] dX1_byOrder_34 (by decide) rfl ?_
      refine G.iload 1 rfl dX1_byOrder_36 ?_
      refine G.nif_ne 52 dX1_byOrder_38 rfl (by omega) (fun zz => absurd zz (by decide)) (fun _ => ?_)
      refine G.iload 0 rfl dX1_byOrder_41 ?_
      refine G.nif_ne 52 dX1_byOrder_43 rfl (by omega) (fun _ => ?_) (fun zz => absurd zz (by decide))
      refine G.aload_n 3 rfl rfl dX1_byOrder_52 ?_
      refine G.iload_n 2 rfl rfl dX1_byOrder_53 ?_
      refine G.iload 1 rfl dX1_byOrder_54 ?_
      refine G.nif_eq 63 dX1_byOrder_56 rfl (by omega) (fun _ => ?_) (fun zz => absurd zz (by decide))
      refine G.aload_n 5 rfl rfl dX1_byOrder_63 ?_
      refine G.iload_n 2 rfl rfl dX1_byOrder_64 ?_
      refine G.callV (n := 3) k (c_X1_keep h0 hT hN hN2 hc2 hd2 (nI (fd G1 T1)) zfd) rfl (by omega) h0 rfl tb_544 tb_546 tb_11 tb_38 tb_547 (by decide +kernel) rfl ⟨(Nat.le_of_ble_eq_true rfl), (Nat.le_of_ble_eq_true rfl)⟩ ⟨rfl, rfl⟩ (Nat.le_of_ble_eq_true rfl) ⟨Nat.zero_le _, Nat.zero_le _⟩ dX1_byOrder_65 (fun gr8 zw hp => ?_)
      obtain ⟨rfl, z0, hf⟩ := hp
      refine G.iload 1 rfl dX1_byOrder_68 ?_
      refine G.nif_eq 80 dX1_byOrder_70 rfl (by omega) (fun _ => ?_) (fun zz => absurd zz (by decide))
      refine G.iload 1 rfl dX1_byOrder_80 ?_
      refine G.nif_eq 89 dX1_byOrder_82 rfl (by omega) (fun _ => ?_) (fun zz => absurd zz (by decide))
      refine G.iconst (v := nI 2) dX1_byOrder_89 (by decide +kernel) ?_
      refine G.iret rfl rfl rfl dX1_byOrder_90 ?_
      have zc : cO G1 T1 = (2, some (nI (fd G1 T1), (T1.getD (fd G1 T1) r0).1, (T1.getD (fd G1 T1) r0).2.1)) := by rw [cO, if_neg (by omega), if_pos c26]
      rw [zc] at hret
      exact hret _ _ ⟨rfl, isCmp.some z0, hf⟩
  · skip
    refine G.iconst (v := nI 1) dX1_byOrder_14 (by decide +kernel) ?_
    refine G.goto 19 dX1_byOrder_15 rfl ?_
    refine G.istore [(4, .int (nI 1)), (3, .int (nI (fd G1 T1))), (0, .ref (ad k)), (1, .ref (ad r)), (2, .ref (ad r2))] dX1_byOrder_19 (by decide) rfl ?_
    refine G.iload_n 1 rfl rfl dX1_byOrder_21 ?_
    refine G.aload_n 4 rfl rfl dX1_byOrder_22 ?_
    refine G.callV (n := 0) r2 (c_X4_size hT hN2) rfl (by omega) hT.obj rfl tb_542 tb_377 tb_378 tb_39 tb_379 (by decide +kernel) rfl ⟨(Nat.le_of_ble_eq_true rfl), (Nat.le_of_ble_eq_true rfl)⟩ ⟨rfl, rfl⟩ (Nat.le_of_ble_eq_true rfl) ⟨Nat.zero_le _, Nat.zero_le _⟩ dX1_byOrder_23 (fun gr10 gw9 hp => ?_)
    obtain ⟨rfl, rfl⟩ := hp
    refine G.ncmp_ge 33 dX1_byOrder_26 rfl (by omega) (by omega) (fun c26 => ?_) (fun c26 => ?_)
    · skip
      refine G.iconst (v := nI 0) dX1_byOrder_33 (by decide +kernel) ?_
      refine G.istore [(5, .int (nI 0)), (4, .int (nI 1)), (3, .int (nI (fd G1 T1))), (0, .ref (ad k)), (1, .ref (ad r)), (2, .ref (ad r2))] dX1_byOrder_34 (by decide) rfl ?_
      refine G.iload 1 rfl dX1_byOrder_36 ?_
      refine G.nif_ne 52 dX1_byOrder_38 rfl (by omega) (fun _ => ?_) (fun zz => absurd zz (by decide))
      refine G.aload_n 3 rfl rfl dX1_byOrder_52 ?_
      refine G.iload_n 2 rfl rfl dX1_byOrder_53 ?_
      refine G.iload 1 rfl dX1_byOrder_54 ?_
      refine G.nif_eq 63 dX1_byOrder_56 rfl (by omega) (fun zz => absurd zz (by decide)) (fun _ => ?_)
      refine G.aload_n 4 rfl rfl dX1_byOrder_59 ?_
      refine G.goto 64 dX1_byOrder_60 rfl ?_
      refine G.iload_n 2 rfl rfl dX1_byOrder_64 ?_
      refine G.callV (n := 3) k (c_X1_keep h0 hG hN hN1 hc hd (nI (fd G1 T1)) zfd) rfl (by omega) h0 rfl tb_544 tb_546 tb_11 tb_38 tb_547 (by decide +kernel) rfl ⟨(Nat.le_of_ble_eq_true rfl), (Nat.le_of_ble_eq_true rfl)⟩ ⟨rfl, rfl⟩ (Nat.le_of_ble_eq_true rfl) ⟨Nat.zero_le _, Nat.zero_le _⟩ dX1_byOrder_65 (fun gr11 zw hp => ?_)
      obtain ⟨rfl, z0, hf⟩ := hp
      refine G.iload 1 rfl dX1_byOrder_68 ?_
      refine G.nif_eq 80 dX1_byOrder_70 rfl (by omega) (fun zz => absurd zz (by decide)) (fun _ => ?_)
      refine G.iload 0 rfl dX1_byOrder_73 ?_
      refine G.nif_eq 80 dX1_byOrder_75 rfl (by omega) (fun _ => ?_) (fun zz => absurd zz (by decide))
      refine G.iload 1 rfl dX1_byOrder_80 ?_
      refine G.nif_eq 89 dX1_byOrder_82 rfl (by omega) (fun zz => absurd zz (by decide)) (fun _ => ?_)
      refine G.iconst (v := nI 1) dX1_byOrder_85 (by decide +kernel) ?_
      refine G.goto 90 dX1_byOrder_86 rfl ?_
      refine G.iret rfl rfl rfl dX1_byOrder_90 ?_
      have zc : cO G1 T1 = (1, some (nI (fd G1 T1), (G1.getD (fd G1 T1) r0).1, (G1.getD (fd G1 T1) r0).2.1)) := by rw [cO, if_pos c11, if_neg (by omega)]
      rw [zc] at hret
      exact hret _ _ ⟨rfl, isCmp.some z0, hf⟩
    · skip
      refine G.iconst (v := nI 1) dX1_byOrder_29 (by decide +kernel) ?_
      refine G.goto 34 dX1_byOrder_30 rfl ?_
      refine G.istore [(5, .int (nI 1)), (4, .int (nI 1)), (3, .int (nI (fd G1 T1))), (0, .ref (ad k)), (1, .ref (ad r)), (2, .ref (ad r2))] dX1_byOrder_34 (by decide) rfl ?_
      refine G.iload 1 rfl dX1_byOrder_36 ?_
      refine G.nif_ne 52 dX1_byOrder_38 rfl (by omega) (fun _ => ?_) (fun zz => absurd zz (by decide))
      refine G.aload_n 3 rfl rfl dX1_byOrder_52 ?_
      refine G.iload_n 2 rfl rfl dX1_byOrder_53 ?_
      refine G.iload 1 rfl dX1_byOrder_54 ?_
      refine G.nif_eq 63 dX1_byOrder_56 rfl (by omega) (fun zz => absurd zz (by decide)) (fun _ => ?_)
      refine G.aload_n 4 rfl rfl dX1_byOrder_59 ?_
      refine G.goto 64 dX1_byOrder_60 rfl ?_
      refine G.iload_n 2 rfl rfl dX1_byOrder_64 ?_
      refine G.callV (n := 3) k (c_X1_keep h0 hG hN hN1 hc hd (nI (fd G1 T1)) zfd) rfl (by omega) h0 rfl tb_544 tb_546 tb_11 tb_38 tb_547 (by decide +kernel) rfl ⟨(Nat.le_of_ble_eq_true rfl), (Nat.le_of_ble_eq_true rfl)⟩ ⟨rfl, rfl⟩ (Nat.le_of_ble_eq_true rfl) ⟨Nat.zero_le _, Nat.zero_le _⟩ dX1_byOrder_65 (fun gr12 zw hp => ?_)
      obtain ⟨rfl, z0, hf⟩ := hp
      refine G.iload 1 rfl dX1_byOrder_68 ?_
      refine G.nif_eq 80 dX1_byOrder_70 rfl (by omega) (fun zz => absurd zz (by decide)) (fun _ => ?_)
      refine G.iload 0 rfl dX1_byOrder_73 ?_
      refine G.nif_eq 80 dX1_byOrder_75 rfl (by omega) (fun zz => absurd zz (by decide)) (fun _ => ?_)
      refine G.iconst (v := nI 3) dX1_byOrder_78 (by decide +kernel) ?_
      refine G.iret rfl rfl rfl dX1_byOrder_79 ?_
      have zc : cO G1 T1 = (3, some (nI (fd G1 T1), (G1.getD (fd G1 T1) r0).1, (G1.getD (fd G1 T1) r0).2.1)) := by rw [cO, if_pos c11, if_pos c26]
      rw [zc] at hret
      exact hret _ _ ⟨rfl, isCmp.some z0, hf⟩
set_option maxHeartbeats 1000000 in
theorem c_X1_bySets (h0 : w k = .inr (1, cmF ad k d pl tm ky)) (hCR : isCR t ad w k) (hG : isRows t ad w r 200 G1) (hT : isRows t ad w r2 40 T1) (hN : k + 9 ≤ N) (hN1 : r + 4 ≤ N) (hN2 : r2 + 4 ≤ N) (hd : k + 9 ≤ r) (hd2 : k + 9 ≤ r2) :
    K l t yX1_bySets cX1_bySets 7 (some .int) (rD 5) N ad w [.ref (ad k), .ref (ad r), .ref (ad r2)]
      (fun res w' => res = some (.int (nI (cS G1 T1).1)) ∧ isCmp t ad w' k (cS G1 T1).2 ∧ isCR t ad w' k ∧ ∀ i, i < k ∨ k + 9 ≤ i → w' i = w i) := by
  have zg := hG.le
  have zt := hT.le
  obtain ⟨⟨L1, hL1⟩, L2, hL2⟩ := hCR
  refine K.of (own := RX1) (lv := [(0, .ref (ad k)), (1, .ref (ad r)), (2, .ref (ad r2))]) (by decide +kernel) rfl (Nat.le_of_ble_eq_true rfl) rfl (fun P post hret => ?_)
  refine G.aload_n 0 rfl rfl dX1_bySets_0 ?_
  refine G.get k (by omega) h0 rfl twX1 0 (by decide) tb_146 rfl rfl dX1_bySets_1 ?_
  refine G.aload_n 1 rfl rfl dX1_bySets_4 ?_
  refine G.callV (n := 1) (k + 1) (c_X4_sortFrom hL1 hG (by omega) (by omega) hN1 (by decide) (by decide) zg) rfl (by omega) hL1.obj rfl tb_554 tb_555 tb_556 tb_39 tb_557 (by decide +kernel) rfl ⟨(Nat.le_of_ble_eq_true rfl), (Nat.le_of_ble_eq_true rfl)⟩ ⟨rfl, rfl⟩ (Nat.le_of_ble_eq_true rfl) ⟨Nat.zero_le _, Nat.zero_le _⟩ dX1_bySets_5 (fun gr1 zw1 hp => ?_)
  obtain ⟨rfl, hA, hf1⟩ := hp
  have hT1 := hT.keep (fun i i1 i2 => hf1 i (by omega))
  have hL3 := hL2.keep (fun i i1 i2 => hf1 i (by omega))
  refine G.aload_n 0 rfl rfl dX1_bySets_8 ?_
  have gh2 := (hf1 k (by omega)).trans h0
  refine G.get k (by omega) gh2 rfl twX1 1 (by decide) tb_147 rfl rfl dX1_bySets_9 ?_
  refine G.aload_n 2 rfl rfl dX1_bySets_12 ?_
  refine G.callV (n := 1) (k + 5) (c_X4_sortFrom hL3 hT1 (by omega) (by omega) hN2 (by decide) (by decide) zt) rfl (by omega) hL3.obj rfl tb_554 tb_555 tb_556 tb_39 tb_557 (by decide +kernel) rfl ⟨(Nat.le_of_ble_eq_true rfl), (Nat.le_of_ble_eq_true rfl)⟩ ⟨rfl, rfl⟩ (Nat.le_of_ble_eq_true rfl) ⟨Nat.zero_le _, Nat.zero_le _⟩ dX1_bySets_13 (fun gr3 zw2 hp => ?_)
  obtain ⟨rfl, hB, hf2⟩ := hp
  have hA2 := hA.keep (fun i i1 i2 => hf2 i (by omega))
  have hG2 : isRows t ad zw2 r 200 G1 := hG.keep (fun i i1 i2 => (hf2 i (by omega)).trans (hf1 i (by omega)))
  have hT2 : isRows t ad zw2 r2 40 T1 := hT1.keep (fun i i1 i2 => hf2 i (by omega))
  have zeA : (srt aboveS G1).length = G1.length := srt_len _ _
  have zeB : (srt aboveS T1).length = T1.length := srt_len _ _
  have zcS : cS G1 T1 = cS2 G1 T1 (srt aboveS G1) (srt aboveS T1) (fd (srt aboveS G1) (srt aboveS T1)) := rfl
  rw [zcS] at hret
  generalize srt aboveS G1 = A at *
  generalize srt aboveS T1 = B at *
  have zfd : fd A B < 1000000 := by have := fd_le A B; omega
  have zhm : ∀ (L : List RW) (x y : Int32), L.length ≤ 200 → hm L x y < 1000000 := fun L x y hl => by
    have := List.countP_le_length (p := fun a : RW => decide (ordA a x y = 0)) (l := L)
    unfold hm; omega
  have gh4 := (hf2 k (by omega)).trans gh2
  have e0 := gh4
  refine G.aload_n 0 rfl rfl dX1_bySets_16 ?_
  refine G.get k (by omega) gh4 rfl twX1 0 (by decide) tb_146 rfl rfl dX1_bySets_17 ?_
  refine G.aload_n 0 rfl rfl dX1_bySets_20 ?_
  refine G.get k (by omega) gh4 rfl twX1 1 (by decide) tb_147 rfl rfl dX1_bySets_21 ?_
  refine G.callV (n := 1) (k + 1) (c_X4_firstDifference hA2 hB (by omega) (by omega) (by decide) (by decide)) rfl (by omega) hA2.obj rfl tb_525 tb_526 tb_527 tb_39 tb_528 (by decide +kernel) rfl ⟨(Nat.le_of_ble_eq_true rfl), (Nat.le_of_ble_eq_true rfl)⟩ ⟨rfl, rfl⟩ (Nat.le_of_ble_eq_true rfl) ⟨Nat.zero_le _, Nat.zero_le _⟩ dX1_bySets_24 (fun gr6 gw5 hp => ?_)
  obtain ⟨rfl, rfl⟩ := hp
  generalize hi : fd A B = i at *
  -- 27 [(0, .ref (ad k)), (1, .ref (ad r)), (2, .ref (ad r2))] [.int (nI i)]
  have fin : ∀ (zw : Nat → va_E) (x : RW) , zw k = .inr (1, cmF ad k (nI 1) (-4) x.1 x.2.1) → cS2 G1 T1 A B i = cS1 G1 T1 x → (∀ q, q ≠ k → zw q = zw2 q) → G l t (rD 5) P cX1_bySets 7 RX1 (some .int) post 0 0 N ad 0 0 147 [(0, .ref (ad k)), (1, .ref (ad r)), (2, .ref (ad r2))] [] zw := by
    intro zw x e1 hx hf3
    have hG3 := hG2.keep (fun j j1 j2 => hf3 j (by omega))
    have hT3 := hT2.keep (fun j j1 j2 => hf3 j (by omega))
    rw [hx] at hret
    refine G.aload_n 1 rfl rfl dX1_bySets_147 ?_
    refine G.aload_n 0 rfl rfl dX1_bySets_148 ?_
    refine G.get k (by omega) e1 rfl twX1 4 (by decide) tb_150 rfl rfl dX1_bySets_149 ?_
    refine G.aload_n 0 rfl rfl dX1_bySets_152 ?_
    refine G.get k (by omega) e1 rfl twX1 5 (by decide) tb_151 rfl rfl dX1_bySets_153 ?_
    refine G.callV (n := 2) r (c_X4_howManyOf hG3 hN1 (by decide) x.1 x.2.1) rfl (by omega) hG3.obj rfl tb_567 tb_568 tb_569 tb_39 tb_570 (by decide +kernel) rfl ⟨(Nat.le_of_ble_eq_true rfl), (Nat.le_of_ble_eq_true rfl)⟩ ⟨rfl, rfl⟩ (Nat.le_of_ble_eq_true rfl) ⟨Nat.zero_le _, Nat.zero_le _⟩ dX1_bySets_156 (fun gr8 gw7 hp => ?_)
    obtain ⟨rfl, rfl⟩ := hp
    refine G.aload_n 2 rfl rfl dX1_bySets_159 ?_
    refine G.aload_n 0 rfl rfl dX1_bySets_160 ?_
    refine G.get k (by omega) e1 rfl twX1 4 (by decide) tb_150 rfl rfl dX1_bySets_161 ?_
    refine G.aload_n 0 rfl rfl dX1_bySets_164 ?_
    refine G.get k (by omega) e1 rfl twX1 5 (by decide) tb_151 rfl rfl dX1_bySets_165 ?_
    refine G.callV (n := 2) r2 (c_X4_howManyOf hT3 hN2 (by decide) x.1 x.2.1) rfl (by omega) hT3.obj rfl tb_567 tb_568 tb_569 tb_39 tb_570 (by decide +kernel) rfl ⟨(Nat.le_of_ble_eq_true rfl), (Nat.le_of_ble_eq_true rfl)⟩ ⟨rfl, rfl⟩ (Nat.le_of_ble_eq_true rfl) ⟨Nat.zero_le _, Nat.zero_le _⟩ dX1_bySets_168 (fun gr10 gw9 hp => ?_)
    obtain ⟨rfl, rfl⟩ := hp
    refine G.callS (n := 2) (c_X1_differenceOf (zhm G1 x.1 x.2.1 zg) (zhm T1 x.1 x.2.1 (by omega))) rfl tb_571 tb_572 tb_38 tb_573 (by decide +kernel) rfl ⟨(Nat.le_of_ble_eq_true rfl), (Nat.le_of_ble_eq_true rfl)⟩ ⟨rfl, rfl⟩ (Nat.le_of_ble_eq_true rfl) ⟨Nat.zero_le _, Nat.zero_le _⟩ dX1_bySets_171 (fun gr12 gw11 hp => ?_)
    obtain ⟨rfl, rfl⟩ := hp
    refine G.iret rfl rfl rfl dX1_bySets_174 ?_
    exact hret _ _ ⟨rfl, isCmp.some e1, ⟨⟨A, hA2.keep (fun j j1 j2 => hf3 j (by omega))⟩, B, hB.keep (fun j j1 j2 => hf3 j (by omega))⟩, fun q hq => (hf3 q (by omega)).trans ((hf2 q (by omega)).trans (hf1 q (by omega)))⟩
  refine G.istore_n [(3, .int (nI i)), (0, .ref (ad k)), (1, .ref (ad r)), (2, .ref (ad r2))] dX1_bySets_27 rfl (by decide) rfl ?_
  refine G.iload_n 0 rfl rfl dX1_bySets_28 ?_
  refine G.aload_n 1 rfl rfl dX1_bySets_29 ?_
  refine G.get k (by omega) gh4 rfl twX1 0 (by decide) tb_146 rfl rfl dX1_bySets_30 ?_
  refine G.callV (n := 0) (k + 1) (c_X4_size hA2 (by omega)) rfl (by omega) hA2.obj rfl tb_542 tb_377 tb_378 tb_39 tb_379 (by decide +kernel) rfl ⟨(Nat.le_of_ble_eq_true rfl), (Nat.le_of_ble_eq_true rfl)⟩ ⟨rfl, rfl⟩ (Nat.le_of_ble_eq_true rfl) ⟨Nat.zero_le _, Nat.zero_le _⟩ dX1_bySets_33 (fun gr14 gw13 hp => ?_)
  obtain ⟨rfl, rfl⟩ := hp
  refine G.ncmp_ge 43 dX1_bySets_36 rfl (by omega) (by omega) (fun c36 => ?_) (fun c36 => ?_)
  · skip
    refine G.iconst (v := nI 0) dX1_bySets_43 (by decide +kernel) ?_
    refine G.istore [(4, .int (nI 0)), (3, .int (nI i)), (0, .ref (ad k)), (1, .ref (ad r)), (2, .ref (ad r2))] dX1_bySets_44 (by decide) rfl ?_
    refine G.iload_n 1 rfl rfl dX1_bySets_46 ?_
    refine G.aload_n 2 rfl rfl dX1_bySets_47 ?_
    refine G.get k (by omega) gh4 rfl twX1 1 (by decide) tb_147 rfl rfl dX1_bySets_48 ?_
    refine G.callV (n := 0) (k + 5) (c_X4_size hB (by omega)) rfl (by omega) hB.obj rfl tb_542 tb_377 tb_378 tb_39 tb_379 (by decide +kernel) rfl ⟨(Nat.le_of_ble_eq_true rfl), (Nat.le_of_ble_eq_true rfl)⟩ ⟨rfl, rfl⟩ (Nat.le_of_ble_eq_true rfl) ⟨Nat.zero_le _, Nat.zero_le _⟩ dX1_bySets_51 (fun gr16 gw15 hp => ?_)
    obtain ⟨rfl, rfl⟩ := hp
    refine G.ncmp_ge 61 dX1_bySets_54 rfl (by omega) (by omega) (fun c54 => ?_) (fun c54 => ?_)
    · skip
      refine G.iconst (v := nI 0) dX1_bySets_61 (by decide +kernel) ?_
      refine G.istore [(5, .int (nI 0)), (4, .int (nI 0)), (3, .int (nI i)), (0, .ref (ad k)), (1, .ref (ad r)), (2, .ref (ad r2))] dX1_bySets_62 (by decide) rfl ?_
      refine G.iload 1 rfl dX1_bySets_64 ?_
      refine G.nif_ne 80 dX1_bySets_66 rfl (by omega) (fun zz => absurd zz (by decide)) (fun _ => ?_)
      refine G.iload 0 rfl dX1_bySets_69 ?_
      refine G.nif_ne 80 dX1_bySets_71 rfl (by omega) (fun zz => absurd zz (by decide)) (fun _ => ?_)
      refine G.aload_n 3 rfl rfl dX1_bySets_74 ?_
      refine G.callV (n := 0) k (c_X1_forget e0 hN) rfl (by omega) gh4 rfl tb_543 tb_297 tb_298 tb_38 tb_299 (by decide +kernel) rfl ⟨(Nat.le_of_ble_eq_true rfl), (Nat.le_of_ble_eq_true rfl)⟩ ⟨rfl, rfl⟩ (Nat.le_of_ble_eq_true rfl) ⟨Nat.zero_le _, Nat.zero_le _⟩ dX1_bySets_75 (fun gr17 zw3 hp => ?_)
      obtain ⟨rfl, z0, hf3⟩ := hp
      refine G.iconst (v := nI 0) dX1_bySets_78 (by decide +kernel) ?_
      refine G.iret rfl rfl rfl dX1_bySets_79 ?_
      have zc : cS2 G1 T1 A B i = (0, none) := by rw [cS2, if_neg (by omega), if_neg (by omega)]
      rw [zc] at hret
      exact hret _ _ ⟨rfl, isCmp.none z0, ⟨⟨A, hA2.keep (fun j j1 j2 => hf3 j (by omega))⟩, B, hB.keep (fun j j1 j2 => hf3 j (by omega))⟩, fun q hq => (hf3 q (by omega)).trans ((hf2 q (by omega)).trans (hf1 q (by omega)))⟩
    · skip
      refine G.iconst (v := nI 1) dX1_bySets_57 (by decide +kernel) ?_
      refine G.goto 62 dX1_bySets_58 rfl ?_
      refine G.istore [(5, .int (nI 1)), (4, .int (nI 0)), (3, .int (nI i)), (0, .ref (ad k)), (1, .ref (ad r)), (2, .ref (ad r2))] dX1_bySets_62 (by decide) rfl ?_
      refine G.iload 1 rfl dX1_bySets_64 ?_
      refine G.nif_ne 80 dX1_bySets_66 rfl (by omega) (fun zz => absurd zz (by decide)) (fun _ => ?_)
      refine G.iload 0 rfl dX1_bySets_69 ?_
      refine G.nif_ne 80 dX1_bySets_71 rfl (by omega) (fun _ => ?_) (fun zz => absurd zz (by decide))
      refine G.iload 1 rfl dX1_bySets_80 ?_
      refine G.nif_eq 121 dX1_bySets_82 rfl (by omega) (fun _ => ?_) (fun zz => absurd zz (by decide))
      refine G.iconst (v := nI 0) dX1_bySets_121 (by decide +kernel) ?_
      refine G.istore [(6, .int (nI 0)), (5, .int (nI 1)), (4, .int (nI 0)), (3, .int (nI i)), (0, .ref (ad k)), (1, .ref (ad r)), (2, .ref (ad r2))] dX1_bySets_122 (by decide) rfl ?_
      refine G.aload_n 4 rfl rfl dX1_bySets_124 ?_
      refine G.bipush (v := -4) dX1_bySets_125 (by decide +kernel) ?_
      refine G.iload 0 rfl dX1_bySets_127 ?_
      refine G.nif_eq 139 dX1_bySets_129 rfl (by omega) (fun _ => ?_) (fun zz => absurd zz (by decide))
      refine G.aload_n 4 rfl rfl dX1_bySets_139 ?_
      refine G.get k (by omega) gh4 rfl twX1 1 (by decide) tb_147 rfl rfl dX1_bySets_140 ?_
      refine G.iload_n 3 rfl rfl dX1_bySets_143 ?_
      refine G.callV (n := 3) k (c_X1_keep e0 hB hN (by omega) (by decide) (by omega) (-4) zfd) rfl (by omega) gh4 rfl tb_544 tb_546 tb_11 tb_38 tb_547 (by decide +kernel) rfl ⟨(Nat.le_of_ble_eq_true rfl), (Nat.le_of_ble_eq_true rfl)⟩ ⟨rfl, rfl⟩ (Nat.le_of_ble_eq_true rfl) ⟨Nat.zero_le _, Nat.zero_le _⟩ dX1_bySets_144 (fun gr18 zw3 hp => ?_)
      obtain ⟨rfl, z0, hf3⟩ := hp
      refine G.pick [4, 5, 6] [(0, .ref (ad k)), (1, .ref (ad r)), (2, .ref (ad r2))] rfl ?_
      exact fin zw3 _ z0 (by rw [cS2, if_neg (by omega), if_pos c54]) hf3
  · skip
    refine G.iconst (v := nI 1) dX1_bySets_39 (by decide +kernel) ?_
    refine G.goto 44 dX1_bySets_40 rfl ?_
    refine G.istore [(4, .int (nI 1)), (3, .int (nI i)), (0, .ref (ad k)), (1, .ref (ad r)), (2, .ref (ad r2))] dX1_bySets_44 (by decide) rfl ?_
    refine G.iload_n 1 rfl rfl dX1_bySets_46 ?_
    refine G.aload_n 2 rfl rfl dX1_bySets_47 ?_
    refine G.get k (by omega) gh4 rfl twX1 1 (by decide) tb_147 rfl rfl dX1_bySets_48 ?_
    refine G.callV (n := 0) (k + 5) (c_X4_size hB (by omega)) rfl (by omega) hB.obj rfl tb_542 tb_377 tb_378 tb_39 tb_379 (by decide +kernel) rfl ⟨(Nat.le_of_ble_eq_true rfl), (Nat.le_of_ble_eq_true rfl)⟩ ⟨rfl, rfl⟩ (Nat.le_of_ble_eq_true rfl) ⟨Nat.zero_le _, Nat.zero_le _⟩ dX1_bySets_51 (fun gr20 gw19 hp => ?_)
    obtain ⟨rfl, rfl⟩ := hp
    refine G.ncmp_ge 61 dX1_bySets_54 rfl (by omega) (by omega) (fun c54 => ?_) (fun c54 => ?_)
    · skip
      refine G.iconst (v := nI 0) dX1_bySets_61 (by decide +kernel) ?_
      refine G.istore [(5, .int (nI 0)), (4, .int (nI 1)), (3, .int (nI i)), (0, .ref (ad k)), (1, .ref (ad r)), (2, .ref (ad r2))] dX1_bySets_62 (by decide) rfl ?_
      refine G.iload 1 rfl dX1_bySets_64 ?_
      refine G.nif_ne 80 dX1_bySets_66 rfl (by omega) (fun _ => ?_) (fun zz => absurd zz (by decide))
      refine G.iload 1 rfl dX1_bySets_80 ?_
      refine G.nif_eq 121 dX1_bySets_82 rfl (by omega) (fun zz => absurd zz (by decide)) (fun _ => ?_)
      refine G.iload 0 rfl dX1_bySets_85 ?_
      refine G.nif_eq 117 dX1_bySets_87 rfl (by omega) (fun _ => ?_) (fun zz => absurd zz (by decide))
      refine G.iconst (v := nI 1) dX1_bySets_117 (by decide +kernel) ?_
      refine G.goto 122 dX1_bySets_118 rfl ?_
      refine G.istore [(6, .int (nI 1)), (5, .int (nI 0)), (4, .int (nI 1)), (3, .int (nI i)), (0, .ref (ad k)), (1, .ref (ad r)), (2, .ref (ad r2))] dX1_bySets_122 (by decide) rfl ?_
      refine G.aload_n 4 rfl rfl dX1_bySets_124 ?_
      refine G.bipush (v := -4) dX1_bySets_125 (by decide +kernel) ?_
      refine G.iload 0 rfl dX1_bySets_127 ?_
      refine G.nif_eq 139 dX1_bySets_129 rfl (by omega) (fun zz => absurd zz (by decide)) (fun _ => ?_)
      refine G.aload_n 4 rfl rfl dX1_bySets_132 ?_
      refine G.get k (by omega) gh4 rfl twX1 0 (by decide) tb_146 rfl rfl dX1_bySets_133 ?_
      refine G.goto 143 dX1_bySets_136 rfl ?_
      refine G.iload_n 3 rfl rfl dX1_bySets_143 ?_
      refine G.callV (n := 3) k (c_X1_keep e0 hA2 hN (by omega) (by decide) (by omega) (-4) zfd) rfl (by omega) gh4 rfl tb_544 tb_546 tb_11 tb_38 tb_547 (by decide +kernel) rfl ⟨(Nat.le_of_ble_eq_true rfl), (Nat.le_of_ble_eq_true rfl)⟩ ⟨rfl, rfl⟩ (Nat.le_of_ble_eq_true rfl) ⟨Nat.zero_le _, Nat.zero_le _⟩ dX1_bySets_144 (fun gr21 zw3 hp => ?_)
      obtain ⟨rfl, z0, hf3⟩ := hp
      refine G.pick [4, 5, 6] [(0, .ref (ad k)), (1, .ref (ad r)), (2, .ref (ad r2))] rfl ?_
      exact fin zw3 _ z0 (by rw [cS2, if_pos c36, if_neg (by omega)]) hf3
    · skip
      refine G.iconst (v := nI 1) dX1_bySets_57 (by decide +kernel) ?_
      refine G.goto 62 dX1_bySets_58 rfl ?_
      refine G.istore [(5, .int (nI 1)), (4, .int (nI 1)), (3, .int (nI i)), (0, .ref (ad k)), (1, .ref (ad r)), (2, .ref (ad r2))] dX1_bySets_62 (by decide) rfl ?_
      refine G.iload 1 rfl dX1_bySets_64 ?_
      refine G.nif_ne 80 dX1_bySets_66 rfl (by omega) (fun _ => ?_) (fun zz => absurd zz (by decide))
      refine G.iload 1 rfl dX1_bySets_80 ?_
      refine G.nif_eq 121 dX1_bySets_82 rfl (by omega) (fun zz => absurd zz (by decide)) (fun _ => ?_)
      refine G.iload 0 rfl dX1_bySets_85 ?_
      refine G.nif_eq 117 dX1_bySets_87 rfl (by omega) (fun zz => absurd zz (by decide)) (fun _ => ?_)
      refine G.aload_n 3 rfl rfl dX1_bySets_90 ?_
      refine G.get k (by omega) gh4 rfl twX1 0 (by decide) tb_146 rfl rfl dX1_bySets_91 ?_
      refine G.iload_n 2 rfl rfl dX1_bySets_94 ?_
      refine G.aload_n 3 rfl rfl dX1_bySets_95 ?_
      refine G.get k (by omega) gh4 rfl twX1 1 (by decide) tb_147 rfl rfl dX1_bySets_96 ?_
      refine G.iload_n 2 rfl rfl dX1_bySets_99 ?_
      refine G.callV (n := 1) (k + 5) (c_X4_timeAt hB (by omega) (by decide) (nI i)) rfl (by omega) hB.obj rfl tb_548 tb_404 tb_405 tb_39 tb_406 (by decide +kernel) rfl ⟨(Nat.le_of_ble_eq_true rfl), (Nat.le_of_ble_eq_true rfl)⟩ ⟨rfl, rfl⟩ (Nat.le_of_ble_eq_true rfl) ⟨Nat.zero_le _, Nat.zero_le _⟩ dX1_bySets_100 (fun gr23 gw22 hp => ?_)
      obtain ⟨rfl, rfl⟩ := hp
      refine G.aload_n 3 rfl rfl dX1_bySets_103 ?_
      refine G.get k (by omega) gh4 rfl twX1 1 (by decide) tb_147 rfl rfl dX1_bySets_104 ?_
      refine G.iload_n 2 rfl rfl dX1_bySets_107 ?_
      refine G.callV (n := 1) (k + 5) (c_X4_keyAt hB (by omega) (by decide) (nI i)) rfl (by omega) hB.obj rfl tb_549 tb_408 tb_409 tb_39 tb_410 (by decide +kernel) rfl ⟨(Nat.le_of_ble_eq_true rfl), (Nat.le_of_ble_eq_true rfl)⟩ ⟨rfl, rfl⟩ (Nat.le_of_ble_eq_true rfl) ⟨Nat.zero_le _, Nat.zero_le _⟩ dX1_bySets_108 (fun gr25 gw24 hp => ?_)
      obtain ⟨rfl, rfl⟩ := hp
      refine G.callV (n := 3) (k + 1) (c_X4_orderAgainst hA2 (by omega) (by decide) (nI i) (rAt B (nI i)).1 (rAt B (nI i)).2.1) rfl (by omega) hA2.obj rfl tb_566 tb_535 tb_536 tb_39 tb_537 (by decide +kernel) rfl ⟨(Nat.le_of_ble_eq_true rfl), (Nat.le_of_ble_eq_true rfl)⟩ ⟨rfl, rfl⟩ (Nat.le_of_ble_eq_true rfl) ⟨Nat.zero_le _, Nat.zero_le _⟩ dX1_bySets_111 (fun gr27 gw26 hp => ?_)
      obtain ⟨rfl, rfl⟩ := hp
      refine G.if_gt 121 dX1_bySets_114 rfl (fun c114 => ?_) (fun c114 => ?_)
      · skip
        rw [rAt_n A (by omega), rAt_n B (by omega)] at c114
        refine G.iconst (v := nI 0) dX1_bySets_121 (by decide +kernel) ?_
        refine G.istore [(6, .int (nI 0)), (5, .int (nI 1)), (4, .int (nI 1)), (3, .int (nI i)), (0, .ref (ad k)), (1, .ref (ad r)), (2, .ref (ad r2))] dX1_bySets_122 (by decide) rfl ?_
        refine G.aload_n 4 rfl rfl dX1_bySets_124 ?_
        refine G.bipush (v := -4) dX1_bySets_125 (by decide +kernel) ?_
        refine G.iload 0 rfl dX1_bySets_127 ?_
        refine G.nif_eq 139 dX1_bySets_129 rfl (by omega) (fun _ => ?_) (fun zz => absurd zz (by decide))
        refine G.aload_n 4 rfl rfl dX1_bySets_139 ?_
        refine G.get k (by omega) gh4 rfl twX1 1 (by decide) tb_147 rfl rfl dX1_bySets_140 ?_
        refine G.iload_n 3 rfl rfl dX1_bySets_143 ?_
        refine G.callV (n := 3) k (c_X1_keep e0 hB hN (by omega) (by decide) (by omega) (-4) zfd) rfl (by omega) gh4 rfl tb_544 tb_546 tb_11 tb_38 tb_547 (by decide +kernel) rfl ⟨(Nat.le_of_ble_eq_true rfl), (Nat.le_of_ble_eq_true rfl)⟩ ⟨rfl, rfl⟩ (Nat.le_of_ble_eq_true rfl) ⟨Nat.zero_le _, Nat.zero_le _⟩ dX1_bySets_144 (fun gr28 zw3 hp => ?_)
        obtain ⟨rfl, z0, hf3⟩ := hp
        refine G.pick [4, 5, 6] [(0, .ref (ad k)), (1, .ref (ad r)), (2, .ref (ad r2))] rfl ?_
        exact fin zw3 _ z0 (by rw [cS2, if_pos c36, if_pos c54, if_neg (Int32.not_le.mpr c114)]) hf3
      · skip
        rw [rAt_n A (by omega), rAt_n B (by omega)] at c114
        refine G.iconst (v := nI 1) dX1_bySets_117 (by decide +kernel) ?_
        refine G.goto 122 dX1_bySets_118 rfl ?_
        refine G.istore [(6, .int (nI 1)), (5, .int (nI 1)), (4, .int (nI 1)), (3, .int (nI i)), (0, .ref (ad k)), (1, .ref (ad r)), (2, .ref (ad r2))] dX1_bySets_122 (by decide) rfl ?_
        refine G.aload_n 4 rfl rfl dX1_bySets_124 ?_
        refine G.bipush (v := -4) dX1_bySets_125 (by decide +kernel) ?_
        refine G.iload 0 rfl dX1_bySets_127 ?_
        refine G.nif_eq 139 dX1_bySets_129 rfl (by omega) (fun zz => absurd zz (by decide)) (fun _ => ?_)
        refine G.aload_n 4 rfl rfl dX1_bySets_132 ?_
        refine G.get k (by omega) gh4 rfl twX1 0 (by decide) tb_146 rfl rfl dX1_bySets_133 ?_
        refine G.goto 143 dX1_bySets_136 rfl ?_
        refine G.iload_n 3 rfl rfl dX1_bySets_143 ?_
        refine G.callV (n := 3) k (c_X1_keep e0 hA2 hN (by omega) (by decide) (by omega) (-4) zfd) rfl (by omega) gh4 rfl tb_544 tb_546 tb_11 tb_38 tb_547 (by decide +kernel) rfl ⟨(Nat.le_of_ble_eq_true rfl), (Nat.le_of_ble_eq_true rfl)⟩ ⟨rfl, rfl⟩ (Nat.le_of_ble_eq_true rfl) ⟨Nat.zero_le _, Nat.zero_le _⟩ dX1_bySets_144 (fun gr29 zw3 hp => ?_)
        obtain ⟨rfl, z0, hf3⟩ := hp
        refine G.pick [4, 5, 6] [(0, .ref (ad k)), (1, .ref (ad r)), (2, .ref (ad r2))] rfl ?_
        exact fin zw3 _ z0 (by rw [cS2, if_pos c36, if_pos c54, if_pos (Int32.not_lt.mp c114)]) hf3
end CmpM

