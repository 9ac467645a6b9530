/-! Rows: comparing, counting, the next of a key -/
section RowsCmp
variable {l : Launch} {t : TT} {N : Nat} {ad : Nat → Nat} {w : Nat → va_E} {r cap r2 cap2 : Nat} {L L2 : List RW}
theorem c_X4_sameAt (hR : isRows t ad w r cap L) (hR2 : isRows t ad w r2 cap2 L2) (hN : r + 4 ≤ N) (hN2 : r2 + 4 ≤ N) (hc : cap < 1000000) (hc2 : cap2 < 1000000) {j : Nat} (hj : j < 1000000) :
    K l t yX4_sameAt cX4_sameAt 3 (some .boolean) (rD 2) N ad w [.ref (ad r), .int (nI j), .ref (ad r2)]
      (fun res w' => w = w' ∧ res = some (.int (if j < L.length ∧ j < L2.length ∧ L.getD j r0 = L2.getD j r0 then 1 else 0))) := by
  have zl1 := hR.le
  have zl2 := hR2.le
  refine K.of (own := RX4) (lv := [(0, .ref (ad r)), (1, .int (nI j)), (2, .ref (ad r2))]) (by decide +kernel) rfl (Nat.le_of_ble_eq_true rfl) rfl (fun P post hret => ?_)
  refine G.iload_n 1 rfl rfl dX4_sameAt_0 ?_
  refine G.aload_n 0 rfl rfl dX4_sameAt_1 ?_
  refine G.get r (by omega) hR.obj rfl twX4 3 (by decide) tb_136 rfl rfl dX4_sameAt_2 ?_
  refine G.ncmp_ge 52 dX4_sameAt_5 rfl (by omega) (by omega) (fun c5 => ?_) (fun c5 => ?_)
  · skip
    refine G.iconst (v := nI 0) dX4_sameAt_52 (by decide +kernel) ?_
    refine G.zret rfl (by decide) rfl rfl dX4_sameAt_53 ?_
    exact hret _ _ ⟨rfl, by rw [if_neg (by omega)]; rfl⟩
  · skip
    refine G.iload_n 1 rfl rfl dX4_sameAt_8 ?_
    refine G.aload_n 2 rfl rfl dX4_sameAt_9 ?_
    refine G.get r2 (by omega) hR2.obj rfl twX4 3 (by decide) tb_136 rfl rfl dX4_sameAt_10 ?_
    refine G.ncmp_ge 52 dX4_sameAt_13 rfl (by omega) (by omega) (fun c13 => ?_) (fun c13 => ?_)
    · skip
      refine G.iconst (v := nI 0) dX4_sameAt_52 (by decide +kernel) ?_
      refine G.zret rfl (by decide) rfl rfl dX4_sameAt_53 ?_
      exact hret _ _ ⟨rfl, by rw [if_neg (by omega)]; rfl⟩
    · skip
      refine G.aload_n 0 rfl rfl dX4_sameAt_16 ?_
      refine G.iload_n 1 rfl rfl dX4_sameAt_17 ?_
      refine G.aload_n 2 rfl rfl dX4_sameAt_18 ?_
      refine G.iload_n 1 rfl rfl dX4_sameAt_19 ?_
      refine G.callV (n := 1) r2 (c_X4_timeAt hR2 hN2 hc2 (nI j)) rfl (by omega) hR2.obj rfl tb_533 tb_404 tb_405 tb_39 tb_406 (by decide +kernel) rfl ⟨(Nat.le_of_ble_eq_true rfl), (Nat.le_of_ble_eq_true rfl)⟩ ⟨rfl, rfl⟩ (Nat.le_of_ble_eq_true rfl) ⟨Nat.zero_le _, Nat.zero_le _⟩ dX4_sameAt_20 (fun gr2 gw1 hp => ?_)
      obtain ⟨rfl, rfl⟩ := hp
      refine G.aload_n 2 rfl rfl dX4_sameAt_23 ?_
      refine G.iload_n 1 rfl rfl dX4_sameAt_24 ?_
      refine G.callV (n := 1) r2 (c_X4_keyAt hR2 hN2 hc2 (nI j)) rfl (by omega) hR2.obj rfl tb_471 tb_408 tb_409 tb_39 tb_410 (by decide +kernel) rfl ⟨(Nat.le_of_ble_eq_true rfl), (Nat.le_of_ble_eq_true rfl)⟩ ⟨rfl, rfl⟩ (Nat.le_of_ble_eq_true rfl) ⟨Nat.zero_le _, Nat.zero_le _⟩ dX4_sameAt_25 (fun gr4 gw3 hp => ?_)
      obtain ⟨rfl, rfl⟩ := hp
      refine G.callV (n := 3) r (c_X4_orderAgainst hR hN hc (nI j) (rAt L2 (nI j)).1 (rAt L2 (nI j)).2.1) rfl (by omega) hR.obj rfl tb_534 tb_535 tb_536 tb_39 tb_537 (by decide +kernel) rfl ⟨(Nat.le_of_ble_eq_true rfl), (Nat.le_of_ble_eq_true rfl)⟩ ⟨rfl, rfl⟩ (Nat.le_of_ble_eq_true rfl) ⟨Nat.zero_le _, Nat.zero_le _⟩ dX4_sameAt_28 (fun gr6 gw5 hp => ?_)
      obtain ⟨rfl, rfl⟩ := hp
      refine G.if_ne 52 dX4_sameAt_31 rfl (fun c31 => ?_) (fun c31 => ?_)
      · skip
        refine G.iconst (v := nI 0) dX4_sameAt_52 (by decide +kernel) ?_
        refine G.zret rfl (by decide) rfl rfl dX4_sameAt_53 ?_
        rw [ordA_0, rAt_n _ (by omega), rAt_n _ (by omega)] at c31
        exact hret _ _ ⟨rfl, by rw [if_neg (fun q => c31 ⟨by rw [q.2.2], by rw [q.2.2]⟩)]; rfl⟩
      · skip
        refine G.aload_n 0 rfl rfl dX4_sameAt_34 ?_
        refine G.iload_n 1 rfl rfl dX4_sameAt_35 ?_
        refine G.callV (n := 1) r (c_X4_valueAt hR hN hc (nI j)) rfl (by omega) hR.obj rfl tb_541 tb_381 tb_382 tb_39 tb_383 (by decide +kernel) rfl ⟨(Nat.le_of_ble_eq_true rfl), (Nat.le_of_ble_eq_true rfl)⟩ ⟨rfl, rfl⟩ (Nat.le_of_ble_eq_true rfl) ⟨Nat.zero_le _, Nat.zero_le _⟩ dX4_sameAt_36 (fun gr8 gw7 hp => ?_)
        obtain ⟨rfl, rfl⟩ := hp
        refine G.aload_n 2 rfl rfl dX4_sameAt_39 ?_
        refine G.iload_n 1 rfl rfl dX4_sameAt_40 ?_
        refine G.callV (n := 1) r2 (c_X4_valueAt hR2 hN2 hc2 (nI j)) rfl (by omega) hR2.obj rfl tb_541 tb_381 tb_382 tb_39 tb_383 (by decide +kernel) rfl ⟨(Nat.le_of_ble_eq_true rfl), (Nat.le_of_ble_eq_true rfl)⟩ ⟨rfl, rfl⟩ (Nat.le_of_ble_eq_true rfl) ⟨Nat.zero_le _, Nat.zero_le _⟩ dX4_sameAt_41 (fun gr10 gw9 hp => ?_)
        obtain ⟨rfl, rfl⟩ := hp
        refine G.lcmp dX4_sameAt_44 ?_
        refine G.if_ne 52 dX4_sameAt_45 rfl (fun c45 => ?_) (fun c45 => ?_)
        · skip
          refine G.iconst (v := nI 0) dX4_sameAt_52 (by decide +kernel) ?_
          refine G.zret rfl (by decide) rfl rfl dX4_sameAt_53 ?_
          rw [lgc_eq, rAt_n _ (by omega), rAt_n _ (by omega)] at c45
          exact hret _ _ ⟨rfl, by rw [if_neg (fun q => c45 (by rw [q.2.2]))]; rfl⟩
        · skip
          refine G.iconst (v := nI 1) dX4_sameAt_48 (by decide +kernel) ?_
          refine G.goto 53 dX4_sameAt_49 rfl ?_
          refine G.zret rfl (by decide) rfl rfl dX4_sameAt_53 ?_
          rw [lgc_eq, rAt_n _ (by omega), rAt_n _ (by omega)] at c45
          rw [ordA_0, rAt_n _ (by omega), rAt_n _ (by omega)] at c31
          exact hret _ _ ⟨rfl, by rw [if_pos ⟨c5, c13, Prod.ext c31.1 (Prod.ext c31.2 c45)⟩]; rfl⟩
theorem c_X4_firstDifference (hR : isRows t ad w r cap L) (hR2 : isRows t ad w r2 cap2 L2) (hN : r + 4 ≤ N) (hN2 : r2 + 4 ≤ N) (hc : cap < 1000000) (hc2 : cap2 < 1000000) :
    K l t yX4_firstDifference cX4_firstDifference 3 (some .int) (rD 3) N ad w [.ref (ad r), .ref (ad r2)]
      (fun res w' => w = w' ∧ res = some (.int (nI (fd L L2)))) := by
  have zl1 := hR.le
  have zl2 := hR2.le
  refine K.of (own := RX4) (lv := [(0, .ref (ad r)), (1, .ref (ad r2))]) (by decide +kernel) rfl (Nat.le_of_ble_eq_true rfl) rfl (fun P post hret => ?_)
  refine G.iconst (v := nI 0) dX4_firstDifference_0 (by decide +kernel) ?_
  refine G.istore_n [(2, .int (nI 0)), (0, .ref (ad r)), (1, .ref (ad r2))] dX4_firstDifference_1 rfl (by decide) rfl ?_
  refine G.pick [1, 2, 0] [(0, .ref (ad r)), (1, .ref (ad r2)), (2, .int (nI 0))] rfl ?_
  have loop : ∀ (m i : Nat), i + m = L.length → (∀ k, k < i → k < L.length ∧ k < L2.length ∧ L.getD k r0 = L2.getD k r0) → G l t (rD 3) P cX4_firstDifference 3 RX4 (some .int) post 0 0 N ad 0 0 2 [(0, .ref (ad r)), (1, .ref (ad r2)), (2, .int (nI i))] [] w := by
    intro m
    induction m with
    | zero =>
      intro i hi zh
      refine G.iload_n 2 rfl rfl dX4_firstDifference_2 ?_
      refine G.aload_n 0 rfl rfl dX4_firstDifference_3 ?_
      refine G.get r (by omega) hR.obj rfl twX4 3 (by decide) tb_136 rfl rfl dX4_firstDifference_4 ?_
      refine G.ncmp_ge 25 dX4_firstDifference_7 rfl (by omega) (by omega) (fun c7 => ?_) (fun c7 => ?_)
      · skip
        refine G.iload_n 2 rfl rfl dX4_firstDifference_25 ?_
        refine G.iret rfl rfl rfl dX4_firstDifference_26 ?_
        exact hret _ _ ⟨rfl, by rw [fd_is i L L2 zh (by omega)]⟩
      · skip
        omega
    | succ m ih =>
      intro i hi zh
      refine G.iload_n 2 rfl rfl dX4_firstDifference_2 ?_
      refine G.aload_n 0 rfl rfl dX4_firstDifference_3 ?_
      refine G.get r (by omega) hR.obj rfl twX4 3 (by decide) tb_136 rfl rfl dX4_firstDifference_4 ?_
      refine G.ncmp_ge 25 dX4_firstDifference_7 rfl (by omega) (by omega) (fun c7 => ?_) (fun c7 => ?_)
      · skip
        omega
      · skip
        refine G.aload_n 0 rfl rfl dX4_firstDifference_10 ?_
        refine G.iload_n 2 rfl rfl dX4_firstDifference_11 ?_
        refine G.aload_n 1 rfl rfl dX4_firstDifference_12 ?_
        refine G.callV (n := 2) r (c_X4_sameAt hR hR2 hN hN2 hc hc2 (j := i) (by omega)) rfl (by omega) hR.obj rfl tb_529 tb_530 tb_531 tb_39 tb_532 (by decide +kernel) rfl ⟨(Nat.le_of_ble_eq_true rfl), (Nat.le_of_ble_eq_true rfl)⟩ ⟨rfl, rfl⟩ (Nat.le_of_ble_eq_true rfl) ⟨Nat.zero_le _, Nat.zero_le _⟩ dX4_firstDifference_13 (fun gr2 gw1 hp => ?_)
        obtain ⟨rfl, rfl⟩ := hp
        refine G.if_eq 25 dX4_firstDifference_16 rfl (fun c16 => ?_) (fun c16 => ?_)
        · skip
          refine G.iload_n 2 rfl rfl dX4_firstDifference_25 ?_
          refine G.iret rfl rfl rfl dX4_firstDifference_26 ?_
          have zz : fd L L2 = i := by
            refine fd_is i L L2 zh (fun q => ?_)
            rw [if_pos q] at c16
            exact absurd c16 (by decide)
          exact hret _ _ ⟨rfl, by rw [zz]⟩
        · skip
          refine G.iinc (v := nI (i + 1)) [(2, .int (nI (i + 1))), (0, .ref (ad r)), (1, .ref (ad r2))] 2 dX4_firstDifference_19 rfl (nI_add i 1) (by decide) rfl ?_
          refine G.goto 2 dX4_firstDifference_22 rfl ?_
          refine G.pick [1, 2, 0] [(0, .ref (ad r)), (1, .ref (ad r2)), (2, .int (nI (i + 1)))] rfl ?_
          refine ih (i + 1) (by omega) (fun k hk => ?_)
          by_cases hki : k = i
          · subst hki
            by_cases q : k < L.length ∧ k < L2.length ∧ L.getD k r0 = L2.getD k r0
            · exact q
            · rw [if_neg q] at c16
              exact absurd rfl c16
          · exact zh k (by omega)
  exact loop L.length 0 (by omega) (fun k hk => by omega)
theorem c_X4_howManyOf (hR : isRows t ad w r cap L) (hN : r + 4 ≤ N) (hc : cap < 1000000) (time key : Int32) :
    K l t yX4_howManyOf cX4_howManyOf 5 (some .int) (rD 2) N ad w [.ref (ad r), .int time, .int key]
      (fun res w' => w = w' ∧ res = some (.int (nI (hm L time key)))) := by
  have zl1 := hR.le
  refine K.of (own := RX4) (lv := [(0, .ref (ad r)), (1, .int time), (2, .int key)]) (by decide +kernel) rfl (Nat.le_of_ble_eq_true rfl) rfl (fun P post hret => ?_)
  refine G.iconst (v := nI 0) dX4_howManyOf_0 (by decide +kernel) ?_
  refine G.istore_n [(3, .int (nI 0)), (0, .ref (ad r)), (1, .int time), (2, .int key)] dX4_howManyOf_1 rfl (by decide) rfl ?_
  refine G.iconst (v := nI 0) dX4_howManyOf_2 (by decide +kernel) ?_
  refine G.istore [(4, .int (nI 0)), (3, .int (nI 0)), (0, .ref (ad r)), (1, .int time), (2, .int key)] dX4_howManyOf_3 (by decide) rfl ?_
  refine G.pick [2, 3, 4, 1, 0] [(0, .ref (ad r)), (1, .int time), (2, .int key), (3, .int (nI 0)), (4, .int (nI 0))] rfl ?_
  have loop : ∀ (m i : Nat), i + m = L.length → G l t (rD 2) P cX4_howManyOf 5 RX4 (some .int) post 0 0 N ad 0 0 5 [(0, .ref (ad r)), (1, .int time), (2, .int key), (3, .int (nI (hm (L.take i) time key))), (4, .int (nI i))] [] w := by
    intro m
    induction m with
    | zero =>
      intro i hi
      refine G.iload 4 rfl dX4_howManyOf_5 ?_
      refine G.aload_n 0 rfl rfl dX4_howManyOf_7 ?_
      refine G.get r (by omega) hR.obj rfl twX4 3 (by decide) tb_136 rfl rfl dX4_howManyOf_8 ?_
      refine G.ncmp_ge 34 dX4_howManyOf_11 rfl (by omega) (by omega) (fun c11 => ?_) (fun c11 => ?_)
      · skip
        refine G.iload_n 3 rfl rfl dX4_howManyOf_34 ?_
        refine G.iret rfl rfl rfl dX4_howManyOf_35 ?_
        exact hret _ _ ⟨rfl, by rw [List.take_of_length_le (by omega)]⟩
      · skip
        omega
    | succ m ih =>
      intro i hi
      refine G.iload 4 rfl dX4_howManyOf_5 ?_
      refine G.aload_n 0 rfl rfl dX4_howManyOf_7 ?_
      refine G.get r (by omega) hR.obj rfl twX4 3 (by decide) tb_136 rfl rfl dX4_howManyOf_8 ?_
      refine G.ncmp_ge 34 dX4_howManyOf_11 rfl (by omega) (by omega) (fun c11 => ?_) (fun c11 => ?_)
      · skip
        omega
      · skip
        refine G.aload_n 0 rfl rfl dX4_howManyOf_14 ?_
        refine G.iload 4 rfl dX4_howManyOf_15 ?_
        refine G.iload_n 1 rfl rfl dX4_howManyOf_17 ?_
        refine G.iload_n 2 rfl rfl dX4_howManyOf_18 ?_
        refine G.callV (n := 3) r (c_X4_orderAgainst hR hN hc (nI i) time key) rfl (by omega) hR.obj rfl tb_534 tb_535 tb_536 tb_39 tb_537 (by decide +kernel) rfl ⟨(Nat.le_of_ble_eq_true rfl), (Nat.le_of_ble_eq_true rfl)⟩ ⟨rfl, rfl⟩ (Nat.le_of_ble_eq_true rfl) ⟨Nat.zero_le _, Nat.zero_le _⟩ dX4_howManyOf_19 (fun gr2 gw1 hp => ?_)
        obtain ⟨rfl, rfl⟩ := hp
        refine G.if_ne 28 dX4_howManyOf_22 rfl (fun c22 => ?_) (fun c22 => ?_)
        · skip
          rw [rAt_n _ (by omega)] at c22
          have zq : hm (L.take (i + 1)) time key = hm (L.take i) time key := by
            unfold hm
            rw [take_succ (by omega), List.countP_append, List.countP_singleton, if_neg (by simpa using c22)]
            rfl
          have zz := ih (i + 1) (by omega)
          rw [zq] at zz
          refine G.iinc (v := nI (i + 1)) [(4, .int (nI (i + 1))), (0, .ref (ad r)), (1, .int time), (2, .int key), (3, .int (nI (hm (L.take i) time key)))] 4 dX4_howManyOf_28 rfl (nI_add i 1) (by decide) rfl ?_
          refine G.goto 5 dX4_howManyOf_31 rfl ?_
          refine G.pick [1, 2, 3, 4, 0] [(0, .ref (ad r)), (1, .int time), (2, .int key), (3, .int (nI (hm (L.take i) time key))), (4, .int (nI (i + 1)))] rfl ?_
          exact zz
        · skip
          rw [rAt_n _ (by omega)] at c22
          have zq : hm (L.take (i + 1)) time key = hm (L.take i) time key + 1 := by
            unfold hm
            rw [take_succ (by omega), List.countP_append, List.countP_singleton, if_pos (by simpa using c22)]
          have zz := ih (i + 1) (by omega)
          rw [zq] at zz
          refine G.iinc (v := nI ((hm (L.take i) time key) + 1)) [(3, .int (nI ((hm (L.take i) time key) + 1))), (0, .ref (ad r)), (1, .int time), (2, .int key), (4, .int (nI i))] 3 dX4_howManyOf_25 rfl (nI_add ((hm (L.take i) time key)) 1) (by decide) rfl ?_
          refine G.iinc (v := nI (i + 1)) [(4, .int (nI (i + 1))), (3, .int (nI ((hm (L.take i) time key) + 1))), (0, .ref (ad r)), (1, .int time), (2, .int key)] 4 dX4_howManyOf_28 rfl (nI_add i 1) (by decide) rfl ?_
          refine G.goto 5 dX4_howManyOf_31 rfl ?_
          refine G.pick [2, 3, 4, 1, 0] [(0, .ref (ad r)), (1, .int time), (2, .int key), (3, .int (nI (hm (L.take i) time key + 1))), (4, .int (nI (i + 1)))] rfl ?_
          exact zz
  exact loop L.length 0 (by omega)
theorem c_X4_nextOfKey (hR : isRows t ad w r cap L) (hN : r + 4 ≤ N) (hc : cap < 1000000) {i : Nat} (hi : i < L.length) :
    K l t yX4_nextOfKey cX4_nextOfKey 4 (some .int) (rD 1) N ad w [.ref (ad r), .int (nI i)]
      (fun res w' => w = w' ∧ ((res = some (.int (-1)) ∧ ∀ k, i < k → k < L.length → (L.getD k r0).2.1 ≠ (L.getD i r0).2.1) ∨ ∃ j, i < j ∧ j < L.length ∧ (L.getD j r0).2.1 = (L.getD i r0).2.1 ∧ (∀ k, i < k → k < j → (L.getD k r0).2.1 ≠ (L.getD i r0).2.1) ∧ res = some (.int (nI j)))) := by
  have zl1 := hR.le
  refine K.of (own := RX4) (lv := [(0, .ref (ad r)), (1, .int (nI i))]) (by decide +kernel) rfl (Nat.le_of_ble_eq_true rfl) rfl (fun P post hret => ?_)
  refine G.aload_n 0 rfl rfl dX4_nextOfKey_0 ?_
  refine G.iload_n 1 rfl rfl dX4_nextOfKey_1 ?_
  refine G.callV (n := 1) r (c_X4_keyAt hR hN hc (nI i)) rfl (by omega) hR.obj rfl tb_471 tb_408 tb_409 tb_39 tb_410 (by decide +kernel) rfl ⟨(Nat.le_of_ble_eq_true rfl), (Nat.le_of_ble_eq_true rfl)⟩ ⟨rfl, rfl⟩ (Nat.le_of_ble_eq_true rfl) ⟨Nat.zero_le _, Nat.zero_le _⟩ dX4_nextOfKey_2 (fun gr2 gw1 hp => ?_)
  obtain ⟨rfl, rfl⟩ := hp
  refine G.istore_n [(2, .int ((rAt L (nI i)).2.1)), (0, .ref (ad r)), (1, .int (nI i))] dX4_nextOfKey_5 rfl (by decide) rfl ?_
  refine G.iload_n 2 rfl rfl dX4_nextOfKey_6 ?_
  refine G.iconst (v := nI 1) dX4_nextOfKey_7 (by decide +kernel) ?_
  refine G.iadd dX4_nextOfKey_8 ?_
  refine G.topi (nI (i + 1)) (nI_add i 1) ?_
  refine G.istore_n [(3, .int (nI (i + 1))), (2, .int ((rAt L (nI i)).2.1)), (0, .ref (ad r)), (1, .int (nI i))] dX4_nextOfKey_9 rfl (by decide) rfl ?_
  refine G.pick [2, 3, 1, 0] [(0, .ref (ad r)), (1, .int (nI i)), (2, .int ((rAt L (nI i)).2.1)), (3, .int (nI (i + 1)))] rfl ?_
  have loop : ∀ (m j : Nat), j + m = L.length → i < j → (∀ k, i < k → k < j → (L.getD k r0).2.1 ≠ (L.getD i r0).2.1) → G l t (rD 1) P cX4_nextOfKey 4 RX4 (some .int) post 0 0 N ad 0 0 10 [(0, .ref (ad r)), (1, .int (nI i)), (2, .int ((rAt L (nI i)).2.1)), (3, .int (nI j))] [] w := by
    intro m
    induction m with
    | zero =>
      intro j hj zi zh
      refine G.iload_n 3 rfl rfl dX4_nextOfKey_10 ?_
      refine G.aload_n 0 rfl rfl dX4_nextOfKey_11 ?_
      refine G.get r (by omega) hR.obj rfl twX4 3 (by decide) tb_136 rfl rfl dX4_nextOfKey_12 ?_
      refine G.ncmp_ge 35 dX4_nextOfKey_15 rfl (by omega) (by omega) (fun c15 => ?_) (fun c15 => ?_)
      · skip
        refine G.iconst (v := -1) dX4_nextOfKey_35 (by decide +kernel) ?_
        refine G.iret rfl rfl rfl dX4_nextOfKey_36 ?_
        exact hret _ _ ⟨rfl, Or.inl ⟨rfl, fun k a b => zh k a (by omega)⟩⟩
      · skip
        omega
    | succ m ih =>
      intro j hj zi zh
      refine G.iload_n 3 rfl rfl dX4_nextOfKey_10 ?_
      refine G.aload_n 0 rfl rfl dX4_nextOfKey_11 ?_
      refine G.get r (by omega) hR.obj rfl twX4 3 (by decide) tb_136 rfl rfl dX4_nextOfKey_12 ?_
      refine G.ncmp_ge 35 dX4_nextOfKey_15 rfl (by omega) (by omega) (fun c15 => ?_) (fun c15 => ?_)
      · skip
        omega
      · skip
        refine G.aload_n 0 rfl rfl dX4_nextOfKey_18 ?_
        refine G.iload_n 3 rfl rfl dX4_nextOfKey_19 ?_
        refine G.callV (n := 1) r (c_X4_keyAt hR hN hc (nI j)) rfl (by omega) hR.obj rfl tb_471 tb_408 tb_409 tb_39 tb_410 (by decide +kernel) rfl ⟨(Nat.le_of_ble_eq_true rfl), (Nat.le_of_ble_eq_true rfl)⟩ ⟨rfl, rfl⟩ (Nat.le_of_ble_eq_true rfl) ⟨Nat.zero_le _, Nat.zero_le _⟩ dX4_nextOfKey_20 (fun gr4 gw3 hp => ?_)
        obtain ⟨rfl, rfl⟩ := hp
        refine G.iload_n 2 rfl rfl dX4_nextOfKey_23 ?_
        refine G.icmp_ne 29 dX4_nextOfKey_24 rfl (fun c24 => ?_) (fun c24 => ?_)
        · skip
          refine G.iinc (v := nI (j + 1)) [(3, .int (nI (j + 1))), (0, .ref (ad r)), (1, .int (nI i)), (2, .int ((rAt L (nI i)).2.1))] 3 dX4_nextOfKey_29 rfl (nI_add j 1) (by decide) rfl ?_
          refine G.goto 10 dX4_nextOfKey_32 rfl ?_
          refine G.pick [1, 2, 3, 0] [(0, .ref (ad r)), (1, .int (nI i)), (2, .int ((rAt L (nI i)).2.1)), (3, .int (nI (j + 1)))] rfl ?_
          rw [rAt_n _ (by omega), rAt_n _ (by omega)] at c24
          refine ih (j + 1) (by omega) (by omega) (fun k a b => ?_)
          by_cases hki : k = j
          · subst hki; exact c24
          · exact zh k a (by omega)
        · skip
          refine G.iload_n 3 rfl rfl dX4_nextOfKey_27 ?_
          refine G.iret rfl rfl rfl dX4_nextOfKey_28 ?_
          rw [rAt_n _ (by omega), rAt_n _ (by omega)] at c24
          exact hret _ _ ⟨rfl, Or.inr ⟨j, zi, by omega, c24, zh, rfl⟩⟩
  exact loop (L.length - (i + 1)) (i + 1) (by omega) (by omega) (fun k a b => by omega)
end RowsCmp

