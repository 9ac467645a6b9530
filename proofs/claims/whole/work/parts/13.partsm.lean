/-! the table, the arrivals, operators, spans: their methods -/
section PartsM
variable {l : Launch} {t : TT} {N : Nat} {ad : Nat → Nat} {w : Nat → va_E} {k : Nat}
theorem c_X6_empty {I : Nat → Int32} (hT : isTab t ad w k I) (hN : k + 2 ≤ N) :
    K l t yX6_empty cX6_empty 2 none (rD 0) N ad w [.ref (ad k)]
      (fun res w' => res = none ∧ isTab t ad w' k (fun _ => 0) ∧ ∀ i, i < k ∨ k + 2 ≤ i → w' i = w i) := by
  obtain ⟨I', h0, h1, h2⟩ := hT
  refine K.of (own := RX6) (lv := [(0, .ref (ad k))]) (by decide +kernel) rfl (Nat.le_of_ble_eq_true rfl) rfl (fun P post hret => ?_)
  refine G.iconst (v := nI 0) dX6_empty_0 (by decide +kernel) ?_
  refine G.istore_n [(1, .int (nI 0)), (0, .ref (ad k))] dX6_empty_1 rfl (by decide) rfl ?_
  refine G.pick [1, 0] [(0, .ref (ad k)), (1, .int (nI 0))] rfl ?_
  have loop : ∀ (m i : Nat) (zw : Nat → va_E) (J : Nat → Int32), i + m = 8 → zw k = .inr (6, [.ref (ad (k + 1))]) → zw (k + 1) = .inl (t.2.1, 8, .inl J) → (∀ j, j < i → J j = 0) → (∀ q, q < k ∨ k + 2 ≤ q → zw q = w q) → G l t (rD 0) P cX6_empty 2 RX6 none post 0 0 N ad 0 0 2 [(0, .ref (ad k)), (1, .int (nI i))] [] zw := by
    intro m
    induction m with
    | zero =>
      intro i zw J hi e0 e1 hJ hf
      refine G.iload_n 1 rfl rfl dX6_empty_2 ?_
      refine G.aload_n 0 rfl rfl dX6_empty_3 ?_
      refine G.get k (by omega) e0 rfl twX6 0 (by decide) tb_85 rfl rfl dX6_empty_4 ?_
      refine G.alen (k + 1) (by omega) 0 e1 rfl (v := nI 8) rfl dX6_empty_7 ?_
      refine G.ncmp_ge 24 dX6_empty_8 rfl (by omega) (by omega) (fun c8 => ?_) (fun c8 => ?_)
      · skip
        refine G.vret rfl rfl rfl dX6_empty_24 ?_
        exact hret _ _ ⟨rfl, ⟨J, e0, e1, fun j hj => hJ j (by omega)⟩, hf⟩
      · skip
        omega
    | succ m ih =>
      intro i zw J hi e0 e1 hJ hf
      refine G.iload_n 1 rfl rfl dX6_empty_2 ?_
      refine G.aload_n 0 rfl rfl dX6_empty_3 ?_
      refine G.get k (by omega) e0 rfl twX6 0 (by decide) tb_85 rfl rfl dX6_empty_4 ?_
      refine G.alen (k + 1) (by omega) 0 e1 rfl (v := nI 8) rfl dX6_empty_7 ?_
      refine G.ncmp_ge 24 dX6_empty_8 rfl (by omega) (by omega) (fun c8 => ?_) (fun c8 => ?_)
      · skip
        omega
      · skip
        refine G.aload_n 0 rfl rfl dX6_empty_11 ?_
        refine G.get k (by omega) e0 rfl twX6 0 (by decide) tb_85 rfl rfl dX6_empty_12 ?_
        refine G.iload_n 1 rfl rfl dX6_empty_15 ?_
        refine G.iconst (v := nI 0) dX6_empty_16 (by decide +kernel) ?_
        refine G.iast (k + 1) (by omega) e1 i (rfl) (by omega) (by omega) dX6_empty_17 (fun gw1 gh2 gf3 => ?_)
        refine G.iinc (v := nI (i + 1)) [(1, .int (nI (i + 1))), (0, .ref (ad k))] 1 dX6_empty_18 rfl (nI_add i 1) (by decide) rfl ?_
        refine G.goto 2 dX6_empty_21 rfl ?_
        have gh4 := (gf3 k (by omega)).trans e0
        have za := gh4
        have zb := gh2
        have hfr : ∀ i, i < k ∨ k + 2 ≤ i → gw1 i = zw i := fun i hi => gf3 i (by omega)
        refine G.pick [1, 0] [(0, .ref (ad k)), (1, .int (nI (i + 1)))] rfl ?_
        refine ih (i + 1) _ _ (by omega) za zb (fun j hj => ?_) (fun q hq => (hfr q hq).trans (hf q hq))
        by_cases hji : j = i
        · subst hji; rw [pk_us, nI_0]
        · rw [pk_un hji]; exact hJ j (by omega)
  exact loop 8 0 w I' rfl h0 h1 (fun j hj => by omega) (fun _ _ => rfl)
theorem c_X6_swap {I : Nat → Int32} (hT : isTab t ad w k I) (hN : k + 2 ≤ N) {i : Nat} (hi : i < 8) (v : Int32) :
    K l t yX6_swap cX6_swap 4 (some .int) (rD 0) N ad w [.ref (ad k), .int (nI i), .int v]
      (fun res w' => res = some (.int (I i)) ∧ isTab t ad w' k (upd I i v) ∧ ∀ q, q < k ∨ k + 2 ≤ q → w' q = w q) := by
  obtain ⟨I', h0, h1, h2⟩ := hT
  refine K.of (own := RX6) (lv := [(0, .ref (ad k)), (1, .int (nI i)), (2, .int v)]) (by decide +kernel) rfl (Nat.le_of_ble_eq_true rfl) rfl (fun P post hret => ?_)
  refine G.iload_n 1 rfl rfl dX6_swap_0 ?_
  refine G.nif_lt 13 dX6_swap_1 rfl (by omega) ?_
  refine G.iload_n 1 rfl rfl dX6_swap_4 ?_
  refine G.aload_n 0 rfl rfl dX6_swap_5 ?_
  refine G.get k (by omega) h0 rfl twX6 0 (by decide) tb_85 rfl rfl dX6_swap_6 ?_
  refine G.alen (k + 1) (by omega) 0 h1 rfl (v := nI 8) rfl dX6_swap_9 ?_
  refine G.ncmp_lt 15 dX6_swap_10 rfl (by omega) (by omega) (fun c10 => ?_) (fun c10 => ?_)
  · skip
    refine G.aload_n 0 rfl rfl dX6_swap_15 ?_
    refine G.get k (by omega) h0 rfl twX6 0 (by decide) tb_85 rfl rfl dX6_swap_16 ?_
    refine G.iload_n 1 rfl rfl dX6_swap_19 ?_
    refine G.iald (k + 1) (by omega) h1 i (rfl) (by omega) (by omega) dX6_swap_20 ?_
    refine G.istore_n [(3, .int (I' i)), (0, .ref (ad k)), (1, .int (nI i)), (2, .int v)] dX6_swap_21 rfl (by decide) rfl ?_
    refine G.aload_n 1 rfl rfl dX6_swap_22 ?_
    refine G.get k (by omega) h0 rfl twX6 0 (by decide) tb_85 rfl rfl dX6_swap_23 ?_
    refine G.iload_n 2 rfl rfl dX6_swap_26 ?_
    refine G.iload_n 3 rfl rfl dX6_swap_27 ?_
    refine G.iast (k + 1) (by omega) h1 i (rfl) (by omega) (by omega) dX6_swap_28 (fun gw1 gh2 gf3 => ?_)
    refine G.iload_n 0 rfl rfl dX6_swap_29 ?_
    refine G.iret rfl rfl rfl dX6_swap_30 ?_
    have gh4 := (gf3 k (by omega)).trans h0
    have za := gh4
    have zb := gh2
    have hfr : ∀ i, i < k ∨ k + 2 ≤ i → gw1 i = w i := fun i hi => gf3 i (by omega)
    refine hret _ _ ⟨by rw [h2 i hi], ⟨_, za, zb, fun j hj => ?_⟩, hfr⟩
    by_cases hji : j = i
    · subst hji; rw [pk_us, pk_us]
    · rw [pk_un hji, pk_un hji]; exact h2 j hj
  · skip
    omega
theorem c_X6_hasItem {I : Nat → Int32} (hT : isTab t ad w k I) (hN : k + 2 ≤ N) (v : Int64) :
    K l t yX6_hasItem cX6_hasItem 3 (some .boolean) (rD 0) N ad w [.ref (ad k), .long v]
      (fun res w' => w = w' ∧ res = some (.int (if inT v = true then 1 else 0))) := by
  obtain ⟨I', h0, h1, h2⟩ := hT
  refine K.of (own := RX6) (lv := [(0, .ref (ad k)), (1, .long v)]) (by decide +kernel) rfl (Nat.le_of_ble_eq_true rfl) rfl (fun P post hret => ?_)
  refine G.lload_n 1 rfl rfl dX6_hasItem_0 ?_
  refine G.lconst (v := 0) dX6_hasItem_1 (by decide +kernel) ?_
  refine G.lcmp dX6_hasItem_2 ?_
  refine G.if_lt 21 dX6_hasItem_3 rfl (fun c3 => ?_) (fun c3 => ?_)
  · skip
    refine G.iconst (v := nI 0) dX6_hasItem_21 (by decide +kernel) ?_
    refine G.zret rfl (by decide) rfl rfl dX6_hasItem_22 ?_
    exact hret _ _ ⟨rfl, by rw [if_neg (by simp [inT, Int64.not_le.mpr (lgc_lt.mp c3)])]; rfl⟩
  · skip
    have za : 0 ≤ v := Int64.not_lt.mp (fun q => c3 (lgc_lt.mpr q))
    refine G.lload_n 1 rfl rfl dX6_hasItem_6 ?_
    refine G.aload_n 0 rfl rfl dX6_hasItem_7 ?_
    refine G.get k (by omega) h0 rfl twX6 0 (by decide) tb_85 rfl rfl dX6_hasItem_8 ?_
    refine G.alen (k + 1) (by omega) 0 h1 rfl (v := nI 8) rfl dX6_hasItem_11 ?_
    refine G.i2l dX6_hasItem_12 ?_
    refine G.lcmp dX6_hasItem_13 ?_
    refine G.if_ge 21 dX6_hasItem_14 rfl (fun c14 => ?_) (fun c14 => ?_)
    · skip
      refine G.iconst (v := nI 0) dX6_hasItem_21 (by decide +kernel) ?_
      refine G.zret rfl (by decide) rfl rfl dX6_hasItem_22 ?_
      have zb : ¬ v < 8 := Int64.not_lt.mpr (lgc_ge.mp c14)
      exact hret _ _ ⟨rfl, by rw [if_neg (by simp [inT, zb])]; rfl⟩
    · skip
      refine G.iconst (v := nI 1) dX6_hasItem_17 (by decide +kernel) ?_
      refine G.goto 22 dX6_hasItem_18 rfl ?_
      refine G.zret rfl (by decide) rfl rfl dX6_hasItem_22 ?_
      have zb : v < 8 := Int64.not_le.mp (fun q => c14 (lgc_ge.mpr q))
      exact hret _ _ ⟨rfl, by rw [if_pos (by simp [inT, za, zb])]; rfl⟩
theorem c_X6_failureOf {I : Nat → Int32} (hT : isTab t ad w k I) (hN : k + 2 ≤ N) {f : Nat} (hf : f ≤ 6) (v : Int64) (c : Int32) :
    K l t yX6_failureOf cX6_failureOf 5 (some .int) (rD 1) N ad w [.ref (ad k), .int (nI f), .long v, .int c]
      (fun res w' => w = w' ∧ res = some (.int (ffail f v c))) := by
  have zo := hT
  obtain ⟨I', h0, h1, h2⟩ := zo
  refine K.of (own := RX6) (lv := [(0, .ref (ad k)), (1, .int (nI f)), (2, .long v), (4, .int c)]) (by decide +kernel) rfl (Nat.le_of_ble_eq_true rfl) rfl (fun P post hret => ?_)
  refine G.iload_n 1 rfl rfl dX6_failureOf_0 ?_
  refine G.iconst (v := nI 2) dX6_failureOf_1 (by decide +kernel) ?_
  refine G.ncmp_eq 10 dX6_failureOf_2 rfl (by omega) (by omega) (fun c2 => ?_) (fun c2 => ?_)
  · skip
    refine G.iload 3 rfl dX6_failureOf_10 ?_
    refine G.if_ne 17 dX6_failureOf_12 rfl (fun c12 => ?_) (fun c12 => ?_)
    · skip
      refine G.iload_n 1 rfl rfl dX6_failureOf_17 ?_
      refine G.iconst (v := nI 4) dX6_failureOf_18 (by decide +kernel) ?_
      refine G.ncmp_ne 34 dX6_failureOf_19 rfl (by omega) (by omega) (fun c19 => ?_) (fun c19 => ?_)
      · skip
        refine G.iconst (v := -1) dX6_failureOf_34 (by decide +kernel) ?_
        refine G.iret rfl rfl rfl dX6_failureOf_35 ?_
        exact hret _ _ ⟨rfl, by rw [ffail, if_neg (fun q => c12 q.2), if_neg (by omega)]⟩
      · skip
        omega
    · skip
      refine G.iconst (v := nI 0) dX6_failureOf_15 (by decide +kernel) ?_
      refine G.iret rfl rfl rfl dX6_failureOf_16 ?_
      exact hret _ _ ⟨rfl, by rw [ffail, if_pos ⟨Or.inl c2, c12⟩]; rfl⟩
  · skip
    refine G.iload_n 1 rfl rfl dX6_failureOf_5 ?_
    refine G.iconst (v := nI 3) dX6_failureOf_6 (by decide +kernel) ?_
    refine G.ncmp_ne 17 dX6_failureOf_7 rfl (by omega) (by omega) (fun c7 => ?_) (fun c7 => ?_)
    · skip
      refine G.iload_n 1 rfl rfl dX6_failureOf_17 ?_
      refine G.iconst (v := nI 4) dX6_failureOf_18 (by decide +kernel) ?_
      refine G.ncmp_ne 34 dX6_failureOf_19 rfl (by omega) (by omega) (fun c19 => ?_) (fun c19 => ?_)
      · skip
        refine G.iconst (v := -1) dX6_failureOf_34 (by decide +kernel) ?_
        refine G.iret rfl rfl rfl dX6_failureOf_35 ?_
        exact hret _ _ ⟨rfl, by rw [ffail, if_neg (by omega), if_neg (by omega)]⟩
      · skip
        refine G.aload_n 0 rfl rfl dX6_failureOf_22 ?_
        refine G.lload_n 2 rfl rfl dX6_failureOf_23 ?_
        refine G.callV (n := 1) k (c_X6_hasItem hT hN v) rfl (by omega) h0 rfl tb_388 tb_390 tb_6 tb_35 tb_391 (by decide +kernel) rfl ⟨(Nat.le_of_ble_eq_true rfl), (Nat.le_of_ble_eq_true rfl)⟩ ⟨rfl, rfl⟩ (Nat.le_of_ble_eq_true rfl) ⟨Nat.zero_le _, Nat.zero_le _⟩ dX6_failureOf_24 (fun gr2 gw1 hp => ?_)
        obtain ⟨rfl, rfl⟩ := hp
        refine G.if_ne 34 dX6_failureOf_27 rfl (fun c27 => ?_) (fun c27 => ?_)
        · skip
          refine G.iconst (v := -1) dX6_failureOf_34 (by decide +kernel) ?_
          refine G.iret rfl rfl rfl dX6_failureOf_35 ?_
          have zb : inT v = true := by
            cases hb : inT v with
            | true => rfl
            | false => rw [hb] at c27; exact absurd rfl c27
          exact hret _ _ ⟨rfl, by rw [ffail, if_neg (by omega), if_neg (by rw [zb]; simp)]⟩
        · skip
          refine G.iconst (v := nI 1) dX6_failureOf_30 (by decide +kernel) ?_
          refine G.goto 35 dX6_failureOf_31 rfl ?_
          refine G.iret rfl rfl rfl dX6_failureOf_35 ?_
          have zb : inT v = false := by
            cases hb : inT v with
            | false => rfl
            | true => rw [hb] at c27; exact absurd c27 (by decide)
          exact hret _ _ ⟨rfl, by rw [ffail, if_neg (by omega), if_pos ⟨c19, zb⟩]; rfl⟩
    · skip
      refine G.iload 3 rfl dX6_failureOf_10 ?_
      refine G.if_ne 17 dX6_failureOf_12 rfl (fun c12 => ?_) (fun c12 => ?_)
      · skip
        refine G.iload_n 1 rfl rfl dX6_failureOf_17 ?_
        refine G.iconst (v := nI 4) dX6_failureOf_18 (by decide +kernel) ?_
        refine G.ncmp_ne 34 dX6_failureOf_19 rfl (by omega) (by omega) (fun c19 => ?_) (fun c19 => ?_)
        · skip
          refine G.iconst (v := -1) dX6_failureOf_34 (by decide +kernel) ?_
          refine G.iret rfl rfl rfl dX6_failureOf_35 ?_
          exact hret _ _ ⟨rfl, by rw [ffail, if_neg (fun q => c12 q.2), if_neg (by omega)]⟩
        · skip
          omega
      · skip
        refine G.iconst (v := nI 0) dX6_failureOf_15 (by decide +kernel) ?_
        refine G.iret rfl rfl rfl dX6_failureOf_16 ?_
        exact hret _ _ ⟨rfl, by rw [ffail, if_pos ⟨Or.inr c7, c12⟩]; rfl⟩
theorem c_X0_size {A : List AR} (hA : isArr t ad w k A) (hN : k + 6 ≤ N) :
    K l t yX0_size cX0_size 1 (some .int) (rD 0) N ad w [.ref (ad k)]
      (fun res w' => w = w' ∧ res = some (.int (nI A.length))) := by
  refine K.of (own := RX0) (lv := [(0, .ref (ad k))]) (by decide +kernel) rfl (Nat.le_of_ble_eq_true rfl) rfl (fun P post hret => ?_)
  refine G.aload_n 0 rfl rfl dX0_size_0 ?_
  refine G.get k (by omega) hA.obj.1 rfl twX0 5 (by decide) tb_63 rfl rfl dX0_size_1 ?_
  refine G.iret rfl rfl rfl dX0_size_4 ?_
  exact hret _ _ ⟨rfl, rfl⟩
theorem c_X0_empty {A : List AR} (hA : isArr t ad w k A) (hN : k + 6 ≤ N) :
    K l t yX0_empty cX0_empty 1 none (rD 0) N ad w [.ref (ad k)]
      (fun res w' => res = none ∧ isArr t ad w' k [] ∧ ∀ i, i < k ∨ k + 6 ≤ i → w' i = w i) := by
  obtain ⟨S, T, Y, V, Z, n, h0, h1, h2, h3, h4, h5, hn, rfl⟩ := hA
  refine K.of (own := RX0) (lv := [(0, .ref (ad k))]) (by decide +kernel) rfl (Nat.le_of_ble_eq_true rfl) rfl (fun P post hret => ?_)
  refine G.aload_n 0 rfl rfl dX0_empty_0 ?_
  refine G.iconst (v := nI 0) dX0_empty_1 (by decide +kernel) ?_
  refine G.put k (by omega) h0 rfl twX0 5 (by decide) tyX0 tyX0_ok nmX0 tb_63 rfl rfl (tyX0_ok 5 (by decide)) rfl rfl (Nat.le_of_ble_eq_true rfl) dX0_empty_2 (fun gw1 gh2 gf3 => ?_)
  refine G.vret rfl rfl rfl dX0_empty_5 ?_
  have z0 := gh2
  have gh4 := (gf3 (k + 1) (by omega)).trans h1
  have z1 := gh4
  have gh5 := (gf3 (k + 2) (by omega)).trans h2
  have z2 := gh5
  have gh6 := (gf3 (k + 3) (by omega)).trans h3
  have z3 := gh6
  have gh7 := (gf3 (k + 4) (by omega)).trans h4
  have z4 := gh7
  have gh8 := (gf3 (k + 5) (by omega)).trans h5
  have z5 := gh8
  have hfr : ∀ i, i < k ∨ k + 6 ≤ i → gw1 i = w i := fun i hi => gf3 i (by omega)
  exact hret _ _ ⟨rfl, ⟨S, T, Y, V, Z, 0, z0, z1, z2, z3, z4, z5, Nat.zero_le _, rfl⟩, hfr⟩
theorem c_X0_take {A : List AR} (hA : isArr t ad w k A) (hN : k + 6 ≤ N) (s ti y v z : Int32) (hz : z = 0 ∨ z = 1) :
    K l t yX0_take cX0_take 6 (some .boolean) (rD 0) N ad w [.ref (ad k), .int s, .int ti, .int y, .int v, .int z]
      (fun res w' => res = some (.int (if A.length < 60 then 1 else 0)) ∧ isArr t ad w' k (if A.length < 60 then A ++ [(s, ti, y, v, z)] else A) ∧ ∀ i, i < k ∨ k + 6 ≤ i → w' i = w i) := by
  have zA := hA
  obtain ⟨S, T, Y, V, Z, n, h0, h1, h2, h3, h4, h5, hn, rfl⟩ := hA
  rw [al_len]
  refine K.of (own := RX0) (lv := [(0, .ref (ad k)), (1, .int s), (2, .int ti), (3, .int y), (4, .int v), (5, .int z)]) (by decide +kernel) rfl (Nat.le_of_ble_eq_true rfl) rfl (fun P post hret => ?_)
  refine G.aload_n 0 rfl rfl dX0_take_0 ?_
  refine G.get k (by omega) h0 rfl twX0 5 (by decide) tb_63 rfl rfl dX0_take_1 ?_
  refine G.bipush (v := nI 60) dX0_take_4 (by decide +kernel) ?_
  refine G.ncmp_lt 11 dX0_take_6 rfl (by omega) (by omega) (fun c6 => ?_) (fun c6 => ?_)
  · skip
    refine G.aload_n 0 rfl rfl dX0_take_11 ?_
    refine G.get k (by omega) h0 rfl twX0 0 (by decide) tb_58 rfl rfl dX0_take_12 ?_
    refine G.aload_n 0 rfl rfl dX0_take_15 ?_
    refine G.get k (by omega) h0 rfl twX0 5 (by decide) tb_63 rfl rfl dX0_take_16 ?_
    refine G.iload_n 1 rfl rfl dX0_take_19 ?_
    refine G.iast (k + 1) (by omega) h1 n (rfl) (by omega) (by omega) dX0_take_20 (fun gw1 gh2 gf3 => ?_)
    refine G.aload_n 0 rfl rfl dX0_take_21 ?_
    have gh4 := (gf3 k (by omega)).trans h0
    refine G.get k (by omega) gh4 rfl twX0 1 (by decide) tb_59 rfl rfl dX0_take_22 ?_
    refine G.aload_n 0 rfl rfl dX0_take_25 ?_
    refine G.get k (by omega) gh4 rfl twX0 5 (by decide) tb_63 rfl rfl dX0_take_26 ?_
    refine G.iload_n 2 rfl rfl dX0_take_29 ?_
    have gh5 := (gf3 (k + 2) (by omega)).trans h2
    refine G.iast (k + 2) (by omega) gh5 n (rfl) (by omega) (by omega) dX0_take_30 (fun gw6 gh7 gf8 => ?_)
    refine G.aload_n 0 rfl rfl dX0_take_31 ?_
    have gh9 := (gf8 k (by omega)).trans gh4
    refine G.get k (by omega) gh9 rfl twX0 2 (by decide) tb_60 rfl rfl dX0_take_32 ?_
    refine G.aload_n 0 rfl rfl dX0_take_35 ?_
    refine G.get k (by omega) gh9 rfl twX0 5 (by decide) tb_63 rfl rfl dX0_take_36 ?_
    refine G.iload_n 3 rfl rfl dX0_take_39 ?_
    have gh10 := (gf3 (k + 3) (by omega)).trans h3
    have gh11 := (gf8 (k + 3) (by omega)).trans gh10
    refine G.iast (k + 3) (by omega) gh11 n (rfl) (by omega) (by omega) dX0_take_40 (fun gw12 gh13 gf14 => ?_)
    refine G.aload_n 0 rfl rfl dX0_take_41 ?_
    have gh15 := (gf14 k (by omega)).trans gh9
    refine G.get k (by omega) gh15 rfl twX0 3 (by decide) tb_61 rfl rfl dX0_take_42 ?_
    refine G.aload_n 0 rfl rfl dX0_take_45 ?_
    refine G.get k (by omega) gh15 rfl twX0 5 (by decide) tb_63 rfl rfl dX0_take_46 ?_
    refine G.iload 4 rfl dX0_take_49 ?_
    have gh16 := (gf3 (k + 4) (by omega)).trans h4
    have gh17 := (gf8 (k + 4) (by omega)).trans gh16
    have gh18 := (gf14 (k + 4) (by omega)).trans gh17
    refine G.iast (k + 4) (by omega) gh18 n (rfl) (by omega) (by omega) dX0_take_51 (fun gw19 gh20 gf21 => ?_)
    refine G.aload_n 0 rfl rfl dX0_take_52 ?_
    have gh22 := (gf21 k (by omega)).trans gh15
    refine G.get k (by omega) gh22 rfl twX0 4 (by decide) tb_62 rfl rfl dX0_take_53 ?_
    refine G.aload_n 0 rfl rfl dX0_take_56 ?_
    refine G.get k (by omega) gh22 rfl twX0 5 (by decide) tb_63 rfl rfl dX0_take_57 ?_
    refine G.iload 5 rfl dX0_take_60 ?_
    have gh23 := (gf3 (k + 5) (by omega)).trans h5
    have gh24 := (gf8 (k + 5) (by omega)).trans gh23
    have gh25 := (gf14 (k + 5) (by omega)).trans gh24
    have gh26 := (gf21 (k + 5) (by omega)).trans gh25
    refine G.zast (k + 5) (by omega) gh26 n (rfl) (by omega) (by omega) hz dX0_take_62 (fun gw27 gh28 gf29 => ?_)
    refine G.aload_n 0 rfl rfl dX0_take_63 ?_
    refine G.dup rfl dX0_take_64 ?_
    have gh30 := (gf29 k (by omega)).trans gh22
    refine G.get k (by omega) gh30 rfl twX0 5 (by decide) tb_63 rfl rfl dX0_take_65 ?_
    refine G.iconst (v := nI 1) dX0_take_68 (by decide +kernel) ?_
    refine G.iadd dX0_take_69 ?_
    refine G.topi (nI (n + 1)) (nI_add n 1) ?_
    refine G.put k (by omega) gh30 rfl twX0 5 (by decide) tyX0 tyX0_ok nmX0 tb_63 rfl rfl (tyX0_ok 5 (by decide)) rfl rfl (Nat.le_of_ble_eq_true rfl) dX0_take_70 (fun gw31 gh32 gf33 => ?_)
    refine G.iconst (v := nI 1) dX0_take_73 (by decide +kernel) ?_
    refine G.zret rfl (by decide) rfl rfl dX0_take_74 ?_
    have z0 := gh32
    have gh34 := (gf8 (k + 1) (by omega)).trans gh2
    have gh35 := (gf14 (k + 1) (by omega)).trans gh34
    have gh36 := (gf21 (k + 1) (by omega)).trans gh35
    have gh37 := (gf29 (k + 1) (by omega)).trans gh36
    have gh38 := (gf33 (k + 1) (by omega)).trans gh37
    have z1 := gh38
    have gh39 := (gf14 (k + 2) (by omega)).trans gh7
    have gh40 := (gf21 (k + 2) (by omega)).trans gh39
    have gh41 := (gf29 (k + 2) (by omega)).trans gh40
    have gh42 := (gf33 (k + 2) (by omega)).trans gh41
    have z2 := gh42
    have gh43 := (gf21 (k + 3) (by omega)).trans gh13
    have gh44 := (gf29 (k + 3) (by omega)).trans gh43
    have gh45 := (gf33 (k + 3) (by omega)).trans gh44
    have z3 := gh45
    have gh46 := (gf29 (k + 4) (by omega)).trans gh20
    have gh47 := (gf33 (k + 4) (by omega)).trans gh46
    have z4 := gh47
    have gh48 := (gf33 (k + 5) (by omega)).trans gh28
    have z5 := gh48
    have hfr : ∀ i, i < k ∨ k + 6 ≤ i → gw31 i = w i := fun i hi => (gf33 i (by omega)).trans ((gf29 i (by omega)).trans ((gf21 i (by omega)).trans ((gf14 i (by omega)).trans ((gf8 i (by omega)).trans (gf3 i (by omega))))))
    refine hret _ _ ⟨by rw [if_pos c6]; rfl, ?_, hfr⟩
    rw [if_pos c6]
    refine ⟨_, _, _, _, _, n + 1, z0, z1, z2, z3, z4, z5, c6, ?_⟩
    rw [al_push, pk_us, pk_us, pk_us, pk_us, pk_us]
    congr 1
    exact al_eq (fun i hi => by rw [pk_un (by omega), pk_un (by omega), pk_un (by omega), pk_un (by omega), pk_un (by omega)])
  · skip
    refine G.iconst (v := nI 0) dX0_take_9 (by decide +kernel) ?_
    refine G.zret rfl (by decide) rfl rfl dX0_take_10 ?_
    exact hret _ _ ⟨by rw [if_neg (by omega)]; rfl, by rw [if_neg (by omega)]; exact zA, fun _ _ => rfl⟩
end PartsM

