/-! spans, and the JDK's own functions -/
section SpansM
variable {l : Launch} {t : TT} {N : Nat} {ad : Nat → Nat} {w : Nat → va_E} {k : Nat}
theorem c_J9_maxI (x y : Int32) :
    K l t yJ9_max_7cf53 cJ9_max_7cf53 2 (some .int) (rD 0) N ad w [.int x, .int y]
      (fun res w' => w = w' ∧ res = some (.int (if x < y then y else x))) := by
  refine K.of (own := RJ9) (lv := [(0, .int x), (1, .int y)]) (by decide +kernel) rfl (Nat.le_of_ble_eq_true rfl) rfl (fun P post hret => ?_)
  refine G.iload_n 0 rfl rfl dJ9_max_7cf53_0 ?_
  refine G.iload_n 1 rfl rfl dJ9_max_7cf53_1 ?_
  refine G.icmp_lt 9 dJ9_max_7cf53_2 rfl (fun c2 => ?_) (fun c2 => ?_)
  · skip
    refine G.iload_n 1 rfl rfl dJ9_max_7cf53_9 ?_
    refine G.iret rfl rfl rfl dJ9_max_7cf53_10 ?_
    exact hret _ _ ⟨rfl, by rw [if_pos c2]⟩
  · skip
    refine G.iload_n 0 rfl rfl dJ9_max_7cf53_5 ?_
    refine G.goto 10 dJ9_max_7cf53_6 rfl ?_
    refine G.iret rfl rfl rfl dJ9_max_7cf53_10 ?_
    exact hret _ _ ⟨rfl, by rw [if_neg c2]⟩
theorem c_J9_maxL (x y : Int64) :
    K l t yJ9_max_f86c9 cJ9_max_f86c9 4 (some .long) (rD 0) N ad w [.long x, .long y]
      (fun res w' => w = w' ∧ res = some (.long (if x < y then y else x))) := by
  refine K.of (own := RJ9) (lv := [(0, .long x), (2, .long y)]) (by decide +kernel) rfl (Nat.le_of_ble_eq_true rfl) rfl (fun P post hret => ?_)
  refine G.lload_n 0 rfl rfl dJ9_max_f86c9_0 ?_
  refine G.lload_n 1 rfl rfl dJ9_max_f86c9_1 ?_
  refine G.lcmp dJ9_max_f86c9_2 ?_
  refine G.if_lt 10 dJ9_max_f86c9_3 rfl (fun c3 => ?_) (fun c3 => ?_)
  · skip
    refine G.lload_n 1 rfl rfl dJ9_max_f86c9_10 ?_
    refine G.lret rfl rfl rfl dJ9_max_f86c9_11 ?_
    exact hret _ _ ⟨rfl, by rw [if_pos (lgc_lt.mp c3)]⟩
  · skip
    refine G.lload_n 0 rfl rfl dJ9_max_f86c9_6 ?_
    refine G.goto 11 dJ9_max_f86c9_7 rfl ?_
    refine G.lret rfl rfl rfl dJ9_max_f86c9_11 ?_
    exact hret _ _ ⟨rfl, by rw [if_neg (fun q => c3 (lgc_lt.mpr q))]⟩
theorem c_J9_minL (x y : Int64) :
    K l t yJ9_min_f86c9 cJ9_min_f86c9 4 (some .long) (rD 0) N ad w [.long x, .long y]
      (fun res w' => w = w' ∧ res = some (.long (if y < x then y else x))) := by
  refine K.of (own := RJ9) (lv := [(0, .long x), (2, .long y)]) (by decide +kernel) rfl (Nat.le_of_ble_eq_true rfl) rfl (fun P post hret => ?_)
  refine G.lload_n 0 rfl rfl dJ9_min_f86c9_0 ?_
  refine G.lload_n 1 rfl rfl dJ9_min_f86c9_1 ?_
  refine G.lcmp dJ9_min_f86c9_2 ?_
  refine G.if_gt 10 dJ9_min_f86c9_3 rfl (fun c3 => ?_) (fun c3 => ?_)
  · skip
    refine G.lload_n 1 rfl rfl dJ9_min_f86c9_10 ?_
    refine G.lret rfl rfl rfl dJ9_min_f86c9_11 ?_
    exact hret _ _ ⟨rfl, by rw [if_pos (lgc_gt.mp c3)]⟩
  · skip
    refine G.lload_n 0 rfl rfl dJ9_min_f86c9_6 ?_
    refine G.goto 11 dJ9_min_f86c9_7 rfl ?_
    refine G.lret rfl rfl rfl dJ9_min_f86c9_11 ?_
    exact hret _ _ ⟨rfl, by rw [if_neg (fun q => c3 (lgc_gt.mpr q))]⟩
theorem c_J9_floorMod (x y : Int64) (hy : ¬ y = 0) :
    K l t yJ9_floorMod_f86c9 cJ9_floorMod_f86c9 6 (some .long) (rD 0) N ad w [.long x, .long y]
      (fun res w' => w = w' ∧ res = some (.long (fmod x y))) := by
  refine K.of (own := RJ9) (lv := [(0, .long x), (2, .long y)]) (by decide +kernel) rfl (Nat.le_of_ble_eq_true rfl) rfl (fun P post hret => ?_)
  refine G.lload_n 0 rfl rfl dJ9_floorMod_f86c9_0 ?_
  refine G.lload_n 1 rfl rfl dJ9_floorMod_f86c9_1 ?_
  refine G.lrem dJ9_floorMod_f86c9_2 hy ?_
  refine G.lstore [(4, .long (x - x / y * y)), (0, .long x), (2, .long y)] dJ9_floorMod_f86c9_3 (by decide) rfl ?_
  refine G.lload_n 1 rfl rfl dJ9_floorMod_f86c9_5 ?_
  refine G.lload_n 2 rfl rfl dJ9_floorMod_f86c9_6 ?_
  refine G.lxor dJ9_floorMod_f86c9_7 ?_
  refine G.lconst (v := 0) dJ9_floorMod_f86c9_8 (by decide +kernel) ?_
  refine G.lcmp dJ9_floorMod_f86c9_9 ?_
  refine G.if_ge 25 dJ9_floorMod_f86c9_10 rfl (fun c10 => ?_) (fun c10 => ?_)
  · skip
    refine G.lload 0 rfl dJ9_floorMod_f86c9_25 ?_
    refine G.lret rfl rfl rfl dJ9_floorMod_f86c9_27 ?_
    exact hret _ _ ⟨rfl, by rw [fmod, if_neg (fun q => absurd (lgc_ge.mp c10) (Int64.not_le.mpr q.1))]⟩
  · skip
    have zn : (x ^^^ y) < 0 := Int64.not_le.mp (fun q => c10 (lgc_ge.mpr q))
    refine G.lload 0 rfl dJ9_floorMod_f86c9_13 ?_
    refine G.lconst (v := 0) dJ9_floorMod_f86c9_15 (by decide +kernel) ?_
    refine G.lcmp dJ9_floorMod_f86c9_16 ?_
    refine G.if_eq 25 dJ9_floorMod_f86c9_17 rfl (fun c17 => ?_) (fun c17 => ?_)
    · skip
      refine G.lload 0 rfl dJ9_floorMod_f86c9_25 ?_
      refine G.lret rfl rfl rfl dJ9_floorMod_f86c9_27 ?_
      exact hret _ _ ⟨rfl, by rw [fmod, if_neg (fun q => q.2 (lgc_eq.mp c17))]⟩
    · skip
      refine G.lload 0 rfl dJ9_floorMod_f86c9_20 ?_
      refine G.lload_n 2 rfl rfl dJ9_floorMod_f86c9_22 ?_
      refine G.ladd dJ9_floorMod_f86c9_23 ?_
      refine G.lret rfl rfl rfl dJ9_floorMod_f86c9_24 ?_
      exact hret _ _ ⟨rfl, by rw [fmod, if_pos ⟨zn, fun q => c17 (lgc_eq.mpr q)⟩]⟩
theorem c_X5_startOf (v : Int64) {how : Nat} (hh : how ≤ 4) :
    K l t yX5_startOf cX5_startOf 3 (some .long) (rD 0) N ad w [.long v, .int (nI how)]
      (fun res w' => w = w' ∧ res = some (.long (sStart how v))) := by
  refine K.of (own := RX5) (lv := [(0, .long v), (2, .int (nI how))]) (by decide +kernel) rfl (Nat.le_of_ble_eq_true rfl) rfl (fun P post hret => ?_)
  refine G.iload_n 1 rfl rfl dX5_startOf_0 ?_
  refine G.iconst (v := nI 1) dX5_startOf_1 (by decide +kernel) ?_
  refine G.ncmp_ne 9 dX5_startOf_2 rfl (by omega) (by omega) (fun c2 => ?_) (fun c2 => ?_)
  · skip
    refine G.lload_n 0 rfl rfl dX5_startOf_9 ?_
    refine G.lret rfl rfl rfl dX5_startOf_10 ?_
    exact hret _ _ ⟨rfl, by rw [sStart, if_neg c2]⟩
  · skip
    refine G.lconst (v := 1) dX5_startOf_5 (by decide +kernel) ?_
    refine G.goto 10 dX5_startOf_6 rfl ?_
    refine G.lret rfl rfl rfl dX5_startOf_10 ?_
    exact hret _ _ ⟨rfl, by rw [sStart, if_pos c2]⟩
theorem c_X5_nextOf (b v : Int64) {how : Nat} (hh : how ≤ 4) :
    K l t yX5_nextOf cX5_nextOf 5 (some .long) (rD 1) N ad w [.long b, .long v, .int (nI how)]
      (fun res w' => w = w' ∧ res = some (.long (sNext how b v))) := by
  refine K.of (own := RX5) (lv := [(0, .long b), (2, .long v), (4, .int (nI how))]) (by decide +kernel) rfl (Nat.le_of_ble_eq_true rfl) rfl (fun P post hret => ?_)
  refine G.iload 2 rfl dX5_nextOf_0 ?_
  rcases (show how = 0 ∨ how = 1 ∨ how = 2 ∨ how = 3 ∨ how = 4 by omega) with rfl | rfl | rfl | rfl | rfl
  · skip
    refine G.tableIn (off := 30) 32 dX5_nextOf_2 (by decide +kernel) (by decide +kernel) (by decide +kernel) rfl ?_
    refine G.lload_n 0 rfl rfl dX5_nextOf_32 ?_
    refine G.lload_n 1 rfl rfl dX5_nextOf_33 ?_
    refine G.ladd dX5_nextOf_34 ?_
    refine G.lret rfl rfl rfl dX5_nextOf_35 ?_
    exact hret _ _ ⟨rfl, rfl⟩
  · skip
    refine G.tableIn (off := 34) 36 dX5_nextOf_2 (by decide +kernel) (by decide +kernel) (by decide +kernel) rfl ?_
    refine G.lload_n 0 rfl rfl dX5_nextOf_36 ?_
    refine G.lconst (v := 1) dX5_nextOf_37 (by decide +kernel) ?_
    refine G.ladd dX5_nextOf_38 ?_
    refine G.lret rfl rfl rfl dX5_nextOf_39 ?_
    exact hret _ _ ⟨rfl, rfl⟩
  · skip
    refine G.tableIn (off := 38) 40 dX5_nextOf_2 (by decide +kernel) (by decide +kernel) (by decide +kernel) rfl ?_
    refine G.lload_n 0 rfl rfl dX5_nextOf_40 ?_
    refine G.lload_n 1 rfl rfl dX5_nextOf_41 ?_
    refine G.callS (n := 2) (c_J9_minL b v) rfl tb_443 tb_444 tb_40 tb_445 (by decide +kernel) rfl ⟨(Nat.le_of_ble_eq_true rfl), (Nat.le_of_ble_eq_true rfl)⟩ ⟨rfl, rfl⟩ (Nat.le_of_ble_eq_true rfl) ⟨Nat.zero_le _, Nat.zero_le _⟩ dX5_nextOf_42 (fun gr2 gw1 hp => ?_)
    obtain ⟨rfl, rfl⟩ := hp
    refine G.lret rfl rfl rfl dX5_nextOf_45 ?_
    exact hret _ _ ⟨rfl, rfl⟩
  · skip
    refine G.tableIn (off := 44) 46 dX5_nextOf_2 (by decide +kernel) (by decide +kernel) (by decide +kernel) rfl ?_
    refine G.lload_n 0 rfl rfl dX5_nextOf_46 ?_
    refine G.lload_n 1 rfl rfl dX5_nextOf_47 ?_
    refine G.callS (n := 2) (c_J9_maxL b v) rfl tb_446 tb_447 tb_40 tb_448 (by decide +kernel) rfl ⟨(Nat.le_of_ble_eq_true rfl), (Nat.le_of_ble_eq_true rfl)⟩ ⟨rfl, rfl⟩ (Nat.le_of_ble_eq_true rfl) ⟨Nat.zero_le _, Nat.zero_le _⟩ dX5_nextOf_48 (fun gr4 gw3 hp => ?_)
    obtain ⟨rfl, rfl⟩ := hp
    refine G.lret rfl rfl rfl dX5_nextOf_51 ?_
    exact hret _ _ ⟨rfl, rfl⟩
  · skip
    refine G.tableOut 52 dX5_nextOf_2 (by decide +kernel) rfl ?_
    refine G.lload_n 1 rfl rfl dX5_nextOf_52 ?_
    refine G.lret rfl rfl rfl dX5_nextOf_53 ?_
    exact hret _ _ ⟨rfl, rfl⟩
theorem c_X5_empty {C : Nat → Nat} {R : Nat → Int64} (hS : isSpan t ad w k C R) (hN : k + 3 ≤ N) :
    K l t yX5_empty cX5_empty 2 none (rD 0) N ad w [.ref (ad k)]
      (fun res w' => res = none ∧ isSpan t ad w' k (fun _ => 0) (fun _ => 0) ∧ ∀ i, i < k ∨ k + 3 ≤ i → w' i = w i) := by
  obtain ⟨C', R', h0, h1, h2, h3⟩ := hS
  refine K.of (own := RX5) (lv := [(0, .ref (ad k))]) (by decide +kernel) rfl (Nat.le_of_ble_eq_true rfl) rfl (fun P post hret => ?_)
  refine G.iconst (v := nI 0) dX5_empty_0 (by decide +kernel) ?_
  refine G.istore_n [(1, .int (nI 0)), (0, .ref (ad k))] dX5_empty_1 rfl (by decide) rfl ?_
  refine G.pick [1, 0] [(0, .ref (ad k)), (1, .int (nI 0))] rfl ?_
  have loop : ∀ (m i : Nat) (zw : Nat → va_E) (J : Nat → Int32) (Q : Nat → Int64), i + m = 6 → zw k = .inr (5, [.ref (ad (k + 1)), .ref (ad (k + 2))]) → zw (k + 1) = .inl (t.2.1, 6, .inl J) → zw (k + 2) = .inl (t.2.2.1, 6, .inr (.inl Q)) → (∀ j, j < i → J j = nI 0 ∧ Q j = 0) → (∀ q, q < k ∨ k + 3 ≤ q → zw q = w q) → G l t (rD 0) P cX5_empty 2 RX5 none post 0 0 N ad 0 0 2 [(0, .ref (ad k)), (1, .int (nI i))] [] zw := by
    intro m
    induction m with
    | zero =>
      intro i zw J Q hi e0 e1 e2 hJ hf
      refine G.iload_n 1 rfl rfl dX5_empty_2 ?_
      refine G.bipush (v := nI 6) dX5_empty_3 (by decide +kernel) ?_
      refine G.ncmp_ge 28 dX5_empty_5 rfl (by omega) (by omega) (fun c5 => ?_) (fun c5 => ?_)
      · skip
        refine G.vret rfl rfl rfl dX5_empty_28 ?_
        exact hret _ _ ⟨rfl, ⟨J, Q, e0, e1, e2, fun j hj => hJ j (by omega)⟩, hf⟩
      · skip
        omega
    | succ m ih =>
      intro i zw J Q hi e0 e1 e2 hJ hf
      refine G.iload_n 1 rfl rfl dX5_empty_2 ?_
      refine G.bipush (v := nI 6) dX5_empty_3 (by decide +kernel) ?_
      refine G.ncmp_ge 28 dX5_empty_5 rfl (by omega) (by omega) (fun c5 => ?_) (fun c5 => ?_)
      · skip
        omega
      · skip
        refine G.aload_n 0 rfl rfl dX5_empty_8 ?_
        refine G.get k (by omega) e0 rfl twX5 0 (by decide) tb_103 rfl rfl dX5_empty_9 ?_
        refine G.iload_n 1 rfl rfl dX5_empty_12 ?_
        refine G.iconst (v := nI 0) dX5_empty_13 (by decide +kernel) ?_
        refine G.iast (k + 1) (by omega) e1 i (rfl) (by omega) (by omega) dX5_empty_14 (fun gw1 gh2 gf3 => ?_)
        refine G.aload_n 0 rfl rfl dX5_empty_15 ?_
        have gh4 := (gf3 k (by omega)).trans e0
        refine G.get k (by omega) gh4 rfl twX5 1 (by decide) tb_104 rfl rfl dX5_empty_16 ?_
        refine G.iload_n 1 rfl rfl dX5_empty_19 ?_
        refine G.lconst (v := 0) dX5_empty_20 (by decide +kernel) ?_
        have gh5 := (gf3 (k + 2) (by omega)).trans e2
        refine G.last (k + 2) (by omega) gh5 i (rfl) (by omega) (by omega) dX5_empty_21 (fun gw6 gh7 gf8 => ?_)
        refine G.iinc (v := nI (i + 1)) [(1, .int (nI (i + 1))), (0, .ref (ad k))] 1 dX5_empty_22 rfl (nI_add i 1) (by decide) rfl ?_
        refine G.goto 2 dX5_empty_25 rfl ?_
        have gh9 := (gf8 k (by omega)).trans gh4
        have za := gh9
        have gh10 := (gf8 (k + 1) (by omega)).trans gh2
        have zb := gh10
        have zc := gh7
        have hfr : ∀ i, i < k ∨ k + 3 ≤ i → gw6 i = zw i := fun i hi => (gf8 i (by omega)).trans (gf3 i (by omega))
        refine G.pick [1, 0] [(0, .ref (ad k)), (1, .int (nI (i + 1)))] rfl ?_
        refine ih (i + 1) _ _ _ (by omega) za zb zc (fun j hj => ?_) (fun q hq => (hfr q hq).trans (hf q hq))
        by_cases hji : j = i
        · subst hji; rw [pk_us, pk_uLs]; exact ⟨rfl, rfl⟩
        · rw [pk_un hji, pk_uLn hji]; exact hJ j (by omega)
  exact loop 6 0 w C' R' rfl h0 h1 h2 (fun j hj => by omega) (fun _ _ => rfl)
theorem c_X5_take {C : Nat → Nat} {R : Nat → Int64} (hS : isSpan t ad w k C R) (hN : k + 3 ≤ N) {y : Nat} (hy : y < 6) (hC : C y < 1000000) (v : Int64) {how : Nat} (hh : how ≤ 4) :
    K l t yX5_take cX5_take 5 none (rD 2) N ad w [.ref (ad k), .int (nI y), .long v, .int (nI how)]
      (fun res w' => res = none ∧ isSpan t ad w' k (va_up C y (C y + 1)) (va_up R y (if C y = 0 then sStart how v else sNext how (R y) v)) ∧ ∀ i, i < k ∨ k + 3 ≤ i → w' i = w i) := by
  obtain ⟨C', R', h0, h1, h2, h3⟩ := hS
  refine K.of (own := RX5) (lv := [(0, .ref (ad k)), (1, .int (nI y)), (2, .long v), (4, .int (nI how))]) (by decide +kernel) rfl (Nat.le_of_ble_eq_true rfl) rfl (fun P post hret => ?_)
  refine G.iload_n 1 rfl rfl dX5_take_0 ?_
  refine G.nif_lt 10 dX5_take_1 rfl (by omega) ?_
  refine G.iload_n 1 rfl rfl dX5_take_4 ?_
  refine G.bipush (v := nI 6) dX5_take_5 (by decide +kernel) ?_
  refine G.ncmp_lt 11 dX5_take_7 rfl (by omega) (by omega) (fun c7 => ?_) (fun c7 => ?_)
  · skip
    refine G.aload_n 0 rfl rfl dX5_take_11 ?_
    refine G.get k (by omega) h0 rfl twX5 1 (by decide) tb_104 rfl rfl dX5_take_12 ?_
    refine G.iload_n 1 rfl rfl dX5_take_15 ?_
    refine G.aload_n 0 rfl rfl dX5_take_16 ?_
    refine G.get k (by omega) h0 rfl twX5 0 (by decide) tb_103 rfl rfl dX5_take_17 ?_
    refine G.iload_n 1 rfl rfl dX5_take_20 ?_
    refine G.iald (k + 1) (by omega) h1 y (rfl) (by omega) (by omega) dX5_take_21 ?_
    refine G.topi (nI (C y)) ((h3 y hy).1) ?_
    refine G.nif_ne 34 dX5_take_22 rfl (by omega) (fun c22 => ?_) (fun c22 => ?_)
    · skip
      refine G.aload_n 0 rfl rfl dX5_take_34 ?_
      refine G.get k (by omega) h0 rfl twX5 1 (by decide) tb_104 rfl rfl dX5_take_35 ?_
      refine G.iload_n 1 rfl rfl dX5_take_38 ?_
      refine G.lald (k + 2) (by omega) h2 y (rfl) (by omega) (by omega) dX5_take_39 ?_
      refine G.lload_n 2 rfl rfl dX5_take_40 ?_
      refine G.iload 3 rfl dX5_take_41 ?_
      refine G.callS (n := 3) (c_X5_nextOf (R' y) v hh) rfl tb_440 tb_441 tb_37 tb_442 (by decide +kernel) rfl ⟨(Nat.le_of_ble_eq_true rfl), (Nat.le_of_ble_eq_true rfl)⟩ ⟨rfl, rfl⟩ (Nat.le_of_ble_eq_true rfl) ⟨Nat.zero_le _, Nat.zero_le _⟩ dX5_take_43 (fun gr2 gw1 hp => ?_)
      obtain ⟨rfl, rfl⟩ := hp
      refine G.last (k + 2) (by omega) h2 y (rfl) (by omega) (by omega) dX5_take_46 (fun gw3 gh4 gf5 => ?_)
      refine G.aload_n 0 rfl rfl dX5_take_47 ?_
      have gh6 := (gf5 k (by omega)).trans h0
      refine G.get k (by omega) gh6 rfl twX5 0 (by decide) tb_103 rfl rfl dX5_take_48 ?_
      refine G.iload_n 1 rfl rfl dX5_take_51 ?_
      refine G.dup2_11 rfl rfl dX5_take_52 ?_
      have gh7 := (gf5 (k + 1) (by omega)).trans h1
      refine G.iald (k + 1) (by omega) gh7 y (rfl) (by omega) (by omega) dX5_take_53 ?_
      refine G.topi (nI (C y)) ((h3 y hy).1) ?_
      refine G.iconst (v := nI 1) dX5_take_54 (by decide +kernel) ?_
      refine G.iadd dX5_take_55 ?_
      refine G.topi (nI ((C y) + 1)) (nI_add ((C y)) 1) ?_
      refine G.iast (k + 1) (by omega) gh7 y (rfl) (by omega) (by omega) dX5_take_56 (fun gw8 gh9 gf10 => ?_)
      refine G.vret rfl rfl rfl dX5_take_57 ?_
      have gh11 := (gf10 k (by omega)).trans gh6
      have za := gh11
      have zb := gh9
      have gh12 := (gf10 (k + 2) (by omega)).trans gh4
      have zc := gh12
      have hfr : ∀ i, i < k ∨ k + 3 ≤ i → gw8 i = w i := fun i hi => (gf10 i (by omega)).trans (gf5 i (by omega))
      refine hret _ _ ⟨rfl, ⟨_, _, za, zb, zc, fun j hj => ?_⟩, hfr⟩
      by_cases hjy : j = y
      · subst hjy; rw [pk_us, pk_uLs, va_up_self, va_up_self, if_neg (by omega), (h3 j hy).2]; exact ⟨rfl, rfl⟩
      · rw [pk_un hjy, pk_uLn hjy, va_up_ne _ _ hjy, va_up_ne _ _ hjy]; exact h3 j hj
    · skip
      refine G.lload_n 2 rfl rfl dX5_take_25 ?_
      refine G.iload 3 rfl dX5_take_26 ?_
      refine G.callS (n := 2) (c_X5_startOf v hh) rfl tb_437 tb_438 tb_37 tb_439 (by decide +kernel) rfl ⟨(Nat.le_of_ble_eq_true rfl), (Nat.le_of_ble_eq_true rfl)⟩ ⟨rfl, rfl⟩ (Nat.le_of_ble_eq_true rfl) ⟨Nat.zero_le _, Nat.zero_le _⟩ dX5_take_28 (fun gr14 gw13 hp => ?_)
      obtain ⟨rfl, rfl⟩ := hp
      refine G.goto 46 dX5_take_31 rfl ?_
      refine G.last (k + 2) (by omega) h2 y (rfl) (by omega) (by omega) dX5_take_46 (fun gw15 gh16 gf17 => ?_)
      refine G.aload_n 0 rfl rfl dX5_take_47 ?_
      have gh18 := (gf17 k (by omega)).trans h0
      refine G.get k (by omega) gh18 rfl twX5 0 (by decide) tb_103 rfl rfl dX5_take_48 ?_
      refine G.iload_n 1 rfl rfl dX5_take_51 ?_
      refine G.dup2_11 rfl rfl dX5_take_52 ?_
      have gh19 := (gf17 (k + 1) (by omega)).trans h1
      refine G.iald (k + 1) (by omega) gh19 y (rfl) (by omega) (by omega) dX5_take_53 ?_
      refine G.topi (nI (C y)) ((h3 y hy).1) ?_
      refine G.iconst (v := nI 1) dX5_take_54 (by decide +kernel) ?_
      refine G.iadd dX5_take_55 ?_
      refine G.topi (nI ((C y) + 1)) (nI_add ((C y)) 1) ?_
      refine G.iast (k + 1) (by omega) gh19 y (rfl) (by omega) (by omega) dX5_take_56 (fun gw20 gh21 gf22 => ?_)
      refine G.vret rfl rfl rfl dX5_take_57 ?_
      have gh23 := (gf22 k (by omega)).trans gh18
      have za := gh23
      have zb := gh21
      have gh24 := (gf22 (k + 2) (by omega)).trans gh16
      have zc := gh24
      have hfr : ∀ i, i < k ∨ k + 3 ≤ i → gw20 i = w i := fun i hi => (gf22 i (by omega)).trans (gf17 i (by omega))
      refine hret _ _ ⟨rfl, ⟨_, _, za, zb, zc, fun j hj => ?_⟩, hfr⟩
      by_cases hjy : j = y
      · subst hjy; rw [pk_us, pk_uLs, va_up_self, va_up_self, if_pos c22]; exact ⟨rfl, rfl⟩
      · rw [pk_un hjy, pk_uLn hjy, va_up_ne _ _ hjy, va_up_ne _ _ hjy]; exact h3 j hj
  · skip
    omega
theorem c_X5_closeInto {C : Nat → Nat} {R : Nat → Int64} {r cap : Nat} {L : List RW} (hS : isSpan t ad w k C R) (hR : isRows t ad w r cap L) (hN : k + 3 ≤ N) (hN2 : r + 4 ≤ N) (hd : k + 3 ≤ r ∨ r + 4 ≤ k) (hc : cap < 1000000) (hC : ∀ j, j < 6 → C j < 1000000) (time : Int32) (hlen : L.length + (clo C R time 6).length ≤ cap) :
    K l t yX5_closeInto cX5_closeInto 4 (some .boolean) (rD 2) N ad w [.ref (ad k), .ref (ad r), .int time]
      (fun res w' => res = some (.int 1) ∧ isRows t ad w' r cap (L ++ clo C R time 6) ∧ isSpan t ad w' k (fun _ => 0) (fun _ => 0) ∧ ∀ i, (i < k ∨ k + 3 ≤ i) → (i < r ∨ r + 4 ≤ i) → w' i = w i) := by
  refine K.of (own := RX5) (lv := [(0, .ref (ad k)), (1, .ref (ad r)), (2, .int time)]) (by decide +kernel) rfl (Nat.le_of_ble_eq_true rfl) rfl (fun P post hret => ?_)
  refine G.iconst (v := nI 0) dX5_closeInto_0 (by decide +kernel) ?_
  refine G.istore_n [(3, .int (nI 0)), (0, .ref (ad k)), (1, .ref (ad r)), (2, .int time)] dX5_closeInto_1 rfl (by decide) rfl ?_
  refine G.pick [1, 2, 3, 0] [(0, .ref (ad k)), (1, .ref (ad r)), (2, .int time), (3, .int (nI 0))] rfl ?_
  have loop : ∀ (m i : Nat) (zw : Nat → va_E), i + m = 6 → isRows t ad zw r cap (L ++ clo C R time i) → (∀ q, q < r ∨ r + 4 ≤ q → zw q = w q) → G l t (rD 2) P cX5_closeInto 4 RX5 (some .boolean) post 0 0 N ad 0 0 2 [(0, .ref (ad k)), (1, .ref (ad r)), (2, .int time), (3, .int (nI i))] [] zw := by
    intro m
    induction m with
    | zero =>
      intro i zw hi hR1 hf1
      have hS1 : isSpan t ad zw k C R := hS.keep (fun q i1 i2 => hf1 q (by omega))
      have zS := hS1
      obtain ⟨C', R', h0, h1, h2, h3⟩ := zS
      refine G.iload_n 3 rfl rfl dX5_closeInto_2 ?_
      refine G.bipush (v := nI 6) dX5_closeInto_3 (by decide +kernel) ?_
      refine G.ncmp_ge 40 dX5_closeInto_5 rfl (by omega) (by omega) (fun c5 => ?_) (fun c5 => ?_)
      · skip
        refine G.aload_n 0 rfl rfl dX5_closeInto_40 ?_
        refine G.callV (n := 0) k (c_X5_empty hS1 hN) rfl (by omega) h0 rfl tb_432 tb_424 tb_425 tb_37 tb_426 (by decide +kernel) rfl ⟨(Nat.le_of_ble_eq_true rfl), (Nat.le_of_ble_eq_true rfl)⟩ ⟨rfl, rfl⟩ (Nat.le_of_ble_eq_true rfl) ⟨Nat.zero_le _, Nat.zero_le _⟩ dX5_closeInto_41 (fun gr1 zw2 hp => ?_)
        obtain ⟨rfl, hS2, hf⟩ := hp
        refine G.iconst (v := nI 1) dX5_closeInto_44 (by decide +kernel) ?_
        refine G.zret rfl (by decide) rfl rfl dX5_closeInto_45 ?_
        rw [show i = 6 by omega] at hR1
        exact hret _ _ ⟨rfl, hR1.keep (fun q i1 i2 => hf q (by omega)), hS2, fun q i1 i2 => (hf q i1).trans (hf1 q i2)⟩
      · skip
        omega
    | succ m ih =>
      intro i zw hi hR1 hf1
      have hS1 : isSpan t ad zw k C R := hS.keep (fun q i1 i2 => hf1 q (by omega))
      have hcl := clo_succ C R time i
      have zm := clo_mono C R time (show i + 1 ≤ 6 by omega)
      obtain ⟨C', R', h0, h1, h2, h3⟩ := hS1
      have zc := hC i (by omega)
      refine G.iload_n 3 rfl rfl dX5_closeInto_2 ?_
      refine G.bipush (v := nI 6) dX5_closeInto_3 (by decide +kernel) ?_
      refine G.ncmp_ge 40 dX5_closeInto_5 rfl (by omega) (by omega) (fun c5 => ?_) (fun c5 => ?_)
      · skip
        omega
      · skip
        refine G.aload_n 0 rfl rfl dX5_closeInto_8 ?_
        refine G.get k (by omega) h0 rfl twX5 0 (by decide) tb_103 rfl rfl dX5_closeInto_9 ?_
        refine G.iload_n 3 rfl rfl dX5_closeInto_12 ?_
        refine G.iald (k + 1) (by omega) h1 i (rfl) (by omega) (by omega) dX5_closeInto_13 ?_
        refine G.topi (nI (C i)) ((h3 i (by omega)).1) ?_
        refine G.nif_le 34 dX5_closeInto_14 rfl (by omega) (fun c14 => ?_) (fun c14 => ?_)
        · skip
          refine G.iinc (v := nI (i + 1)) [(3, .int (nI (i + 1))), (0, .ref (ad k)), (1, .ref (ad r)), (2, .int time)] 3 dX5_closeInto_34 rfl (nI_add i 1) (by decide) rfl ?_
          refine G.goto 2 dX5_closeInto_37 rfl ?_
          refine G.pick [1, 2, 3, 0] [(0, .ref (ad k)), (1, .ref (ad r)), (2, .int time), (3, .int (nI (i + 1)))] rfl ?_
          refine ih (i + 1) zw (by omega) ?_ hf1
          rw [hcl, if_neg (by omega), List.append_nil]
          exact hR1
        · skip
          rw [if_pos c14] at hcl
          have zlt : (L ++ clo C R time i).length < cap := by
            rw [hcl, List.length_append] at zm
            rw [List.length_append]
            simp at zm
            omega
          refine G.aload_n 1 rfl rfl dX5_closeInto_17 ?_
          refine G.iload_n 2 rfl rfl dX5_closeInto_18 ?_
          refine G.iload_n 3 rfl rfl dX5_closeInto_19 ?_
          refine G.aload_n 0 rfl rfl dX5_closeInto_20 ?_
          refine G.get k (by omega) h0 rfl twX5 1 (by decide) tb_104 rfl rfl dX5_closeInto_21 ?_
          refine G.iload_n 3 rfl rfl dX5_closeInto_24 ?_
          refine G.lald (k + 2) (by omega) h2 i (rfl) (by omega) (by omega) dX5_closeInto_25 ?_
          refine G.callV (n := 3) r (c_X4_add hR1 hN2 hc time (nI i) (R' i)) rfl (by omega) hR1.obj rfl tb_431 tb_412 tb_413 tb_39 tb_414 (by decide +kernel) rfl ⟨(Nat.le_of_ble_eq_true rfl), (Nat.le_of_ble_eq_true rfl)⟩ ⟨rfl, rfl⟩ (Nat.le_of_ble_eq_true rfl) ⟨Nat.zero_le _, Nat.zero_le _⟩ dX5_closeInto_26 (fun gr2 zw2 hp => ?_)
          obtain ⟨rfl, hR3, hf⟩ := hp
          rw [if_pos zlt] at hR3
          rw [if_pos zlt]
          refine G.if_ne 34 dX5_closeInto_29 rfl (fun c29 => ?_) (fun c29 => ?_)
          · skip
            refine G.iinc (v := nI (i + 1)) [(3, .int (nI (i + 1))), (0, .ref (ad k)), (1, .ref (ad r)), (2, .int time)] 3 dX5_closeInto_34 rfl (nI_add i 1) (by decide) rfl ?_
            refine G.goto 2 dX5_closeInto_37 rfl ?_
            refine G.pick [1, 2, 3, 0] [(0, .ref (ad k)), (1, .ref (ad r)), (2, .int time), (3, .int (nI (i + 1)))] rfl ?_
            refine ih (i + 1) zw2 (by omega) ?_ (fun q hq => (hf q hq).trans (hf1 q hq))
            rw [hcl, ← (h3 i (by omega)).2, ← List.append_assoc]
            exact hR3
          · skip
            exact absurd c29 (by decide)
  exact loop 6 0 w rfl (by simpa [clo] using hR) (fun _ _ => rfl)
end SpansM

