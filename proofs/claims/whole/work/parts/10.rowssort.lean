/-! Rows: sorting, comparing, counting -/
section RowsMore
variable {l : Launch} {t : TT} {N : Nat} {ad : Nat → Nat} {w : Nat → va_E} {r cap : Nat} {L : List RW}
theorem c_X4_isAbove (hR : isRows t ad w r cap L) (hN : r + 4 ≤ N) (hc : cap < 1000000) (i time key : Int32) (v : Int64) :
    K l t yX4_isAbove cX4_isAbove 7 (some .boolean) (rD 2) N ad w [.ref (ad r), .int i, .int time, .int key, .long v]
      (fun res w' => w = w' ∧ res = some (.int (if aboveS (rAt L i) (time, key, v) = true then 1 else 0))) := by
  refine K.of (own := RX4) (lv := [(0, .ref (ad r)), (1, .int i), (2, .int time), (3, .int key), (4, .long v)]) (by decide +kernel) rfl (Nat.le_of_ble_eq_true rfl) rfl (fun P post hret => ?_)
  refine G.aload_n 0 rfl rfl dX4_isAbove_0 ?_
  refine G.iload_n 1 rfl rfl dX4_isAbove_1 ?_
  refine G.iload_n 2 rfl rfl dX4_isAbove_2 ?_
  refine G.iload_n 3 rfl rfl dX4_isAbove_3 ?_
  refine G.callV (n := 3) r (c_X4_orderAgainst hR hN hc i time key) rfl (by omega) hR.obj rfl tb_534 tb_535 tb_536 tb_39 tb_537 (by decide +kernel) rfl ⟨(Nat.le_of_ble_eq_true rfl), (Nat.le_of_ble_eq_true rfl)⟩ ⟨rfl, rfl⟩ (Nat.le_of_ble_eq_true rfl) ⟨Nat.zero_le _, Nat.zero_le _⟩ dX4_isAbove_4 (fun gr2 gw1 hp => ?_)
  obtain ⟨rfl, rfl⟩ := hp
  refine G.istore [(6, .int (ordA (rAt L i) time key)), (0, .ref (ad r)), (1, .int i), (2, .int time), (3, .int key), (4, .long v)] dX4_isAbove_7 (by decide) rfl ?_
  refine G.iload 0 rfl dX4_isAbove_9 ?_
  refine G.if_gt 30 dX4_isAbove_11 rfl (fun c11 => ?_) (fun c11 => ?_)
  · skip
    refine G.iconst (v := nI 1) dX4_isAbove_30 (by decide +kernel) ?_
    refine G.goto 35 dX4_isAbove_31 rfl ?_
    refine G.zret rfl (by decide) rfl rfl dX4_isAbove_35 ?_
    exact hret _ _ ⟨rfl, by rw [if_pos (by simp [aboveS, c11])]; rfl⟩
  · skip
    refine G.iload 0 rfl dX4_isAbove_14 ?_
    refine G.if_ne 34 dX4_isAbove_16 rfl (fun c16 => ?_) (fun c16 => ?_)
    · skip
      refine G.iconst (v := nI 0) dX4_isAbove_34 (by decide +kernel) ?_
      refine G.zret rfl (by decide) rfl rfl dX4_isAbove_35 ?_
      exact hret _ _ ⟨rfl, by rw [if_neg (by simp [aboveS, c11, c16])]; rfl⟩
    · skip
      refine G.aload_n 1 rfl rfl dX4_isAbove_19 ?_
      refine G.iload_n 2 rfl rfl dX4_isAbove_20 ?_
      refine G.callV (n := 1) r (c_X4_valueAt hR hN hc i) rfl (by omega) hR.obj rfl tb_541 tb_381 tb_382 tb_39 tb_383 (by decide +kernel) rfl ⟨(Nat.le_of_ble_eq_true rfl), (Nat.le_of_ble_eq_true rfl)⟩ ⟨rfl, rfl⟩ (Nat.le_of_ble_eq_true rfl) ⟨Nat.zero_le _, Nat.zero_le _⟩ dX4_isAbove_21 (fun gr4 gw3 hp => ?_)
      obtain ⟨rfl, rfl⟩ := hp
      refine G.lload 5 rfl dX4_isAbove_24 ?_
      refine G.lcmp dX4_isAbove_26 ?_
      refine G.if_le 34 dX4_isAbove_27 rfl (fun c27 => ?_) (fun c27 => ?_)
      · skip
        refine G.iconst (v := nI 0) dX4_isAbove_34 (by decide +kernel) ?_
        refine G.zret rfl (by decide) rfl rfl dX4_isAbove_35 ?_
        exact hret _ _ ⟨rfl, by rw [if_neg (by simpa [aboveS, c16] using lgc_le.mp c27)]; rfl⟩
      · skip
        refine G.iconst (v := nI 1) dX4_isAbove_30 (by decide +kernel) ?_
        refine G.goto 35 dX4_isAbove_31 rfl ?_
        refine G.zret rfl (by decide) rfl rfl dX4_isAbove_35 ?_
        exact hret _ _ ⟨rfl, by rw [if_pos (by simpa [aboveS, c16] using fun h => c27 (lgc_le.mpr h))]; rfl⟩
set_option maxHeartbeats 1000000 in
theorem c_X4_addSorted (hR : isRows t ad w r cap L) (hN : r + 4 ≤ N) (hc : cap < 1000000) (hlt : L.length < cap) (time key : Int32) (v : Int64) :
    K l t yX4_addSorted cX4_addSorted 6 none (rD 3) N ad w [.ref (ad r), .int time, .int key, .long v]
      (fun res w' => res = none ∧ isRows t ad w' r cap (ins aboveS L (time, key, v)) ∧ ∀ i, i < r ∨ r + 4 ≤ i → w' i = w i) := by
  obtain ⟨T, Y, V, n, hW, rfl⟩ := hR.raw
  obtain ⟨h0, h1, h2, h3, hn⟩ := id hW
  rw [rl_len] at hlt
  refine K.of (own := RX4) (lv := [(0, .ref (ad r)), (1, .int time), (2, .int key), (3, .long v)]) (by decide +kernel) rfl (Nat.le_of_ble_eq_true rfl) rfl (fun P post hret => ?_)
  refine G.aload_n 0 rfl rfl dX4_addSorted_0 ?_
  refine G.get r (by omega) h0 rfl twX4 3 (by decide) tb_136 rfl rfl dX4_addSorted_1 ?_
  refine G.aload_n 0 rfl rfl dX4_addSorted_4 ?_
  refine G.get r (by omega) h0 rfl twX4 0 (by decide) tb_133 rfl rfl dX4_addSorted_5 ?_
  refine G.alen (r + 1) (by omega) 0 h1 rfl (v := nI cap) rfl dX4_addSorted_8 ?_
  refine G.ncmp_lt 13 dX4_addSorted_9 rfl (by omega) (by omega) (fun c9 => ?_) (fun c9 => ?_)
  · skip
    refine G.aload_n 0 rfl rfl dX4_addSorted_13 ?_
    refine G.get r (by omega) h0 rfl twX4 3 (by decide) tb_136 rfl rfl dX4_addSorted_14 ?_
    refine G.istore [(5, .int (nI n)), (0, .ref (ad r)), (1, .int time), (2, .int key), (3, .long v)] dX4_addSorted_17 (by decide) rfl ?_
    refine G.pick [1, 2, 3, 4, 0] [(0, .ref (ad r)), (1, .int time), (2, .int key), (3, .long v), (5, .int (nI n))] rfl ?_
    have tail : ∀ (i : Nat) (w1 : Nat → va_E) (T1 Y1 : Nat → Int32) (V1 : Nat → Int64), i ≤ n → isRaw t ad w1 r cap T1 Y1 V1 n → (∀ k, k < i → (T1 k, Y1 k, V1 k) = (T k, Y k, V k)) → (∀ k, i < k → k ≤ n → (T1 k, Y1 k, V1 k) = (T (k - 1), Y (k - 1), V (k - 1))) → (∀ k, i ≤ k → k < n → aboveS (T k, Y k, V k) (time, key, v) = true) → (∀ k, i = k + 1 → aboveS (T k, Y k, V k) (time, key, v) = false) → (∀ q, q < r ∨ r + 4 ≤ q → w1 q = w q) → G l t (rD 3) P cX4_addSorted 6 RX4 none post 0 0 N ad 0 0 77 [(0, .ref (ad r)), (1, .int time), (2, .int key), (3, .long v), (5, .int (nI i))] [] w1 := by
      intro i w1 T1 Y1 V1 hi hW1 a1 a2 a3 a4 hf1
      obtain ⟨e0, e1, e2, e3, -⟩ := id hW1
      refine G.aload_n 0 rfl rfl dX4_addSorted_77 ?_
      refine G.iload 4 rfl dX4_addSorted_78 ?_
      refine G.iload_n 1 rfl rfl dX4_addSorted_80 ?_
      refine G.iload_n 2 rfl rfl dX4_addSorted_81 ?_
      refine G.lload_n 3 rfl rfl dX4_addSorted_82 ?_
      refine G.callV (n := 4) r (c_X4_put hW1 hN hc (show i < cap by omega) time key v) rfl (by omega) e0 rfl tb_361 tb_363 tb_5 tb_39 tb_364 (by decide +kernel) rfl ⟨(Nat.le_of_ble_eq_true rfl), (Nat.le_of_ble_eq_true rfl)⟩ ⟨rfl, rfl⟩ (Nat.le_of_ble_eq_true rfl) ⟨Nat.zero_le _, Nat.zero_le _⟩ dX4_addSorted_83 (fun gr1 w2 hp => ?_)
      obtain ⟨rfl, ⟨e0, e1, e2, e3, -⟩, hf⟩ := hp
      refine G.aload_n 0 rfl rfl dX4_addSorted_86 ?_
      refine G.dup rfl dX4_addSorted_87 ?_
      refine G.get r (by omega) e0 rfl twX4 3 (by decide) tb_136 rfl rfl dX4_addSorted_88 ?_
      refine G.iconst (v := nI 1) dX4_addSorted_91 (by decide +kernel) ?_
      refine G.iadd dX4_addSorted_92 ?_
      refine G.topi (nI (n + 1)) (nI_add n 1) ?_
      refine G.put r (by omega) e0 rfl twX4 3 (by decide) tyX4 tyX4_ok nmX4 tb_136 rfl rfl (tyX4_ok 3 (by decide)) rfl rfl (Nat.le_of_ble_eq_true rfl) dX4_addSorted_93 (fun gw2 gh3 gf4 => ?_)
      refine G.vret rfl rfl rfl dX4_addSorted_96 ?_
      have k0 := gh3
      have gh5 := (gf4 (r + 1) (by omega)).trans e1
      have k1 := gh5
      have gh6 := (gf4 (r + 2) (by omega)).trans e2
      have k2 := gh6
      have gh7 := (gf4 (r + 3) (by omega)).trans e3
      have k3 := gh7
      have hfr : ∀ i, i < r ∨ r + 4 ≤ i → gw2 i = w2 i := fun i hi => gf4 i (by omega)
      refine hret _ _ ⟨rfl, ?_, fun q hq => (hfr q hq).trans ((hf q hq).trans (hf1 q hq))⟩
      refine ⟨_, _, _, n + 1, k0, k1, k2, k3, hlt, ?_⟩
      refine (ins_rl aboveS hi (fun k hk => ?_) ?_ (fun k hk hk2 => ?_) (fun k hk hk2 => ?_) (fun k hk => ?_)).symm
      · rw [pk_un (by omega), pk_un (by omega), pk_uLn (by omega)]; exact a1 k hk
      · rw [pk_us, pk_us, pk_uLs]
      · rw [pk_un (by omega), pk_un (by omega), pk_uLn (by omega)]; exact a2 k hk hk2
      · exact a3 k hk hk2
      · exact a4 k hk
    have loop : ∀ (i : Nat) (w1 : Nat → va_E) (T1 Y1 : Nat → Int32) (V1 : Nat → Int64), i ≤ n → isRaw t ad w1 r cap T1 Y1 V1 n → (∀ k, k < i → (T1 k, Y1 k, V1 k) = (T k, Y k, V k)) → (∀ k, i < k → k ≤ n → (T1 k, Y1 k, V1 k) = (T (k - 1), Y (k - 1), V (k - 1))) → (∀ k, i ≤ k → k < n → aboveS (T k, Y k, V k) (time, key, v) = true) → (∀ q, q < r ∨ r + 4 ≤ q → w1 q = w q) → G l t (rD 3) P cX4_addSorted 6 RX4 none post 0 0 N ad 0 0 19 [(0, .ref (ad r)), (1, .int time), (2, .int key), (3, .long v), (5, .int (nI i))] [] w1 := by
      intro i
      induction i with
      | zero =>
        intro w1 T1 Y1 V1 hi hW1 a1 a2 a3 hf1
        refine G.iload 4 rfl dX4_addSorted_19 ?_
        refine G.nif_le 77 dX4_addSorted_21 rfl (by omega) (fun c21 => ?_) (fun c21 => ?_)
        · skip
          exact tail 0 w1 T1 Y1 V1 hi hW1 a1 a2 a3 (fun k hk => by omega) hf1
        · skip
          omega
      | succ i ih =>
        intro w1 T1 Y1 V1 hi hW1 a1 a2 a3 hf1
        obtain ⟨e0, e1, e2, e3, -⟩ := id hW1
        have q1 : T1 i = T i := congrArg (fun x => x.1) (a1 i (by omega))
        have q2 : Y1 i = Y i := congrArg (fun x => x.2.1) (a1 i (by omega))
        have q3 : V1 i = V i := congrArg (fun x => x.2.2) (a1 i (by omega))
        have q4 : rAt (rl T1 Y1 V1 n) (nI i) = (T i, Y i, V i) := by rw [rAt_n _ (by omega), rl_at (by omega)]; exact a1 i (by omega)
        refine G.iload 4 rfl dX4_addSorted_19 ?_
        refine G.nif_le 77 dX4_addSorted_21 rfl (by omega) (fun c21 => ?_) (fun c21 => ?_)
        · skip
          omega
        · skip
          refine G.aload_n 0 rfl rfl dX4_addSorted_24 ?_
          refine G.iload 4 rfl dX4_addSorted_25 ?_
          refine G.iconst (v := nI 1) dX4_addSorted_27 (by decide +kernel) ?_
          refine G.isub dX4_addSorted_28 ?_
          refine G.topi (nI i) (pk_sub (by omega)) ?_
          refine G.iload_n 1 rfl rfl dX4_addSorted_29 ?_
          refine G.iload_n 2 rfl rfl dX4_addSorted_30 ?_
          refine G.lload_n 3 rfl rfl dX4_addSorted_31 ?_
          refine G.callV (n := 4) r (c_X4_isAbove hW1.rows hN hc (nI i) time key v) rfl (by omega) e0 rfl tb_562 tb_564 tb_13 tb_39 tb_565 (by decide +kernel) rfl ⟨(Nat.le_of_ble_eq_true rfl), (Nat.le_of_ble_eq_true rfl)⟩ ⟨rfl, rfl⟩ (Nat.le_of_ble_eq_true rfl) ⟨Nat.zero_le _, Nat.zero_le _⟩ dX4_addSorted_32 (fun gr9 gw8 hp => ?_)
          obtain ⟨rfl, rfl⟩ := hp
          refine G.if_eq 77 dX4_addSorted_35 rfl (fun c35 => ?_) (fun c35 => ?_)
          · skip
            rw [q4] at c35
            have c35b : aboveS (T i, Y i, V i) (time, key, v) = false := by
              cases hb : aboveS (T i, Y i, V i) (time, key, v) with
              | false => rfl
              | true => rw [hb] at c35; exact absurd c35 (by decide)
            exact tail (i + 1) w1 T1 Y1 V1 hi hW1 a1 a2 a3 (fun k hk => by
              have : k = i := by omega
              subst this
              exact c35b) hf1
          · skip
            rw [q4] at c35
            have c35b : aboveS (T i, Y i, V i) (time, key, v) = true := by
              cases hb : aboveS (T i, Y i, V i) (time, key, v) with
              | true => rfl
              | false => rw [hb] at c35; exact absurd rfl c35
            refine G.aload_n 0 rfl rfl dX4_addSorted_38 ?_
            refine G.iload 4 rfl dX4_addSorted_39 ?_
            refine G.aload_n 0 rfl rfl dX4_addSorted_41 ?_
            refine G.get r (by omega) e0 rfl twX4 0 (by decide) tb_133 rfl rfl dX4_addSorted_42 ?_
            refine G.iload 4 rfl dX4_addSorted_45 ?_
            refine G.iconst (v := nI 1) dX4_addSorted_47 (by decide +kernel) ?_
            refine G.isub dX4_addSorted_48 ?_
            refine G.topi (nI i) (pk_sub (by omega)) ?_
            refine G.iald (r + 1) (by omega) e1 i (rfl) (by omega) (by omega) dX4_addSorted_49 ?_
            refine G.aload_n 0 rfl rfl dX4_addSorted_50 ?_
            refine G.get r (by omega) e0 rfl twX4 1 (by decide) tb_134 rfl rfl dX4_addSorted_51 ?_
            refine G.iload 4 rfl dX4_addSorted_54 ?_
            refine G.iconst (v := nI 1) dX4_addSorted_56 (by decide +kernel) ?_
            refine G.isub dX4_addSorted_57 ?_
            refine G.topi (nI i) (pk_sub (by omega)) ?_
            refine G.iald (r + 2) (by omega) e2 i (rfl) (by omega) (by omega) dX4_addSorted_58 ?_
            refine G.aload_n 0 rfl rfl dX4_addSorted_59 ?_
            refine G.get r (by omega) e0 rfl twX4 2 (by decide) tb_135 rfl rfl dX4_addSorted_60 ?_
            refine G.iload 4 rfl dX4_addSorted_63 ?_
            refine G.iconst (v := nI 1) dX4_addSorted_65 (by decide +kernel) ?_
            refine G.isub dX4_addSorted_66 ?_
            refine G.topi (nI i) (pk_sub (by omega)) ?_
            refine G.lald (r + 3) (by omega) e3 i (rfl) (by omega) (by omega) dX4_addSorted_67 ?_
            refine G.callV (n := 4) r (c_X4_put hW1 hN hc (show i + 1 < cap by omega) (T1 i) (Y1 i) (V1 i)) rfl (by omega) e0 rfl tb_361 tb_363 tb_5 tb_39 tb_364 (by decide +kernel) rfl ⟨(Nat.le_of_ble_eq_true rfl), (Nat.le_of_ble_eq_true rfl)⟩ ⟨rfl, rfl⟩ (Nat.le_of_ble_eq_true rfl) ⟨Nat.zero_le _, Nat.zero_le _⟩ dX4_addSorted_68 (fun gr10 w2 hp => ?_)
            obtain ⟨rfl, hW2, hf⟩ := hp
            refine G.iinc (v := nI i) [(5, .int (nI i)), (0, .ref (ad r)), (1, .int time), (2, .int key), (3, .long v)] 4 dX4_addSorted_71 rfl (pk_m1 _) (by decide) rfl ?_
            refine G.goto 19 dX4_addSorted_74 rfl ?_
            refine G.pick [1, 2, 3, 4, 0] [(0, .ref (ad r)), (1, .int time), (2, .int key), (3, .long v), (5, .int (nI i))] rfl ?_
            refine ih w2 _ _ _ (by omega) hW2 (fun k hk => ?_) (fun k hk hk2 => ?_) (fun k hk hk2 => ?_) (fun q hq => (hf q hq).trans (hf1 q hq))
            · rw [pk_un (by omega), pk_un (by omega), pk_uLn (by omega)]; exact a1 k (by omega)
            · by_cases hki : k = i + 1
              · subst hki
                rw [pk_us, pk_us, pk_uLs, q1, q2, q3]
                rfl
              · rw [pk_un hki, pk_un hki, pk_uLn hki]; exact a2 k (by omega) hk2
            · by_cases hki : k = i
              · subst hki
                exact c35b
              · exact a3 k (by omega) hk2
    exact loop n w T Y V (Nat.le_refl n) hW (fun _ _ => rfl) (fun k h1 h2 => by omega) (fun k h1 h2 => by omega) (fun _ _ => rfl)
  · skip
    omega
theorem c_X4_sortFrom {L2 : List RW} {r2 cap2 : Nat} (hR : isRows t ad w r cap L) (hR2 : isRows t ad w r2 cap2 L2) (hd : r + 4 ≤ r2 ∨ r2 + 4 ≤ r) (hN : r + 4 ≤ N) (hN2 : r2 + 4 ≤ N) (hc : cap < 1000000) (hc2 : cap2 < 1000000) (hle : L2.length ≤ cap) :
    K l t yX4_sortFrom cX4_sortFrom 3 none (rD 4) N ad w [.ref (ad r), .ref (ad r2)]
      (fun res w' => res = none ∧ isRows t ad w' r cap (srt aboveS L2) ∧ ∀ i, i < r ∨ r + 4 ≤ i → w' i = w i) := by
  obtain ⟨T, Y, V, n, h0, h1, h2, h3, hn, rfl⟩ := hR
  refine K.of (own := RX4) (lv := [(0, .ref (ad r)), (1, .ref (ad r2))]) (by decide +kernel) rfl (Nat.le_of_ble_eq_true rfl) rfl (fun P post hret => ?_)
  refine G.aload_n 0 rfl rfl dX4_sortFrom_0 ?_
  refine G.iconst (v := nI 0) dX4_sortFrom_1 (by decide +kernel) ?_
  refine G.put r (by omega) h0 rfl twX4 3 (by decide) tyX4 tyX4_ok nmX4 tb_136 rfl rfl (tyX4_ok 3 (by decide)) rfl rfl (Nat.le_of_ble_eq_true rfl) dX4_sortFrom_2 (fun gw1 gh2 gf3 => ?_)
  refine G.iconst (v := nI 0) dX4_sortFrom_5 (by decide +kernel) ?_
  refine G.istore_n [(2, .int (nI 0)), (0, .ref (ad r)), (1, .ref (ad r2))] dX4_sortFrom_6 rfl (by decide) rfl ?_
  have e0 := gh2
  have gh4 := (gf3 (r + 1) (by omega)).trans h1
  have e1 := gh4
  have gh5 := (gf3 (r + 2) (by omega)).trans h2
  have e2 := gh5
  have gh6 := (gf3 (r + 3) (by omega)).trans h3
  have e3 := gh6
  have hfr : ∀ i, i < r ∨ r + 4 ≤ i → gw1 i = w i := fun i hi => gf3 i (by omega)
  refine G.pick [1, 2, 0] [(0, .ref (ad r)), (1, .ref (ad r2)), (2, .int (nI 0))] rfl ?_
  have loop : ∀ (m i : Nat) (w1 : Nat → va_E), i + m = L2.length → isRows t ad w1 r cap (srt aboveS (L2.take i)) → (∀ q, q < r ∨ r + 4 ≤ q → w1 q = w q) → G l t (rD 4) P cX4_sortFrom 3 RX4 none post 0 0 N ad 0 0 7 [(0, .ref (ad r)), (1, .ref (ad r2)), (2, .int (nI i))] [] w1 := by
    intro m
    induction m with
    | zero =>
      intro i w1 hi hR1 hf1
      have hR2' : isRows t ad w1 r2 cap2 L2 := hR2.keep (fun q a b => hf1 q (by omega))
      refine G.iload_n 2 rfl rfl dX4_sortFrom_7 ?_
      refine G.aload_n 1 rfl rfl dX4_sortFrom_8 ?_
      refine G.get r2 (by omega) hR2'.obj rfl twX4 3 (by decide) tb_136 rfl rfl dX4_sortFrom_9 ?_
      refine G.ncmp_ge 40 dX4_sortFrom_12 rfl (by omega) (by omega) (fun c12 => ?_) (fun c12 => ?_)
      · skip
        refine G.vret rfl rfl rfl dX4_sortFrom_40 ?_
        refine hret _ _ ⟨rfl, ?_, hf1⟩
        rw [List.take_of_length_le (by omega)] at hR1
        exact hR1
      · skip
        omega
    | succ m ih =>
      intro i w1 hi hR1 hf1
      have hR2' : isRows t ad w1 r2 cap2 L2 := hR2.keep (fun q a b => hf1 q (by omega))
      have hil : i < 2 ^ 31 := by have := hR2.le; omega
      refine G.iload_n 2 rfl rfl dX4_sortFrom_7 ?_
      refine G.aload_n 1 rfl rfl dX4_sortFrom_8 ?_
      refine G.get r2 (by omega) hR2'.obj rfl twX4 3 (by decide) tb_136 rfl rfl dX4_sortFrom_9 ?_
      refine G.ncmp_ge 40 dX4_sortFrom_12 rfl (by omega) (by omega) (fun c12 => ?_) (fun c12 => ?_)
      · skip
        omega
      · skip
        refine G.aload_n 0 rfl rfl dX4_sortFrom_15 ?_
        refine G.aload_n 1 rfl rfl dX4_sortFrom_16 ?_
        refine G.iload_n 2 rfl rfl dX4_sortFrom_17 ?_
        refine G.callV (n := 1) r2 (c_X4_timeAt hR2' hN2 hc2 (nI i)) rfl (by omega) hR2'.obj rfl tb_533 tb_404 tb_405 tb_39 tb_406 (by decide +kernel) rfl ⟨(Nat.le_of_ble_eq_true rfl), (Nat.le_of_ble_eq_true rfl)⟩ ⟨rfl, rfl⟩ (Nat.le_of_ble_eq_true rfl) ⟨Nat.zero_le _, Nat.zero_le _⟩ dX4_sortFrom_18 (fun gr8 gw7 hp => ?_)
        obtain ⟨rfl, rfl⟩ := hp
        refine G.aload_n 1 rfl rfl dX4_sortFrom_21 ?_
        refine G.iload_n 2 rfl rfl dX4_sortFrom_22 ?_
        refine G.callV (n := 1) r2 (c_X4_keyAt hR2' hN2 hc2 (nI i)) rfl (by omega) hR2'.obj rfl tb_471 tb_408 tb_409 tb_39 tb_410 (by decide +kernel) rfl ⟨(Nat.le_of_ble_eq_true rfl), (Nat.le_of_ble_eq_true rfl)⟩ ⟨rfl, rfl⟩ (Nat.le_of_ble_eq_true rfl) ⟨Nat.zero_le _, Nat.zero_le _⟩ dX4_sortFrom_23 (fun gr10 gw9 hp => ?_)
        obtain ⟨rfl, rfl⟩ := hp
        refine G.aload_n 1 rfl rfl dX4_sortFrom_26 ?_
        refine G.iload_n 2 rfl rfl dX4_sortFrom_27 ?_
        refine G.callV (n := 1) r2 (c_X4_valueAt hR2' hN2 hc2 (nI i)) rfl (by omega) hR2'.obj rfl tb_541 tb_381 tb_382 tb_39 tb_383 (by decide +kernel) rfl ⟨(Nat.le_of_ble_eq_true rfl), (Nat.le_of_ble_eq_true rfl)⟩ ⟨rfl, rfl⟩ (Nat.le_of_ble_eq_true rfl) ⟨Nat.zero_le _, Nat.zero_le _⟩ dX4_sortFrom_28 (fun gr12 gw11 hp => ?_)
        obtain ⟨rfl, rfl⟩ := hp
        refine G.callV (n := 3) r (c_X4_addSorted hR1 hN hc (by rw [srt_len, List.length_take]; omega) (rAt L2 (nI i)).1 (rAt L2 (nI i)).2.1 (rAt L2 (nI i)).2.2) rfl (by omega) hR1.obj rfl tb_558 tb_560 tb_12 tb_39 tb_561 (by decide +kernel) rfl ⟨(Nat.le_of_ble_eq_true rfl), (Nat.le_of_ble_eq_true rfl)⟩ ⟨rfl, rfl⟩ (Nat.le_of_ble_eq_true rfl) ⟨Nat.zero_le _, Nat.zero_le _⟩ dX4_sortFrom_31 (fun gr13 w2 hp => ?_)
        obtain ⟨rfl, hR3, hf⟩ := hp
        refine G.iinc (v := nI (i + 1)) [(2, .int (nI (i + 1))), (0, .ref (ad r)), (1, .ref (ad r2))] 2 dX4_sortFrom_34 rfl (nI_add i 1) (by decide) rfl ?_
        refine G.goto 7 dX4_sortFrom_37 rfl ?_
        refine G.pick [1, 2, 0] [(0, .ref (ad r)), (1, .ref (ad r2)), (2, .int (nI (i + 1)))] rfl ?_
        refine ih (i + 1) w2 (by omega) ?_ (fun q hq => (hf q hq).trans (hf1 q hq))
        rw [rw_eta, rAt_n _ hil, ← srt_take (by omega)] at hR3
        exact hR3
  exact loop L2.length 0 _ (by omega) ⟨T, Y, V, 0, e0, e1, e2, e3, Nat.zero_le _, rfl⟩ hfr
end RowsMore

