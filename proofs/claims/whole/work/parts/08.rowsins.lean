/-! Rows: insertion, comparison of rows -/
section RowsIns
variable {l : Launch} {t : TT} {N : Nat} {ad : Nat → Nat} {w : Nat → va_E} {r cap : Nat} {L : List RW}
set_option maxHeartbeats 1000000 in
theorem c_X4_addByTime (hR : isRows t ad w r cap L) (hN : r + 4 ≤ N) (hc : cap < 1000000) (time key : Int32) (v : Int64) :
    K l t yX4_addByTime cX4_addByTime 6 (some .boolean) (rD 1) N ad w [.ref (ad r), .int time, .int key, .long v]
      (fun res w' => res = some (.int (if L.length < cap then 1 else 0)) ∧ isRows t ad w' r cap (if L.length < cap then ins aboveT L (time, key, v) else L) ∧ ∀ i, i < r ∨ r + 4 ≤ i → w' i = w i) := by
  obtain ⟨T, Y, V, n, hW, rfl⟩ := hR.raw
  obtain ⟨h0, h1, h2, h3, hn⟩ := id hW
  rw [rl_len]
  refine K.of (own := RX4) (lv := [(0, .ref (ad r)), (1, .int time), (2, .int key), (3, .long v)]) (by decide +kernel) rfl (Nat.le_of_ble_eq_true rfl) rfl (fun P post hret => ?_)
  refine G.aload_n 0 rfl rfl dX4_addByTime_0 ?_
  refine G.get r (by omega) h0 rfl twX4 3 (by decide) tb_136 rfl rfl dX4_addByTime_1 ?_
  refine G.aload_n 0 rfl rfl dX4_addByTime_4 ?_
  refine G.get r (by omega) h0 rfl twX4 0 (by decide) tb_133 rfl rfl dX4_addByTime_5 ?_
  refine G.alen (r + 1) (by omega) 0 h1 rfl (v := nI cap) rfl dX4_addByTime_8 ?_
  refine G.ncmp_lt 14 dX4_addByTime_9 rfl (by omega) (by omega) (fun c9 => ?_) (fun c9 => ?_)
  · skip
    refine G.aload_n 0 rfl rfl dX4_addByTime_14 ?_
    refine G.get r (by omega) h0 rfl twX4 3 (by decide) tb_136 rfl rfl dX4_addByTime_15 ?_
    refine G.istore [(5, .int (nI n)), (0, .ref (ad r)), (1, .int time), (2, .int key), (3, .long v)] dX4_addByTime_18 (by decide) rfl ?_
    refine G.pick [1, 2, 3, 4, 0] [(0, .ref (ad r)), (1, .int time), (2, .int key), (3, .long v), (5, .int (nI n))] rfl ?_
    have tail : ∀ (i : Nat) (w1 : Nat → va_E) (T1 Y1 : Nat → Int32) (V1 : Nat → Int64), i ≤ n → isRaw t ad w1 r cap T1 Y1 V1 n → (∀ k, k < i → (T1 k, Y1 k, V1 k) = (T k, Y k, V k)) → (∀ k, i < k → k ≤ n → (T1 k, Y1 k, V1 k) = (T (k - 1), Y (k - 1), V (k - 1))) → (∀ k, i ≤ k → k < n → time < T k) → (∀ k, i = k + 1 → ¬ time < T k) → (∀ q, q < r ∨ r + 4 ≤ q → w1 q = w q) → G l t (rD 1) P cX4_addByTime 6 RX4 (some .boolean) post 0 0 N ad 0 0 77 [(0, .ref (ad r)), (1, .int time), (2, .int key), (3, .long v), (5, .int (nI i))] [] w1 := by
      intro i w1 T1 Y1 V1 hi hW1 a1 a2 a3 a4 hf1
      obtain ⟨e0, e1, e2, e3, -⟩ := id hW1
      refine G.aload_n 0 rfl rfl dX4_addByTime_77 ?_
      refine G.iload 4 rfl dX4_addByTime_78 ?_
      refine G.iload_n 1 rfl rfl dX4_addByTime_80 ?_
      refine G.iload_n 2 rfl rfl dX4_addByTime_81 ?_
      refine G.lload_n 3 rfl rfl dX4_addByTime_82 ?_
      refine G.callV (n := 4) r (c_X4_put hW1 hN hc (show i < cap by omega) time key v) rfl (by omega) e0 rfl tb_361 tb_363 tb_5 tb_39 tb_364 (by decide +kernel) rfl ⟨(Nat.le_of_ble_eq_true rfl), (Nat.le_of_ble_eq_true rfl)⟩ ⟨rfl, rfl⟩ (Nat.le_of_ble_eq_true rfl) ⟨Nat.zero_le _, Nat.zero_le _⟩ dX4_addByTime_83 (fun gr1 w2 hp => ?_)
      obtain ⟨rfl, ⟨e0, e1, e2, e3, -⟩, hf⟩ := hp
      refine G.aload_n 0 rfl rfl dX4_addByTime_86 ?_
      refine G.dup rfl dX4_addByTime_87 ?_
      refine G.get r (by omega) e0 rfl twX4 3 (by decide) tb_136 rfl rfl dX4_addByTime_88 ?_
      refine G.iconst (v := nI 1) dX4_addByTime_91 (by decide +kernel) ?_
      refine G.iadd dX4_addByTime_92 ?_
      refine G.topi (nI (n + 1)) (nI_add n 1) ?_
      refine G.put r (by omega) e0 rfl twX4 3 (by decide) tyX4 tyX4_ok nmX4 tb_136 rfl rfl (tyX4_ok 3 (by decide)) rfl rfl (Nat.le_of_ble_eq_true rfl) dX4_addByTime_93 (fun gw2 gh3 gf4 => ?_)
      refine G.iconst (v := nI 1) dX4_addByTime_96 (by decide +kernel) ?_
      refine G.zret rfl (by decide) rfl rfl dX4_addByTime_97 ?_
      have k0 := gh3
      have gh5 := (gf4 (r + 1) (by omega)).trans e1
      have k1 := gh5
      have gh6 := (gf4 (r + 2) (by omega)).trans e2
      have k2 := gh6
      have gh7 := (gf4 (r + 3) (by omega)).trans e3
      have k3 := gh7
      have hfr : ∀ i, i < r ∨ r + 4 ≤ i → gw2 i = w2 i := fun i hi => gf4 i (by omega)
      refine hret _ _ ⟨by rw [if_pos c9]; rfl, ?_, fun q hq => (hfr q hq).trans ((hf q hq).trans (hf1 q hq))⟩
      rw [if_pos c9]
      refine ⟨_, _, _, n + 1, k0, k1, k2, k3, c9, ?_⟩
      refine (ins_rl aboveT hi (fun k hk => ?_) ?_ (fun k hk hk2 => ?_) (fun k hk hk2 => ?_) (fun k hk => ?_)).symm
      · rw [pk_un (by omega), pk_un (by omega), pk_uLn (by omega)]; exact a1 k hk
      · rw [pk_us, pk_us, pk_uLs]
      · rw [pk_un (by omega), pk_un (by omega), pk_uLn (by omega)]; exact a2 k hk hk2
      · exact decide_eq_true (a3 k hk hk2)
      · exact decide_eq_false (a4 k hk)
    have loop : ∀ (i : Nat) (w1 : Nat → va_E) (T1 Y1 : Nat → Int32) (V1 : Nat → Int64), i ≤ n → isRaw t ad w1 r cap T1 Y1 V1 n → (∀ k, k < i → (T1 k, Y1 k, V1 k) = (T k, Y k, V k)) → (∀ k, i < k → k ≤ n → (T1 k, Y1 k, V1 k) = (T (k - 1), Y (k - 1), V (k - 1))) → (∀ k, i ≤ k → k < n → time < T k) → (∀ q, q < r ∨ r + 4 ≤ q → w1 q = w q) → G l t (rD 1) P cX4_addByTime 6 RX4 (some .boolean) post 0 0 N ad 0 0 20 [(0, .ref (ad r)), (1, .int time), (2, .int key), (3, .long v), (5, .int (nI i))] [] w1 := by
      intro i
      induction i with
      | zero =>
        intro w1 T1 Y1 V1 hi hW1 a1 a2 a3 hf1
        refine G.iload 4 rfl dX4_addByTime_20 ?_
        refine G.nif_le 77 dX4_addByTime_22 rfl (by omega) (fun c22 => ?_) (fun c22 => ?_)
        · skip
          exact tail 0 w1 T1 Y1 V1 hi hW1 a1 a2 a3 (fun k hk => by omega) hf1
        · skip
          omega
      | succ i ih =>
        intro w1 T1 Y1 V1 hi hW1 a1 a2 a3 hf1
        obtain ⟨e0, e1, e2, e3, -⟩ := id hW1
        have q1 : T1 i = T i := congrArg (fun x => x.1) (a1 i (by omega))
        have q2 : Y1 i = Y i := congrArg (fun x => x.2.1) (a1 i (by omega))
        have q3 : V1 i = V i := congrArg (fun x => x.2.2) (a1 i (by omega))
        refine G.iload 4 rfl dX4_addByTime_20 ?_
        refine G.nif_le 77 dX4_addByTime_22 rfl (by omega) (fun c22 => ?_) (fun c22 => ?_)
        · skip
          omega
        · skip
          refine G.aload_n 0 rfl rfl dX4_addByTime_25 ?_
          refine G.get r (by omega) e0 rfl twX4 0 (by decide) tb_133 rfl rfl dX4_addByTime_26 ?_
          refine G.iload 4 rfl dX4_addByTime_29 ?_
          refine G.iconst (v := nI 1) dX4_addByTime_31 (by decide +kernel) ?_
          refine G.isub dX4_addByTime_32 ?_
          refine G.topi (nI i) (pk_sub (by omega)) ?_
          refine G.iald (r + 1) (by omega) e1 i (rfl) (by omega) (by omega) dX4_addByTime_33 ?_
          refine G.iload_n 1 rfl rfl dX4_addByTime_34 ?_
          refine G.icmp_le 77 dX4_addByTime_35 rfl (fun c35 => ?_) (fun c35 => ?_)
          · skip
            exact tail (i + 1) w1 T1 Y1 V1 hi hW1 a1 a2 a3 (fun k hk => by
              have : k = i := by omega
              subst this
              rw [← q1]; exact Int32.not_lt.mpr c35) hf1
          · skip
            refine G.aload_n 0 rfl rfl dX4_addByTime_38 ?_
            refine G.iload 4 rfl dX4_addByTime_39 ?_
            refine G.aload_n 0 rfl rfl dX4_addByTime_41 ?_
            refine G.get r (by omega) e0 rfl twX4 0 (by decide) tb_133 rfl rfl dX4_addByTime_42 ?_
            refine G.iload 4 rfl dX4_addByTime_45 ?_
            refine G.iconst (v := nI 1) dX4_addByTime_47 (by decide +kernel) ?_
            refine G.isub dX4_addByTime_48 ?_
            refine G.topi (nI i) (pk_sub (by omega)) ?_
            refine G.iald (r + 1) (by omega) e1 i (rfl) (by omega) (by omega) dX4_addByTime_49 ?_
            refine G.aload_n 0 rfl rfl dX4_addByTime_50 ?_
            refine G.get r (by omega) e0 rfl twX4 1 (by decide) tb_134 rfl rfl dX4_addByTime_51 ?_
            refine G.iload 4 rfl dX4_addByTime_54 ?_
            refine G.iconst (v := nI 1) dX4_addByTime_56 (by decide +kernel) ?_
            refine G.isub dX4_addByTime_57 ?_
            refine G.topi (nI i) (pk_sub (by omega)) ?_
            refine G.iald (r + 2) (by omega) e2 i (rfl) (by omega) (by omega) dX4_addByTime_58 ?_
            refine G.aload_n 0 rfl rfl dX4_addByTime_59 ?_
            refine G.get r (by omega) e0 rfl twX4 2 (by decide) tb_135 rfl rfl dX4_addByTime_60 ?_
            refine G.iload 4 rfl dX4_addByTime_63 ?_
            refine G.iconst (v := nI 1) dX4_addByTime_65 (by decide +kernel) ?_
            refine G.isub dX4_addByTime_66 ?_
            refine G.topi (nI i) (pk_sub (by omega)) ?_
            refine G.lald (r + 3) (by omega) e3 i (rfl) (by omega) (by omega) dX4_addByTime_67 ?_
            refine G.callV (n := 4) r (c_X4_put hW1 hN hc (show i + 1 < cap by omega) (T1 i) (Y1 i) (V1 i)) rfl (by omega) e0 rfl tb_361 tb_363 tb_5 tb_39 tb_364 (by decide +kernel) rfl ⟨(Nat.le_of_ble_eq_true rfl), (Nat.le_of_ble_eq_true rfl)⟩ ⟨rfl, rfl⟩ (Nat.le_of_ble_eq_true rfl) ⟨Nat.zero_le _, Nat.zero_le _⟩ dX4_addByTime_68 (fun gr8 w2 hp => ?_)
            obtain ⟨rfl, hW2, hf⟩ := hp
            refine G.iinc (v := nI i) [(5, .int (nI i)), (0, .ref (ad r)), (1, .int time), (2, .int key), (3, .long v)] 4 dX4_addByTime_71 rfl (pk_m1 _) (by decide) rfl ?_
            refine G.goto 20 dX4_addByTime_74 rfl ?_
            refine G.pick [1, 2, 3, 4, 0] [(0, .ref (ad r)), (1, .int time), (2, .int key), (3, .long v), (5, .int (nI i))] rfl ?_
            refine ih w2 _ _ _ (by omega) hW2 (fun k hk => ?_) (fun k hk hk2 => ?_) (fun k hk hk2 => ?_) (fun q hq => (hf q hq).trans (hf1 q hq))
            · rw [pk_un (by omega), pk_un (by omega), pk_uLn (by omega)]; exact a1 k (by omega)
            · by_cases hki : k = i + 1
              · subst hki
                rw [pk_us, pk_us, pk_uLs, q1, q2, q3]
                rfl
              · rw [pk_un hki, pk_un hki, pk_uLn hki]; exact a2 k (by omega) hk2
            · by_cases hki : k = i
              · subst hki
                rw [← q1]; exact Int32.not_le.mp c35
              · exact a3 k (by omega) hk2
    exact loop n w T Y V (Nat.le_refl n) hW (fun _ _ => rfl) (fun k h1 h2 => by omega) (fun k h1 h2 => by omega) (fun _ _ => rfl)
  · skip
    refine G.iconst (v := nI 0) dX4_addByTime_12 (by decide +kernel) ?_
    refine G.zret rfl (by decide) rfl rfl dX4_addByTime_13 ?_
    exact hret _ _ ⟨by rw [if_neg (by omega)]; rfl, by rw [if_neg (by omega)]; exact hW.rows, fun i _ => rfl⟩
theorem c_X4_orderAgainst (hR : isRows t ad w r cap L) (hN : r + 4 ≤ N) (hc : cap < 1000000) (i time key : Int32) :
    K l t yX4_orderAgainst cX4_orderAgainst 5 (some .int) (rD 1) N ad w [.ref (ad r), .int i, .int time, .int key]
      (fun res w' => w = w' ∧ res = some (.int (ordA (rAt L i) time key))) := by
  refine K.of (own := RX4) (lv := [(0, .ref (ad r)), (1, .int i), (2, .int time), (3, .int key)]) (by decide +kernel) rfl (Nat.le_of_ble_eq_true rfl) rfl (fun P post hret => ?_)
  refine G.aload_n 0 rfl rfl dX4_orderAgainst_0 ?_
  refine G.iload_n 1 rfl rfl dX4_orderAgainst_1 ?_
  refine G.callV (n := 1) r (c_X4_timeAt hR hN hc i) rfl (by omega) hR.obj rfl tb_533 tb_404 tb_405 tb_39 tb_406 (by decide +kernel) rfl ⟨(Nat.le_of_ble_eq_true rfl), (Nat.le_of_ble_eq_true rfl)⟩ ⟨rfl, rfl⟩ (Nat.le_of_ble_eq_true rfl) ⟨Nat.zero_le _, Nat.zero_le _⟩ dX4_orderAgainst_2 (fun gr2 gw1 hp => ?_)
  obtain ⟨rfl, rfl⟩ := hp
  refine G.iload_n 2 rfl rfl dX4_orderAgainst_5 ?_
  refine G.callS (n := 2) (c_J6_compare (rAt L i).1 time) rfl tb_538 tb_539 tb_43 tb_540 (by decide +kernel) rfl ⟨(Nat.le_of_ble_eq_true rfl), (Nat.le_of_ble_eq_true rfl)⟩ ⟨rfl, rfl⟩ (Nat.le_of_ble_eq_true rfl) ⟨Nat.zero_le _, Nat.zero_le _⟩ dX4_orderAgainst_6 (fun gr4 gw3 hp => ?_)
  obtain ⟨rfl, rfl⟩ := hp
  refine G.istore [(4, .int (cmpI (rAt L i).1 time)), (0, .ref (ad r)), (1, .int i), (2, .int time), (3, .int key)] dX4_orderAgainst_9 (by decide) rfl ?_
  refine G.iload 0 rfl dX4_orderAgainst_11 ?_
  refine G.if_eq 21 dX4_orderAgainst_13 rfl (fun c13 => ?_) (fun c13 => ?_)
  · skip
    refine G.aload_n 1 rfl rfl dX4_orderAgainst_21 ?_
    refine G.iload_n 2 rfl rfl dX4_orderAgainst_22 ?_
    refine G.callV (n := 1) r (c_X4_keyAt hR hN hc i) rfl (by omega) hR.obj rfl tb_471 tb_408 tb_409 tb_39 tb_410 (by decide +kernel) rfl ⟨(Nat.le_of_ble_eq_true rfl), (Nat.le_of_ble_eq_true rfl)⟩ ⟨rfl, rfl⟩ (Nat.le_of_ble_eq_true rfl) ⟨Nat.zero_le _, Nat.zero_le _⟩ dX4_orderAgainst_23 (fun gr6 gw5 hp => ?_)
    obtain ⟨rfl, rfl⟩ := hp
    refine G.iload_n 4 rfl rfl dX4_orderAgainst_26 ?_
    refine G.callS (n := 2) (c_J6_compare (rAt L i).2.1 key) rfl tb_538 tb_539 tb_43 tb_540 (by decide +kernel) rfl ⟨(Nat.le_of_ble_eq_true rfl), (Nat.le_of_ble_eq_true rfl)⟩ ⟨rfl, rfl⟩ (Nat.le_of_ble_eq_true rfl) ⟨Nat.zero_le _, Nat.zero_le _⟩ dX4_orderAgainst_27 (fun gr8 gw7 hp => ?_)
    obtain ⟨rfl, rfl⟩ := hp
    refine G.iret rfl rfl rfl dX4_orderAgainst_30 ?_
    exact hret _ _ ⟨rfl, by rw [ordA, if_pos c13]⟩
  · skip
    refine G.iload 0 rfl dX4_orderAgainst_16 ?_
    refine G.goto 30 dX4_orderAgainst_18 rfl ?_
    refine G.iret rfl rfl rfl dX4_orderAgainst_30 ?_
    exact hret _ _ ⟨rfl, by rw [ordA, if_neg c13]⟩
end RowsIns

