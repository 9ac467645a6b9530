/-! Pass: meet -/
section PassC
variable {l : Launch} {t : TT} {N : Nat} {ad : Nat → Nat} {w : Nat → va_E} {r r1 r2 : Nat} {L P1 Q1 : List RW}
theorem c_X3_giveMeet (hR : isRows t ad w r 200 []) (hP : isRows t ad w r1 200 P1) (hQ : isRows t ad w r2 200 Q1) (hN : r + 4 ≤ N) (hN1 : r1 + 4 ≤ N) (hN2 : r2 + 4 ≤ N) (hd1 : r + 4 ≤ r1 ∨ r1 + 4 ≤ r) (hd2 : r + 4 ≤ r2 ∨ r2 + 4 ≤ r) :
    K l t yX3_giveMeet cX3_giveMeet 5 (some .boolean) (rD 3) N ad w [.ref (ad r), .ref (ad r1), .ref (ad r2)]
      (fun res w' => ∃ L', isRows t ad w' r 200 L' ∧ res = some (.int (if (mrg P1 Q1).length ≤ 200 then 1 else 0)) ∧ ((mrg P1 Q1).length ≤ 200 → L' = mrg P1 Q1) ∧ ∀ q, q < r ∨ r + 4 ≤ q → w' q = w q) := by
  have zp := hP.le
  have zq := hQ.le
  generalize hM : mrg P1 Q1 = M
  refine K.of (own := RX3) (lv := [(0, .ref (ad r)), (1, .ref (ad r1)), (2, .ref (ad r2))]) (by decide +kernel) rfl (Nat.le_of_ble_eq_true rfl) rfl (fun P post hret => ?_)
  refine G.iconst (v := nI 0) dX3_giveMeet_0 (by decide +kernel) ?_
  refine G.istore_n [(3, .int (nI 0)), (0, .ref (ad r)), (1, .ref (ad r1)), (2, .ref (ad r2))] dX3_giveMeet_1 rfl (by decide) rfl ?_
  refine G.iconst (v := nI 0) dX3_giveMeet_2 (by decide +kernel) ?_
  refine G.istore [(4, .int (nI 0)), (3, .int (nI 0)), (0, .ref (ad r)), (1, .ref (ad r1)), (2, .ref (ad r2))] dX3_giveMeet_3 (by decide) rfl ?_
  refine G.pick [2, 3, 4, 1, 0] [(0, .ref (ad r)), (1, .ref (ad r1)), (2, .ref (ad r2)), (3, .int (nI 0)), (4, .int (nI 0))] rfl ?_
  have fin : ∀ (m j : Nat) (zw : Nat → va_E) (L : List RW), j + m = Q1.length → isRows t ad zw r 200 L → L ++ Q1.drop j = M → (∀ q, q < r ∨ r + 4 ≤ q → zw q = w q) → G l t (rD 3) P cX3_giveMeet 5 RX3 (some .boolean) post 0 0 N ad 0 0 74 [(0, .ref (ad r)), (1, .ref (ad r1)), (2, .ref (ad r2)), (4, .int (nI j))] [] zw := by
    intro m
    induction m with
    | zero =>
      intro j zw L hj hR1 hL hf1
      have hQ1 : isRows t ad zw r2 200 Q1 := hQ.keep (fun q q1 q2 => hf1 q (by omega))
      rw [List.drop_of_length_le (by omega), List.append_nil] at hL
      have zle := hR1.le
      refine G.iload 3 rfl dX3_giveMeet_74 ?_
      refine G.aload_n 2 rfl rfl dX3_giveMeet_76 ?_
      refine G.callV (n := 0) r2 (c_X4_size hQ1 hN2) rfl (by omega) hQ1.obj rfl tb_376 tb_377 tb_378 tb_39 tb_379 (by decide +kernel) rfl ⟨(Nat.le_of_ble_eq_true rfl), (Nat.le_of_ble_eq_true rfl)⟩ ⟨rfl, rfl⟩ (Nat.le_of_ble_eq_true rfl) ⟨Nat.zero_le _, Nat.zero_le _⟩ dX3_giveMeet_77 (fun gr2 gw1 hp => ?_)
      obtain ⟨rfl, rfl⟩ := hp
      refine G.ncmp_ge 101 dX3_giveMeet_80 rfl (by omega) (by omega) (fun c80 => ?_) (fun c80 => ?_)
      · skip
        refine G.iconst (v := nI 1) dX3_giveMeet_101 (by decide +kernel) ?_
        refine G.zret rfl (by decide) rfl rfl dX3_giveMeet_102 ?_
        exact hret _ _ ⟨L, hR1, by rw [if_pos (by rw [← hL]; exact zle)]; rfl, fun _ => hL, hf1⟩
      · skip
        omega
    | succ m ih =>
      intro j zw L hj hR1 hL hf1
      have hQ1 : isRows t ad zw r2 200 Q1 := hQ.keep (fun q q1 q2 => hf1 q (by omega))
      have zle := hR1.le
      rw [drop_cons (by omega)] at hL
      have zlen := congrArg List.length hL
      simp only [List.length_append, List.length_cons] at zlen
      refine G.iload 3 rfl dX3_giveMeet_74 ?_
      refine G.aload_n 2 rfl rfl dX3_giveMeet_76 ?_
      refine G.callV (n := 0) r2 (c_X4_size hQ1 hN2) rfl (by omega) hQ1.obj rfl tb_376 tb_377 tb_378 tb_39 tb_379 (by decide +kernel) rfl ⟨(Nat.le_of_ble_eq_true rfl), (Nat.le_of_ble_eq_true rfl)⟩ ⟨rfl, rfl⟩ (Nat.le_of_ble_eq_true rfl) ⟨Nat.zero_le _, Nat.zero_le _⟩ dX3_giveMeet_77 (fun gr4 gw3 hp => ?_)
      obtain ⟨rfl, rfl⟩ := hp
      refine G.ncmp_ge 101 dX3_giveMeet_80 rfl (by omega) (by omega) (fun c80 => ?_) (fun c80 => ?_)
      · skip
        omega
      · skip
        refine G.aload_n 0 rfl rfl dX3_giveMeet_83 ?_
        refine G.aload_n 2 rfl rfl dX3_giveMeet_84 ?_
        refine G.iload 3 rfl dX3_giveMeet_85 ?_
        refine G.callS (n := 3) (c_X3_giveAgain hR1 hQ1 hN hN2 (by decide) (by decide) (show j < 1000000 by omega)) rfl tb_461 tb_462 tb_36 tb_463 (by decide +kernel) rfl ⟨(Nat.le_of_ble_eq_true rfl), (Nat.le_of_ble_eq_true rfl)⟩ ⟨rfl, rfl⟩ (Nat.le_of_ble_eq_true rfl) ⟨Nat.zero_le _, Nat.zero_le _⟩ dX3_giveMeet_87 (fun gr5 zw2 hp => ?_)
        obtain ⟨rfl, hR2, hf2⟩ := hp
        by_cases zc : L.length < 200
        · skip
          rw [if_pos zc] at hR2 ⊢
          refine G.if_ne 95 dX3_giveMeet_90 rfl (fun c90 => ?_) (fun c90 => ?_)
          · skip
            refine G.iinc (v := nI (j + 1)) [(4, .int (nI (j + 1))), (0, .ref (ad r)), (1, .ref (ad r1)), (2, .ref (ad r2))] 3 dX3_giveMeet_95 rfl (nI_add j 1) (by decide) rfl ?_
            refine G.goto 74 dX3_giveMeet_98 rfl ?_
            refine G.pick [1, 2, 3, 0] [(0, .ref (ad r)), (1, .ref (ad r1)), (2, .ref (ad r2)), (4, .int (nI (j + 1)))] rfl ?_
            exact ih (j + 1) zw2 _ (by omega) hR2 (by rw [List.append_assoc]; exact hL) (fun q hq => (hf2 q hq).trans (hf1 q hq))
          · skip
            exact absurd c90 (by decide)
        · skip
          rw [if_neg zc] at hR2 ⊢
          refine G.if_ne 95 dX3_giveMeet_90 rfl (fun c90 => ?_) (fun c90 => ?_)
          · skip
            exact absurd rfl c90
          · skip
            refine G.iconst (v := nI 0) dX3_giveMeet_93 (by decide +kernel) ?_
            refine G.zret rfl (by decide) rfl rfl dX3_giveMeet_94 ?_
            exact hret _ _ ⟨L, hR2, by rw [if_neg (by omega)]; rfl, fun q => by omega, fun q hq => (hf2 q hq).trans (hf1 q hq)⟩
  have outer : ∀ (m i j : Nat) (zw : Nat → va_E) (L : List RW), i + m = P1.length → j ≤ Q1.length → isRows t ad zw r 200 L → L ++ mrg (P1.drop i) (Q1.drop j) = M → (∀ q, q < r ∨ r + 4 ≤ q → zw q = w q) → G l t (rD 3) P cX3_giveMeet 5 RX3 (some .boolean) post 0 0 N ad 0 0 5 [(0, .ref (ad r)), (1, .ref (ad r1)), (2, .ref (ad r2)), (3, .int (nI j)), (4, .int (nI i))] [] zw := by
    intro m
    induction m with
    | zero =>
      intro i j zw L hi hj hR1 hL hf1
      have hP1 : isRows t ad zw r1 200 P1 := hP.keep (fun q q1 q2 => hf1 q (by omega))
      rw [List.drop_of_length_le (show P1.length ≤ i by omega), mrg] at hL
      refine G.iload 4 rfl dX3_giveMeet_5 ?_
      refine G.aload_n 1 rfl rfl dX3_giveMeet_7 ?_
      refine G.callV (n := 0) r1 (c_X4_size hP1 hN1) rfl (by omega) hP1.obj rfl tb_376 tb_377 tb_378 tb_39 tb_379 (by decide +kernel) rfl ⟨(Nat.le_of_ble_eq_true rfl), (Nat.le_of_ble_eq_true rfl)⟩ ⟨rfl, rfl⟩ (Nat.le_of_ble_eq_true rfl) ⟨Nat.zero_le _, Nat.zero_le _⟩ dX3_giveMeet_8 (fun gr7 gw6 hp => ?_)
      obtain ⟨rfl, rfl⟩ := hp
      refine G.ncmp_ge 71 dX3_giveMeet_11 rfl (by omega) (by omega) (fun c11 => ?_) (fun c11 => ?_)
      · skip
        refine G.iload_n 3 rfl rfl dX3_giveMeet_71 ?_
        refine G.istore [(4, .int (nI j)), (0, .ref (ad r)), (1, .ref (ad r1)), (2, .ref (ad r2)), (3, .int (nI j))] dX3_giveMeet_72 (by decide) rfl ?_
        refine G.pick [1, 2, 3, 0] [(0, .ref (ad r)), (1, .ref (ad r1)), (2, .ref (ad r2)), (4, .int (nI j))] rfl ?_
        exact fin (Q1.length - j) j zw L (by omega) hR1 hL hf1
      · skip
        omega
    | succ m ih =>
      intro i j zw L hi hj hR1 hL hf1
      have zri : rAt P1 (nI i) = P1.getD i r0 := rAt_n _ (by omega)
      have t53 : ∀ (j : Nat) (zw : Nat → va_E) (L : List RW), j ≤ Q1.length → isRows t ad zw r 200 L → L ++ mrg (P1.drop i) (Q1.drop j) = M → (∀ q, q < r ∨ r + 4 ≤ q → zw q = w q) → (j < Q1.length → ¬ (Q1.getD j r0).1 < (P1.getD i r0).1) → G l t (rD 3) P cX3_giveMeet 5 RX3 (some .boolean) post 0 0 N ad 0 0 53 [(0, .ref (ad r)), (1, .ref (ad r1)), (2, .ref (ad r2)), (3, .int (nI j)), (4, .int (nI i))] [] zw := by
        intro j zw L hj hR1 hL hf1 hno
        have hP1 : isRows t ad zw r1 200 P1 := hP.keep (fun q q1 q2 => hf1 q (by omega))
        have zle := hR1.le
        have zL : L ++ P1.getD i r0 :: mrg (P1.drop (i + 1)) (Q1.drop j) = M := by
          rw [← hL, drop_cons (show i < P1.length by omega)]
          congr 1
          by_cases q : j < Q1.length
          · rw [drop_cons q, mrg, if_neg (hno q)]
          · rw [List.drop_of_length_le (show Q1.length ≤ j by omega), mrg_nil, mrg]
        have zlen := congrArg List.length zL
        simp only [List.length_append, List.length_cons] at zlen
        refine G.aload_n 0 rfl rfl dX3_giveMeet_53 ?_
        refine G.aload_n 1 rfl rfl dX3_giveMeet_54 ?_
        refine G.iload 4 rfl dX3_giveMeet_55 ?_
        refine G.callS (n := 3) (c_X3_giveAgain hR1 hP1 hN hN1 (by decide) (by decide) (show i < 1000000 by omega)) rfl tb_461 tb_462 tb_36 tb_463 (by decide +kernel) rfl ⟨(Nat.le_of_ble_eq_true rfl), (Nat.le_of_ble_eq_true rfl)⟩ ⟨rfl, rfl⟩ (Nat.le_of_ble_eq_true rfl) ⟨Nat.zero_le _, Nat.zero_le _⟩ dX3_giveMeet_57 (fun gr8 zw2 hp => ?_)
        obtain ⟨rfl, hR2, hf2⟩ := hp
        by_cases zc : L.length < 200
        · skip
          rw [if_pos zc] at hR2 ⊢
          refine G.if_ne 65 dX3_giveMeet_60 rfl (fun c60 => ?_) (fun c60 => ?_)
          · skip
            refine G.iinc (v := nI (i + 1)) [(4, .int (nI (i + 1))), (0, .ref (ad r)), (1, .ref (ad r1)), (2, .ref (ad r2)), (3, .int (nI j))] 4 dX3_giveMeet_65 rfl (nI_add i 1) (by decide) rfl ?_
            refine G.goto 5 dX3_giveMeet_68 rfl ?_
            refine G.pick [1, 2, 3, 4, 0] [(0, .ref (ad r)), (1, .ref (ad r1)), (2, .ref (ad r2)), (3, .int (nI j)), (4, .int (nI (i + 1)))] rfl ?_
            exact ih (i + 1) j zw2 _ (by omega) hj hR2 (by rw [List.append_assoc]; exact zL) (fun q hq => (hf2 q hq).trans (hf1 q hq))
          · skip
            exact absurd c60 (by decide)
        · skip
          rw [if_neg zc] at hR2 ⊢
          refine G.if_ne 65 dX3_giveMeet_60 rfl (fun c60 => ?_) (fun c60 => ?_)
          · skip
            exact absurd rfl c60
          · skip
            refine G.iconst (v := nI 0) dX3_giveMeet_63 (by decide +kernel) ?_
            refine G.zret rfl (by decide) rfl rfl dX3_giveMeet_64 ?_
            exact hret _ _ ⟨L, hR2, by rw [if_neg (by omega)]; rfl, fun q => by omega, fun q hq => (hf2 q hq).trans (hf1 q hq)⟩
      have inner : ∀ (m2 j : Nat) (zw : Nat → va_E) (L : List RW), j + m2 = Q1.length → isRows t ad zw r 200 L → L ++ mrg (P1.drop i) (Q1.drop j) = M → (∀ q, q < r ∨ r + 4 ≤ q → zw q = w q) → G l t (rD 3) P cX3_giveMeet 5 RX3 (some .boolean) post 0 0 N ad 0 0 14 [(0, .ref (ad r)), (1, .ref (ad r1)), (2, .ref (ad r2)), (3, .int (nI j)), (4, .int (nI i))] [] zw := by
        intro m2
        induction m2 with
        | zero =>
          intro j zw L hj hR1 hL hf1
          have hQ1 : isRows t ad zw r2 200 Q1 := hQ.keep (fun q q1 q2 => hf1 q (by omega))
          refine G.iload_n 3 rfl rfl dX3_giveMeet_14 ?_
          refine G.aload_n 2 rfl rfl dX3_giveMeet_15 ?_
          refine G.callV (n := 0) r2 (c_X4_size hQ1 hN2) rfl (by omega) hQ1.obj rfl tb_376 tb_377 tb_378 tb_39 tb_379 (by decide +kernel) rfl ⟨(Nat.le_of_ble_eq_true rfl), (Nat.le_of_ble_eq_true rfl)⟩ ⟨rfl, rfl⟩ (Nat.le_of_ble_eq_true rfl) ⟨Nat.zero_le _, Nat.zero_le _⟩ dX3_giveMeet_16 (fun gr10 gw9 hp => ?_)
          obtain ⟨rfl, rfl⟩ := hp
          refine G.ncmp_ge 53 dX3_giveMeet_19 rfl (by omega) (by omega) (fun c19 => ?_) (fun c19 => ?_)
          · skip
            exact t53 j zw L (by omega) hR1 hL hf1 (fun q => by omega)
          · skip
            omega
        | succ m2 ih2 =>
          intro j zw L hj hR1 hL hf1
          have hP1 : isRows t ad zw r1 200 P1 := hP.keep (fun q q1 q2 => hf1 q (by omega))
          have hQ1 : isRows t ad zw r2 200 Q1 := hQ.keep (fun q q1 q2 => hf1 q (by omega))
          have zrj : rAt Q1 (nI j) = Q1.getD j r0 := rAt_n _ (by omega)
          have zle := hR1.le
          refine G.iload_n 3 rfl rfl dX3_giveMeet_14 ?_
          refine G.aload_n 2 rfl rfl dX3_giveMeet_15 ?_
          refine G.callV (n := 0) r2 (c_X4_size hQ1 hN2) rfl (by omega) hQ1.obj rfl tb_376 tb_377 tb_378 tb_39 tb_379 (by decide +kernel) rfl ⟨(Nat.le_of_ble_eq_true rfl), (Nat.le_of_ble_eq_true rfl)⟩ ⟨rfl, rfl⟩ (Nat.le_of_ble_eq_true rfl) ⟨Nat.zero_le _, Nat.zero_le _⟩ dX3_giveMeet_16 (fun gr12 gw11 hp => ?_)
          obtain ⟨rfl, rfl⟩ := hp
          refine G.ncmp_ge 53 dX3_giveMeet_19 rfl (by omega) (by omega) (fun c19 => ?_) (fun c19 => ?_)
          · skip
            omega
          · skip
            refine G.aload_n 2 rfl rfl dX3_giveMeet_22 ?_
            refine G.iload_n 3 rfl rfl dX3_giveMeet_23 ?_
            refine G.callV (n := 1) r2 (c_X4_timeAt hQ1 hN2 (by decide) (nI j)) rfl (by omega) hQ1.obj rfl tb_403 tb_404 tb_405 tb_39 tb_406 (by decide +kernel) rfl ⟨(Nat.le_of_ble_eq_true rfl), (Nat.le_of_ble_eq_true rfl)⟩ ⟨rfl, rfl⟩ (Nat.le_of_ble_eq_true rfl) ⟨Nat.zero_le _, Nat.zero_le _⟩ dX3_giveMeet_24 (fun gr14 gw13 hp => ?_)
            obtain ⟨rfl, rfl⟩ := hp
            refine G.aload_n 1 rfl rfl dX3_giveMeet_27 ?_
            refine G.iload 4 rfl dX3_giveMeet_28 ?_
            refine G.callV (n := 1) r1 (c_X4_timeAt hP1 hN1 (by decide) (nI i)) rfl (by omega) hP1.obj rfl tb_403 tb_404 tb_405 tb_39 tb_406 (by decide +kernel) rfl ⟨(Nat.le_of_ble_eq_true rfl), (Nat.le_of_ble_eq_true rfl)⟩ ⟨rfl, rfl⟩ (Nat.le_of_ble_eq_true rfl) ⟨Nat.zero_le _, Nat.zero_le _⟩ dX3_giveMeet_30 (fun gr16 gw15 hp => ?_)
            obtain ⟨rfl, rfl⟩ := hp
            refine G.icmp_ge 53 dX3_giveMeet_33 rfl (fun c33 => ?_) (fun c33 => ?_)
            · skip
              rw [zri, zrj] at c33
              exact t53 j zw L (by omega) hR1 hL hf1 (fun _ q => absurd c33 (Int32.not_le.mpr q))
            · skip
              rw [zri, zrj] at c33
              have zL : L ++ Q1.getD j r0 :: mrg (P1.drop i) (Q1.drop (j + 1)) = M := by
                rw [← hL, drop_cons (show i < P1.length by omega), drop_cons (show j < Q1.length by omega)]
                congr 1
                rw [mrg, if_pos (Int32.not_le.mp c33)]
              have zlen := congrArg List.length zL
              simp only [List.length_append, List.length_cons] at zlen
              refine G.aload_n 0 rfl rfl dX3_giveMeet_36 ?_
              refine G.aload_n 2 rfl rfl dX3_giveMeet_37 ?_
              refine G.iload_n 3 rfl rfl dX3_giveMeet_38 ?_
              refine G.callS (n := 3) (c_X3_giveAgain hR1 hQ1 hN hN2 (by decide) (by decide) (show j < 1000000 by omega)) rfl tb_461 tb_462 tb_36 tb_463 (by decide +kernel) rfl ⟨(Nat.le_of_ble_eq_true rfl), (Nat.le_of_ble_eq_true rfl)⟩ ⟨rfl, rfl⟩ (Nat.le_of_ble_eq_true rfl) ⟨Nat.zero_le _, Nat.zero_le _⟩ dX3_giveMeet_39 (fun gr17 zw2 hp => ?_)
              obtain ⟨rfl, hR2, hf2⟩ := hp
              by_cases zc : L.length < 200
              · skip
                rw [if_pos zc] at hR2 ⊢
                refine G.if_ne 47 dX3_giveMeet_42 rfl (fun c42 => ?_) (fun c42 => ?_)
                · skip
                  refine G.iinc (v := nI (j + 1)) [(3, .int (nI (j + 1))), (0, .ref (ad r)), (1, .ref (ad r1)), (2, .ref (ad r2)), (4, .int (nI i))] 3 dX3_giveMeet_47 rfl (nI_add j 1) (by decide) rfl ?_
                  refine G.goto 14 dX3_giveMeet_50 rfl ?_
                  refine G.pick [1, 2, 3, 0, 4] [(0, .ref (ad r)), (1, .ref (ad r1)), (2, .ref (ad r2)), (3, .int (nI (j + 1))), (4, .int (nI i))] rfl ?_
                  exact ih2 (j + 1) zw2 _ (by omega) hR2 (by rw [List.append_assoc]; exact zL) (fun q hq => (hf2 q hq).trans (hf1 q hq))
                · skip
                  exact absurd c42 (by decide)
              · skip
                rw [if_neg zc] at hR2 ⊢
                refine G.if_ne 47 dX3_giveMeet_42 rfl (fun c42 => ?_) (fun c42 => ?_)
                · skip
                  exact absurd rfl c42
                · skip
                  refine G.iconst (v := nI 0) dX3_giveMeet_45 (by decide +kernel) ?_
                  refine G.zret rfl (by decide) rfl rfl dX3_giveMeet_46 ?_
                  exact hret _ _ ⟨L, hR2, by rw [if_neg (by omega)]; rfl, fun q => by omega, fun q hq => (hf2 q hq).trans (hf1 q hq)⟩
      have hP1 : isRows t ad zw r1 200 P1 := hP.keep (fun q q1 q2 => hf1 q (by omega))
      refine G.iload 4 rfl dX3_giveMeet_5 ?_
      refine G.aload_n 1 rfl rfl dX3_giveMeet_7 ?_
      refine G.callV (n := 0) r1 (c_X4_size hP1 hN1) rfl (by omega) hP1.obj rfl tb_376 tb_377 tb_378 tb_39 tb_379 (by decide +kernel) rfl ⟨(Nat.le_of_ble_eq_true rfl), (Nat.le_of_ble_eq_true rfl)⟩ ⟨rfl, rfl⟩ (Nat.le_of_ble_eq_true rfl) ⟨Nat.zero_le _, Nat.zero_le _⟩ dX3_giveMeet_8 (fun gr19 gw18 hp => ?_)
      obtain ⟨rfl, rfl⟩ := hp
      refine G.ncmp_ge 71 dX3_giveMeet_11 rfl (by omega) (by omega) (fun c11 => ?_) (fun c11 => ?_)
      · skip
        omega
      · skip
        exact inner (Q1.length - j) j zw L (by omega) hR1 hL hf1
  exact outer P1.length 0 0 w [] (by omega) (by omega) hR (by simpa using hM) (fun _ _ => rfl)
end PassC

