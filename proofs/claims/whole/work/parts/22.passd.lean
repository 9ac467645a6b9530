/-! Pass: join, spans -/
section PassD
variable {l : Launch} {t : TT} {N : Nat} {ad : Nat → Nat} {w : Nat → va_E} {r r1 r2 : Nat} {L P1 Q1 : List RW}
set_option maxHeartbeats 1000000 in
theorem c_X3_giveJoin (hR : isRows t ad w r 200 []) (hP : isRows t ad w r1 200 P1) (hQ : isRows t ad w r2 200 Q1) (hN : r + 4 ≤ N) (hN1 : r1 + 4 ≤ N) (hN2 : r2 + 4 ≤ N) (hd1 : r + 4 ≤ r1 ∨ r1 + 4 ≤ r) (hd2 : r + 4 ≤ r2 ∨ r2 + 4 ≤ r) {W : Nat} (hW : W ≤ 1000) (okP : ∀ i, i < P1.length → okR (P1.getD i r0)) (okQ : ∀ i, i < Q1.length → okR (Q1.getD i r0)) (aP : asc P1) (aQ : asc Q1) :
    K l t yX3_giveJoin cX3_giveJoin 9 (some .boolean) (rD 3) N ad w [.ref (ad r), .ref (ad r1), .ref (ad r2), .int (nI W)]
      (fun res w' => ∃ L', isRows t ad w' r 200 L' ∧ res = some (.int (if (jn P1 Q1 W).length ≤ 200 then 1 else 0)) ∧ ((jn P1 Q1 W).length ≤ 200 → L' = srt aboveT (jn P1 Q1 W)) ∧ ∀ q, q < r ∨ r + 4 ≤ q → w' q = w q) := by
  have zp := hP.le
  have zq := hQ.le
  refine K.of (own := RX3) (lv := [(0, .ref (ad r)), (1, .ref (ad r1)), (2, .ref (ad r2)), (3, .int (nI W))]) (by decide +kernel) rfl (Nat.le_of_ble_eq_true rfl) rfl (fun P post hret => ?_)
  refine G.iconst (v := nI 0) dX3_giveJoin_0 (by decide +kernel) ?_
  refine G.istore [(4, .int (nI 0)), (0, .ref (ad r)), (1, .ref (ad r1)), (2, .ref (ad r2)), (3, .int (nI W))] dX3_giveJoin_1 (by decide) rfl ?_
  refine G.iconst (v := nI 0) dX3_giveJoin_3 (by decide +kernel) ?_
  refine G.istore [(5, .int (nI 0)), (4, .int (nI 0)), (0, .ref (ad r)), (1, .ref (ad r1)), (2, .ref (ad r2)), (3, .int (nI W))] dX3_giveJoin_4 (by decide) rfl ?_
  refine G.pick [2, 3, 4, 5, 1, 0] [(0, .ref (ad r)), (1, .ref (ad r1)), (2, .ref (ad r2)), (3, .int (nI W)), (4, .int (nI 0)), (5, .int (nI 0))] rfl ?_
  have outer : ∀ (m i nr : Nat) (zw : Nat → va_E), i + m = P1.length → nr ≤ Q1.length → isRows t ad zw r 200 (srt aboveT (jn (P1.take i) Q1 W)) → (∀ k, k < nr → ∀ i', i ≤ i' → i' < P1.length → tN (Q1.getD k r0) + W < tN (P1.getD i' r0)) → (∀ q, q < r ∨ r + 4 ≤ q → zw q = w q) → G l t (rD 3) P cX3_giveJoin 9 RX3 (some .boolean) post 0 0 N ad 0 0 6 [(0, .ref (ad r)), (1, .ref (ad r1)), (2, .ref (ad r2)), (3, .int (nI W)), (4, .int (nI nr)), (5, .int (nI i))] [] zw := by
    intro m
    induction m with
    | zero =>
      intro i nr zw hi hnr hR1 hno hf1
      have hP1 : isRows t ad zw r1 200 P1 := hP.keep (fun q q1 q2 => hf1 q (by omega))
      have zle := hR1.le
      rw [List.take_of_length_le (by omega)] at hR1 zle
      rw [srt_len] at zle
      refine G.iload 5 rfl dX3_giveJoin_6 ?_
      refine G.aload_n 1 rfl rfl dX3_giveJoin_8 ?_
      refine G.callV (n := 0) r1 (c_X4_size hP1 hN1) rfl (by omega) hP1.obj rfl tb_376 tb_377 tb_378 tb_39 tb_379 (by decide +kernel) rfl ⟨(Nat.le_of_ble_eq_true rfl), (Nat.le_of_ble_eq_true rfl)⟩ ⟨rfl, rfl⟩ (Nat.le_of_ble_eq_true rfl) ⟨Nat.zero_le _, Nat.zero_le _⟩ dX3_giveJoin_9 (fun gr2 gw1 hp => ?_)
      obtain ⟨rfl, rfl⟩ := hp
      refine G.ncmp_ge 123 dX3_giveJoin_12 rfl (by omega) (by omega) (fun c12 => ?_) (fun c12 => ?_)
      · skip
        refine G.iconst (v := nI 1) dX3_giveJoin_123 (by decide +kernel) ?_
        refine G.zret rfl (by decide) rfl rfl dX3_giveJoin_124 ?_
        exact hret _ _ ⟨_, hR1, by rw [if_pos zle]; rfl, fun _ => rfl, hf1⟩
      · skip
        omega
    | succ m ih =>
      intro i nr zw hi hnr hR1 hno hf1
      have zri : rAt P1 (nI i) = P1.getD i r0 := rAt_n _ (by omega)
      obtain ⟨p1, p2, p3, p4⟩ := okR_n (okP i (by omega))
      generalize hpa : P1.getD i r0 = pa at zri p1 p2 p3 p4
      have hP0 : isRows t ad zw r1 200 P1 := hP.keep (fun q q1 q2 => hf1 q (by omega))
      have zlo : ∀ j, j < Q1.length → (pa.1 - nI W ≤ (Q1.getD j r0).1 ↔ tN pa ≤ tN (Q1.getD j r0) + W) := fun j hj => by
        obtain ⟨q1, q2, q3, q4⟩ := okR_n (okQ j hj)
        rw [p1, q1]; exact jlo p2 q2 hW
      have zhi : ∀ j, j < Q1.length → ((Q1.getD j r0).1 ≤ pa.1 + nI W ↔ tN (Q1.getD j r0) ≤ tN pa + W) := fun j hj => by
        obtain ⟨q1, q2, q3, q4⟩ := okR_n (okQ j hj)
        rw [p1, q1]; exact jhi p2 q2 hW
      have inner2 : ∀ (nr2 : Nat), nr2 ≤ Q1.length → (∀ k, k < nr2 → ∀ i', i ≤ i' → i' < P1.length → tN (Q1.getD k r0) + W < tN (P1.getD i' r0)) → (∀ k, nr2 ≤ k → k < Q1.length → tN pa ≤ tN (Q1.getD k r0) + W) → ∀ (m2 j : Nat) (zw : Nat → va_E), j + m2 = Q1.length → nr2 ≤ j → isRows t ad zw r 200 (srt aboveT (jn (P1.take i) Q1 W ++ jRow W pa (Q1.take j))) → (∀ q, q < r ∨ r + 4 ≤ q → zw q = w q) → G l t (rD 3) P cX3_giveJoin 9 RX3 (some .boolean) post 0 0 N ad 0 0 63 [(0, .ref (ad r)), (1, .ref (ad r1)), (2, .ref (ad r2)), (3, .int (nI W)), (4, .int (nI nr2)), (5, .int (nI i)), (6, .int pa.1), (7, .int pa.2.1), (8, .int (nI j))] [] zw := by
        intro nr2 hnr hno hlo
        have next : ∀ zw : Nat → va_E, isRows t ad zw r 200 (srt aboveT (jn (P1.take i) Q1 W ++ jRow W pa Q1)) → (∀ q, q < r ∨ r + 4 ≤ q → zw q = w q) → G l t (rD 3) P cX3_giveJoin 9 RX3 (some .boolean) post 0 0 N ad 0 0 117 [(0, .ref (ad r)), (1, .ref (ad r1)), (2, .ref (ad r2)), (3, .int (nI W)), (4, .int (nI nr2)), (5, .int (nI i))] [] zw := by
          intro zw hR1 hf1
          refine G.iinc (v := nI (i + 1)) [(5, .int (nI (i + 1))), (0, .ref (ad r)), (1, .ref (ad r1)), (2, .ref (ad r2)), (3, .int (nI W)), (4, .int (nI nr2))] 5 dX3_giveJoin_117 rfl (nI_add i 1) (by decide) rfl ?_
          refine G.goto 6 dX3_giveJoin_120 rfl ?_
          refine G.pick [1, 2, 3, 4, 5, 0] [(0, .ref (ad r)), (1, .ref (ad r1)), (2, .ref (ad r2)), (3, .int (nI W)), (4, .int (nI nr2)), (5, .int (nI (i + 1)))] rfl ?_
          refine ih (i + 1) nr2 zw (by omega) hnr ?_ (fun k hk i' h1 h2 => hno k hk i' (by omega) h2) hf1
          rw [jn_succ (by omega), hpa]
          exact hR1
        intro m2
        induction m2 with
        | zero =>
          intro j zw hj hnj hR1 hf1
          have hQ1 : isRows t ad zw r2 200 Q1 := hQ.keep (fun q q1 q2 => hf1 q (by omega))
          rw [List.take_of_length_le (show Q1.length ≤ j by omega)] at hR1
          refine G.iload 8 rfl dX3_giveJoin_63 ?_
          refine G.aload_n 2 rfl rfl dX3_giveJoin_65 ?_
          refine G.callV (n := 0) r2 (c_X4_size hQ1 hN2) rfl (by omega) hQ1.obj rfl tb_376 tb_377 tb_378 tb_39 tb_379 (by decide +kernel) rfl ⟨(Nat.le_of_ble_eq_true rfl), (Nat.le_of_ble_eq_true rfl)⟩ ⟨rfl, rfl⟩ (Nat.le_of_ble_eq_true rfl) ⟨Nat.zero_le _, Nat.zero_le _⟩ dX3_giveJoin_66 (fun gr4 gw3 hp => ?_)
          obtain ⟨rfl, rfl⟩ := hp
          refine G.ncmp_ge 117 dX3_giveJoin_69 rfl (by omega) (by omega) (fun c69 => ?_) (fun c69 => ?_)
          · skip
            refine G.pick [0, 1, 2, 3, 4, 5] [(0, .ref (ad r)), (1, .ref (ad r1)), (2, .ref (ad r2)), (3, .int (nI W)), (4, .int (nI nr2)), (5, .int (nI i))] rfl ?_
            exact next zw hR1 hf1
          · skip
            omega
        | succ m2 ih2 =>
          intro j zw hj hnj hR1 hf1
          have hP1 : isRows t ad zw r1 200 P1 := hP.keep (fun q q1 q2 => hf1 q (by omega))
          have hQ1 : isRows t ad zw r2 200 Q1 := hQ.keep (fun q q1 q2 => hf1 q (by omega))
          have zrj : rAt Q1 (nI j) = Q1.getD j r0 := rAt_n _ (by omega)
          have zsu := jRow_succ (W := W) (a := pa) (show j < Q1.length by omega)
          have zl1 := (zlo j (by omega)).mpr (hlo j hnj (by omega))
          have zlen := hR1.le
          rw [srt_len] at zlen
          refine G.iload 8 rfl dX3_giveJoin_63 ?_
          refine G.aload_n 2 rfl rfl dX3_giveJoin_65 ?_
          refine G.callV (n := 0) r2 (c_X4_size hQ1 hN2) rfl (by omega) hQ1.obj rfl tb_376 tb_377 tb_378 tb_39 tb_379 (by decide +kernel) rfl ⟨(Nat.le_of_ble_eq_true rfl), (Nat.le_of_ble_eq_true rfl)⟩ ⟨rfl, rfl⟩ (Nat.le_of_ble_eq_true rfl) ⟨Nat.zero_le _, Nat.zero_le _⟩ dX3_giveJoin_66 (fun gr6 gw5 hp => ?_)
          obtain ⟨rfl, rfl⟩ := hp
          refine G.ncmp_ge 117 dX3_giveJoin_69 rfl (by omega) (by omega) (fun c69 => ?_) (fun c69 => ?_)
          · skip
            omega
          · skip
            refine G.aload_n 2 rfl rfl dX3_giveJoin_72 ?_
            refine G.iload 8 rfl dX3_giveJoin_73 ?_
            refine G.callV (n := 1) r2 (c_X4_timeAt hQ1 hN2 (by decide) (nI j)) rfl (by omega) hQ1.obj rfl tb_403 tb_404 tb_405 tb_39 tb_406 (by decide +kernel) rfl ⟨(Nat.le_of_ble_eq_true rfl), (Nat.le_of_ble_eq_true rfl)⟩ ⟨rfl, rfl⟩ (Nat.le_of_ble_eq_true rfl) ⟨Nat.zero_le _, Nat.zero_le _⟩ dX3_giveJoin_75 (fun gr8 gw7 hp => ?_)
            obtain ⟨rfl, rfl⟩ := hp
            refine G.iload 6 rfl dX3_giveJoin_78 ?_
            refine G.iload_n 3 rfl rfl dX3_giveJoin_80 ?_
            refine G.iadd dX3_giveJoin_81 ?_
            refine G.icmp_gt 117 dX3_giveJoin_82 rfl (fun c82 => ?_) (fun c82 => ?_)
            · skip
              refine G.pick [0, 1, 2, 3, 4, 5] [(0, .ref (ad r)), (1, .ref (ad r1)), (2, .ref (ad r2)), (3, .int (nI W)), (4, .int (nI nr2)), (5, .int (nI i))] rfl ?_
              rw [zrj] at c82
              have zgt : tN pa + W < tN (Q1.getD j r0) := Nat.not_le.mp (fun q => absurd ((zhi j (by omega)).mpr q) (Int32.not_le.mpr c82))
              refine next zw ?_ hf1
              rw [jRow_cut (j := j) (fun k k1 k2 => ?_)]
              · exact hR1
              · have hk : tN (Q1.getD j r0) ≤ tN (Q1.getD k r0) := by
                  rcases Nat.lt_or_ge j k with q | q
                  · exact aQ j k q k2
                  · rw [show k = j by omega]; exact Nat.le_refl _
                unfold jMat
                rw [decide_eq_false (p := (Q1.getD k r0).1 ≤ pa.1 + nI W) (by rw [zhi k k2]; omega)]
                simp
            · skip
              rw [zrj] at c82
              have zle2 : (Q1.getD j r0).1 ≤ pa.1 + nI W := Int32.not_lt.mp c82
              refine G.aload_n 2 rfl rfl dX3_giveJoin_85 ?_
              refine G.iload 8 rfl dX3_giveJoin_86 ?_
              refine G.callV (n := 1) r2 (c_X4_keyAt hQ1 hN2 (by decide) (nI j)) rfl (by omega) hQ1.obj rfl tb_407 tb_408 tb_409 tb_39 tb_410 (by decide +kernel) rfl ⟨(Nat.le_of_ble_eq_true rfl), (Nat.le_of_ble_eq_true rfl)⟩ ⟨rfl, rfl⟩ (Nat.le_of_ble_eq_true rfl) ⟨Nat.zero_le _, Nat.zero_le _⟩ dX3_giveJoin_88 (fun gr10 gw9 hp => ?_)
              obtain ⟨rfl, rfl⟩ := hp
              refine G.iload 7 rfl dX3_giveJoin_91 ?_
              refine G.icmp_ne 111 dX3_giveJoin_93 rfl (fun c93 => ?_) (fun c93 => ?_)
              · skip
                rw [zrj] at c93
                have zm : jMat pa (Q1.getD j r0) W = false := by
                  unfold jMat; rw [decide_eq_false (fun q => c93 q.symm)]; rfl
                rw [zm, if_neg (by decide), List.append_nil] at zsu
                rw [← zsu] at hR1
                refine G.iinc (v := nI (j + 1)) [(8, .int (nI (j + 1))), (0, .ref (ad r)), (1, .ref (ad r1)), (2, .ref (ad r2)), (3, .int (nI W)), (4, .int (nI nr2)), (5, .int (nI i)), (6, .int pa.1), (7, .int pa.2.1)] 8 dX3_giveJoin_111 rfl (nI_add j 1) (by decide) rfl ?_
                refine G.goto 63 dX3_giveJoin_114 rfl ?_
                refine G.pick [1, 2, 3, 4, 5, 6, 7, 8, 0] [(0, .ref (ad r)), (1, .ref (ad r1)), (2, .ref (ad r2)), (3, .int (nI W)), (4, .int (nI nr2)), (5, .int (nI i)), (6, .int pa.1), (7, .int pa.2.1), (8, .int (nI (j + 1)))] rfl ?_
                exact ih2 (j + 1) zw (by omega) (by omega) hR1 hf1
              · skip
                rw [zrj] at c93
                have zm : jMat pa (Q1.getD j r0) W = true := by
                  unfold jMat; rw [decide_eq_true c93.symm, decide_eq_true zle2, decide_eq_true zl1]; rfl
                rw [zm, if_pos rfl] at zsu
                have zbig := jn_big (W := W) (i := i) (j := j + 1) (P := P1) (Q := Q1) (by omega)
                rw [hpa, zsu, List.length_append] at zbig
                rw [List.length_append] at zlen
                simp only [List.length_cons, List.length_nil] at zbig
                refine G.aload_n 0 rfl rfl dX3_giveJoin_96 ?_
                refine G.aload_n 1 rfl rfl dX3_giveJoin_97 ?_
                refine G.iload 5 rfl dX3_giveJoin_98 ?_
                refine G.aload_n 2 rfl rfl dX3_giveJoin_100 ?_
                refine G.iload 8 rfl dX3_giveJoin_101 ?_
                refine G.callS (n := 5) (c_X3_givePair hR1 hP1 hQ1 hN hN1 hN2 (by decide) (by decide) (by decide) (show i < 1000000 by omega) (show j < 1000000 by omega)) rfl tb_452 tb_453 tb_36 tb_454 (by decide +kernel) rfl ⟨(Nat.le_of_ble_eq_true rfl), (Nat.le_of_ble_eq_true rfl)⟩ ⟨rfl, rfl⟩ (Nat.le_of_ble_eq_true rfl) ⟨Nat.zero_le _, Nat.zero_le _⟩ dX3_giveJoin_103 (fun gr11 zw2 hp => ?_)
                obtain ⟨rfl, hR2, hf2⟩ := hp
                rw [srt_len, List.length_append] at hR2 ⊢
                by_cases zc : (jn (P1.take i) Q1 W).length + (jRow W pa (Q1.take j)).length < 200
                · skip
                  rw [if_pos zc] at hR2 ⊢
                  rw [hpa, ← srt_snoc, List.append_assoc, ← zsu] at hR2
                  refine G.if_ne 111 dX3_giveJoin_106 rfl (fun c106 => ?_) (fun c106 => ?_)
                  · skip
                    refine G.iinc (v := nI (j + 1)) [(8, .int (nI (j + 1))), (0, .ref (ad r)), (1, .ref (ad r1)), (2, .ref (ad r2)), (3, .int (nI W)), (4, .int (nI nr2)), (5, .int (nI i)), (6, .int pa.1), (7, .int pa.2.1)] 8 dX3_giveJoin_111 rfl (nI_add j 1) (by decide) rfl ?_
                    refine G.goto 63 dX3_giveJoin_114 rfl ?_
                    refine G.pick [1, 2, 3, 4, 5, 6, 7, 8, 0] [(0, .ref (ad r)), (1, .ref (ad r1)), (2, .ref (ad r2)), (3, .int (nI W)), (4, .int (nI nr2)), (5, .int (nI i)), (6, .int pa.1), (7, .int pa.2.1), (8, .int (nI (j + 1)))] rfl ?_
                    exact ih2 (j + 1) zw2 (by omega) (by omega) hR2 (fun q hq => (hf2 q hq).trans (hf1 q hq))
                  · skip
                    exact absurd c106 (by decide)
                · skip
                  rw [if_neg zc] at hR2 ⊢
                  refine G.if_ne 111 dX3_giveJoin_106 rfl (fun c106 => ?_) (fun c106 => ?_)
                  · skip
                    exact absurd rfl c106
                  · skip
                    refine G.iconst (v := nI 0) dX3_giveJoin_109 (by decide +kernel) ?_
                    refine G.zret rfl (by decide) rfl rfl dX3_giveJoin_110 ?_
                    exact hret _ _ ⟨_, hR2, by rw [if_neg (by omega)]; rfl, fun q => by omega, fun q hq => (hf2 q hq).trans (hf1 q hq)⟩
      have inner1 : ∀ (m3 nr2 : Nat), nr2 + m3 = Q1.length → (∀ k, k < nr2 → ∀ i', i ≤ i' → i' < P1.length → tN (Q1.getD k r0) + W < tN (P1.getD i' r0)) → G l t (rD 3) P cX3_giveJoin 9 RX3 (some .boolean) post 0 0 N ad 0 0 31 [(0, .ref (ad r)), (1, .ref (ad r1)), (2, .ref (ad r2)), (3, .int (nI W)), (4, .int (nI nr2)), (5, .int (nI i)), (6, .int pa.1), (7, .int pa.2.1)] [] zw := by
        have hQ1 : isRows t ad zw r2 200 Q1 := hQ.keep (fun q q1 q2 => hf1 q (by omega))
        have t59 : ∀ nr2, nr2 ≤ Q1.length → (∀ k, k < nr2 → ∀ i', i ≤ i' → i' < P1.length → tN (Q1.getD k r0) + W < tN (P1.getD i' r0)) → (∀ k, nr2 ≤ k → k < Q1.length → tN pa ≤ tN (Q1.getD k r0) + W) → G l t (rD 3) P cX3_giveJoin 9 RX3 (some .boolean) post 0 0 N ad 0 0 59 [(0, .ref (ad r)), (1, .ref (ad r1)), (2, .ref (ad r2)), (3, .int (nI W)), (4, .int (nI nr2)), (5, .int (nI i)), (6, .int pa.1), (7, .int pa.2.1)] [] zw := by
          intro nr2 hn2 hno2 hlo
          refine G.iload 4 rfl dX3_giveJoin_59 ?_
          refine G.istore [(8, .int (nI nr2)), (0, .ref (ad r)), (1, .ref (ad r1)), (2, .ref (ad r2)), (3, .int (nI W)), (4, .int (nI nr2)), (5, .int (nI i)), (6, .int pa.1), (7, .int pa.2.1)] dX3_giveJoin_61 (by decide) rfl ?_
          refine G.pick [1, 2, 3, 4, 5, 6, 7, 8, 0] [(0, .ref (ad r)), (1, .ref (ad r1)), (2, .ref (ad r2)), (3, .int (nI W)), (4, .int (nI nr2)), (5, .int (nI i)), (6, .int pa.1), (7, .int pa.2.1), (8, .int (nI nr2))] rfl ?_
          refine inner2 nr2 hn2 hno2 hlo (Q1.length - nr2) nr2 zw (by omega) (Nat.le_refl _) ?_ hf1
          rw [jRow_nil (fun k k1 k2 => ?_), List.append_nil]
          · exact hR1
          · have := hno2 k k1 i (Nat.le_refl _) (by omega)
            rw [hpa] at this
            unfold jMat
            rw [decide_eq_false (p := pa.1 - nI W ≤ (Q1.getD k r0).1) (by rw [zlo k k2]; omega)]
            simp
        intro m3
        induction m3 with
        | zero =>
          intro nr2 hn2 hno2
          refine G.iload 4 rfl dX3_giveJoin_31 ?_
          refine G.aload_n 2 rfl rfl dX3_giveJoin_33 ?_
          refine G.callV (n := 0) r2 (c_X4_size hQ1 hN2) rfl (by omega) hQ1.obj rfl tb_376 tb_377 tb_378 tb_39 tb_379 (by decide +kernel) rfl ⟨(Nat.le_of_ble_eq_true rfl), (Nat.le_of_ble_eq_true rfl)⟩ ⟨rfl, rfl⟩ (Nat.le_of_ble_eq_true rfl) ⟨Nat.zero_le _, Nat.zero_le _⟩ dX3_giveJoin_34 (fun gr13 gw12 hp => ?_)
          obtain ⟨rfl, rfl⟩ := hp
          refine G.ncmp_ge 59 dX3_giveJoin_37 rfl (by omega) (by omega) (fun c37 => ?_) (fun c37 => ?_)
          · skip
            exact t59 nr2 (by omega) hno2 (fun k k1 k2 => by omega)
          · skip
            omega
        | succ m3 ih3 =>
          intro nr2 hn2 hno2
          have zrj : rAt Q1 (nI nr2) = Q1.getD nr2 r0 := rAt_n _ (by omega)
          refine G.iload 4 rfl dX3_giveJoin_31 ?_
          refine G.aload_n 2 rfl rfl dX3_giveJoin_33 ?_
          refine G.callV (n := 0) r2 (c_X4_size hQ1 hN2) rfl (by omega) hQ1.obj rfl tb_376 tb_377 tb_378 tb_39 tb_379 (by decide +kernel) rfl ⟨(Nat.le_of_ble_eq_true rfl), (Nat.le_of_ble_eq_true rfl)⟩ ⟨rfl, rfl⟩ (Nat.le_of_ble_eq_true rfl) ⟨Nat.zero_le _, Nat.zero_le _⟩ dX3_giveJoin_34 (fun gr15 gw14 hp => ?_)
          obtain ⟨rfl, rfl⟩ := hp
          refine G.ncmp_ge 59 dX3_giveJoin_37 rfl (by omega) (by omega) (fun c37 => ?_) (fun c37 => ?_)
          · skip
            omega
          · skip
            refine G.aload_n 2 rfl rfl dX3_giveJoin_40 ?_
            refine G.iload 4 rfl dX3_giveJoin_41 ?_
            refine G.callV (n := 1) r2 (c_X4_timeAt hQ1 hN2 (by decide) (nI nr2)) rfl (by omega) hQ1.obj rfl tb_403 tb_404 tb_405 tb_39 tb_406 (by decide +kernel) rfl ⟨(Nat.le_of_ble_eq_true rfl), (Nat.le_of_ble_eq_true rfl)⟩ ⟨rfl, rfl⟩ (Nat.le_of_ble_eq_true rfl) ⟨Nat.zero_le _, Nat.zero_le _⟩ dX3_giveJoin_43 (fun gr17 gw16 hp => ?_)
            obtain ⟨rfl, rfl⟩ := hp
            refine G.iload 6 rfl dX3_giveJoin_46 ?_
            refine G.iload_n 3 rfl rfl dX3_giveJoin_48 ?_
            refine G.isub dX3_giveJoin_49 ?_
            refine G.icmp_ge 59 dX3_giveJoin_50 rfl (fun c50 => ?_) (fun c50 => ?_)
            · skip
              rw [zrj] at c50
              refine t59 nr2 (by omega) hno2 (fun k k1 k2 => ?_)
              have z1 := (zlo nr2 (by omega)).mp c50
              rcases Nat.lt_or_ge nr2 k with q | q
              · have := aQ nr2 k q k2; omega
              · rw [show k = nr2 by omega]; exact z1
            · skip
              rw [zrj] at c50
              refine G.iinc (v := nI (nr2 + 1)) [(4, .int (nI (nr2 + 1))), (0, .ref (ad r)), (1, .ref (ad r1)), (2, .ref (ad r2)), (3, .int (nI W)), (5, .int (nI i)), (6, .int pa.1), (7, .int pa.2.1)] 4 dX3_giveJoin_53 rfl (nI_add nr2 1) (by decide) rfl ?_
              refine G.goto 31 dX3_giveJoin_56 rfl ?_
              refine G.pick [1, 2, 3, 4, 0, 5, 6, 7] [(0, .ref (ad r)), (1, .ref (ad r1)), (2, .ref (ad r2)), (3, .int (nI W)), (4, .int (nI (nr2 + 1))), (5, .int (nI i)), (6, .int pa.1), (7, .int pa.2.1)] rfl ?_
              refine ih3 (nr2 + 1) (by omega) (fun k k1 i' i1 i2 => ?_)
              by_cases q : k = nr2
              · subst q
                have z1 : ¬ tN pa ≤ tN (Q1.getD k r0) + W := fun q => c50 ((zlo k (by omega)).mpr q)
                have z2 : tN pa ≤ tN (P1.getD i' r0) := by
                  rcases Nat.lt_or_ge i i' with q | q
                  · have := aP i i' q i2; rw [hpa] at this; exact this
                  · rw [show i' = i by omega, hpa]; exact Nat.le_refl _
                omega
              · exact hno2 k (by omega) i' i1 i2
      refine G.iload 5 rfl dX3_giveJoin_6 ?_
      refine G.aload_n 1 rfl rfl dX3_giveJoin_8 ?_
      refine G.callV (n := 0) r1 (c_X4_size hP0 hN1) rfl (by omega) hP0.obj rfl tb_376 tb_377 tb_378 tb_39 tb_379 (by decide +kernel) rfl ⟨(Nat.le_of_ble_eq_true rfl), (Nat.le_of_ble_eq_true rfl)⟩ ⟨rfl, rfl⟩ (Nat.le_of_ble_eq_true rfl) ⟨Nat.zero_le _, Nat.zero_le _⟩ dX3_giveJoin_9 (fun gr19 gw18 hp => ?_)
      obtain ⟨rfl, rfl⟩ := hp
      refine G.ncmp_ge 123 dX3_giveJoin_12 rfl (by omega) (by omega) (fun c12 => ?_) (fun c12 => ?_)
      · skip
        omega
      · skip
        refine G.aload_n 1 rfl rfl dX3_giveJoin_15 ?_
        refine G.iload 5 rfl dX3_giveJoin_16 ?_
        refine G.callV (n := 1) r1 (c_X4_timeAt hP0 hN1 (by decide) (nI i)) rfl (by omega) hP0.obj rfl tb_403 tb_404 tb_405 tb_39 tb_406 (by decide +kernel) rfl ⟨(Nat.le_of_ble_eq_true rfl), (Nat.le_of_ble_eq_true rfl)⟩ ⟨rfl, rfl⟩ (Nat.le_of_ble_eq_true rfl) ⟨Nat.zero_le _, Nat.zero_le _⟩ dX3_giveJoin_18 (fun gr21 gw20 hp => ?_)
        obtain ⟨rfl, rfl⟩ := hp
        refine G.topi (pa.1) ((by rw [zri])) ?_
        refine G.istore [(6, .int pa.1), (0, .ref (ad r)), (1, .ref (ad r1)), (2, .ref (ad r2)), (3, .int (nI W)), (4, .int (nI nr)), (5, .int (nI i))] dX3_giveJoin_21 (by decide) rfl ?_
        refine G.aload_n 2 rfl rfl dX3_giveJoin_23 ?_
        refine G.iload 6 rfl dX3_giveJoin_24 ?_
        refine G.callV (n := 1) r1 (c_X4_keyAt hP0 hN1 (by decide) (nI i)) rfl (by omega) hP0.obj rfl tb_407 tb_408 tb_409 tb_39 tb_410 (by decide +kernel) rfl ⟨(Nat.le_of_ble_eq_true rfl), (Nat.le_of_ble_eq_true rfl)⟩ ⟨rfl, rfl⟩ (Nat.le_of_ble_eq_true rfl) ⟨Nat.zero_le _, Nat.zero_le _⟩ dX3_giveJoin_26 (fun gr23 gw22 hp => ?_)
        obtain ⟨rfl, rfl⟩ := hp
        refine G.topi (pa.2.1) ((by rw [zri])) ?_
        refine G.istore [(7, .int pa.2.1), (6, .int pa.1), (0, .ref (ad r)), (1, .ref (ad r1)), (2, .ref (ad r2)), (3, .int (nI W)), (4, .int (nI nr)), (5, .int (nI i))] dX3_giveJoin_29 (by decide) rfl ?_
        refine G.pick [2, 3, 4, 5, 6, 7, 1, 0] [(0, .ref (ad r)), (1, .ref (ad r1)), (2, .ref (ad r2)), (3, .int (nI W)), (4, .int (nI nr)), (5, .int (nI i)), (6, .int pa.1), (7, .int pa.2.1)] rfl ?_
        exact inner1 (Q1.length - nr) nr (by omega) hno
  exact outer P1.length 0 0 w (by omega) (by omega) (by simpa [jn, srt] using hR) (fun k hk => by omega) (fun _ _ => rfl)
end PassD

