/-! Pass: falls, first, meet -/
section PassB
variable {l : Launch} {t : TT} {N : Nat} {ad : Nat → Nat} {w : Nat → va_E} {r r1 r2 : Nat} {L P1 Q1 : List RW}
theorem c_X3_giveFalls (hR : isRows t ad w r 200 []) (hP : isRows t ad w r1 200 P1) (hN : r + 4 ≤ N) (hN1 : r1 + 4 ≤ N) (hd : r + 4 ≤ r1 ∨ r1 + 4 ≤ r) (W : Int32) :
    K l t yX3_giveFalls cX3_giveFalls 5 (some .boolean) (rD 2) N ad w [.ref (ad r), .ref (ad r1), .int W]
      (fun res w' => res = some (.int 1) ∧ isRows t ad w' r 200 (srt aboveT (fallL P1 W P1.length)) ∧ ∀ q, q < r ∨ r + 4 ≤ q → w' q = w q) := by
  have zp := hP.le
  refine K.of (own := RX3) (lv := [(0, .ref (ad r)), (1, .ref (ad r1)), (2, .int W)]) (by decide +kernel) rfl (Nat.le_of_ble_eq_true rfl) rfl (fun P post hret => ?_)
  refine G.iconst (v := nI 0) dX3_giveFalls_0 (by decide +kernel) ?_
  refine G.istore_n [(3, .int (nI 0)), (0, .ref (ad r)), (1, .ref (ad r1)), (2, .int W)] dX3_giveFalls_1 rfl (by decide) rfl ?_
  refine G.pick [1, 2, 3, 0] [(0, .ref (ad r)), (1, .ref (ad r1)), (2, .int W), (3, .int (nI 0))] rfl ?_
  have loop : ∀ (m i : Nat) (zw : Nat → va_E), i + m = P1.length → isRows t ad zw r 200 (srt aboveT (fallL P1 W i)) → (∀ j, j < r ∨ r + 4 ≤ j → zw j = w j) → G l t (rD 2) P cX3_giveFalls 5 RX3 (some .boolean) post 0 0 N ad 0 0 2 [(0, .ref (ad r)), (1, .ref (ad r1)), (2, .int W), (3, .int (nI i))] [] zw := by
    intro m
    induction m with
    | zero =>
      intro i zw hi hR1 hf1
      have hP1 : isRows t ad zw r1 200 P1 := hP.keep (fun j j1 j2 => hf1 j (by omega))
      rw [show i = P1.length by omega] at hR1
      refine G.iload_n 3 rfl rfl dX3_giveFalls_2 ?_
      refine G.aload_n 1 rfl rfl dX3_giveFalls_3 ?_
      refine G.callV (n := 0) r1 (c_X4_size hP1 hN1) rfl (by omega) hP1.obj rfl tb_376 tb_377 tb_378 tb_39 tb_379 (by decide +kernel) rfl ⟨(Nat.le_of_ble_eq_true rfl), (Nat.le_of_ble_eq_true rfl)⟩ ⟨rfl, rfl⟩ (Nat.le_of_ble_eq_true rfl) ⟨Nat.zero_le _, Nat.zero_le _⟩ dX3_giveFalls_4 (fun gr2 gw1 hp => ?_)
      obtain ⟨rfl, rfl⟩ := hp
      refine G.ncmp_ge 92 dX3_giveFalls_7 rfl (by omega) (by omega) (fun c7 => ?_) (fun c7 => ?_)
      · skip
        refine G.iconst (v := nI 1) dX3_giveFalls_92 (by decide +kernel) ?_
        refine G.zret rfl (by decide) rfl rfl dX3_giveFalls_93 ?_
        exact hret _ _ ⟨rfl, hR1, hf1⟩
      · skip
        omega
    | succ m ih =>
      intro i zw hi hR1 hf1
      have hP1 : isRows t ad zw r1 200 P1 := hP.keep (fun j j1 j2 => hf1 j (by omega))
      have zlt : (srt aboveT (fallL P1 W i)).length < 200 := by
        have := fallL_len P1 W i
        rw [srt_len]; omega
      have zr : rAt P1 (nI i) = P1.getD i r0 := rAt_n _ (by omega)
      have zih := ih (i + 1)
      rw [fallL_succ] at zih
      have znil : fall1 P1 W i = [] → G l t (rD 2) P cX3_giveFalls 5 RX3 (some .boolean) post 0 0 N ad 0 0 86 [(0, .ref (ad r)), (1, .ref (ad r1)), (2, .int W), (3, .int (nI i))] [] zw := by
        intro zn
        rw [zn, List.append_nil] at zih
        refine G.iinc (v := nI (i + 1)) [(3, .int (nI (i + 1))), (0, .ref (ad r)), (1, .ref (ad r1)), (2, .int W)] 3 dX3_giveFalls_86 rfl (nI_add i 1) (by decide) rfl ?_
        refine G.goto 2 dX3_giveFalls_89 rfl ?_
        refine G.pick [1, 2, 3, 0] [(0, .ref (ad r)), (1, .ref (ad r1)), (2, .int W), (3, .int (nI (i + 1)))] rfl ?_
        exact zih zw (by omega) hR1 hf1
      refine G.iload_n 3 rfl rfl dX3_giveFalls_2 ?_
      refine G.aload_n 1 rfl rfl dX3_giveFalls_3 ?_
      refine G.callV (n := 0) r1 (c_X4_size hP1 hN1) rfl (by omega) hP1.obj rfl tb_376 tb_377 tb_378 tb_39 tb_379 (by decide +kernel) rfl ⟨(Nat.le_of_ble_eq_true rfl), (Nat.le_of_ble_eq_true rfl)⟩ ⟨rfl, rfl⟩ (Nat.le_of_ble_eq_true rfl) ⟨Nat.zero_le _, Nat.zero_le _⟩ dX3_giveFalls_4 (fun gr4 gw3 hp => ?_)
      obtain ⟨rfl, rfl⟩ := hp
      refine G.ncmp_ge 92 dX3_giveFalls_7 rfl (by omega) (by omega) (fun c7 => ?_) (fun c7 => ?_)
      · skip
        omega
      · skip
        refine G.aload_n 1 rfl rfl dX3_giveFalls_10 ?_
        refine G.iload_n 3 rfl rfl dX3_giveFalls_11 ?_
        refine G.callV (n := 1) r1 (c_X4_nextOfKey hP1 hN1 (by decide) (show i < P1.length by omega)) rfl (by omega) hP1.obj rfl tb_467 tb_468 tb_469 tb_39 tb_470 (by decide +kernel) rfl ⟨(Nat.le_of_ble_eq_true rfl), (Nat.le_of_ble_eq_true rfl)⟩ ⟨rfl, rfl⟩ (Nat.le_of_ble_eq_true rfl) ⟨Nat.zero_le _, Nat.zero_le _⟩ dX3_giveFalls_12 (fun gr6 gw5 hp => ?_)
        obtain ⟨rfl, zc⟩ := hp
        rcases zc with ⟨rfl, zc⟩ | ⟨j, zj1, zj2, zj3, zj4, rfl⟩
        · skip
          refine G.istore [(4, .int (-1)), (0, .ref (ad r)), (1, .ref (ad r1)), (2, .int W), (3, .int (nI i))] dX3_giveFalls_15 (by decide) rfl ?_
          refine G.iload 0 rfl dX3_giveFalls_17 ?_
          refine G.iconst (v := -1) dX3_giveFalls_19 (by decide +kernel) ?_
          refine G.icmp_eq 86 dX3_giveFalls_20 rfl (fun c20 => ?_) (fun c20 => ?_)
          · skip
            refine G.pick [1, 2, 3, 4] [(0, .ref (ad r)), (1, .ref (ad r1)), (2, .int W), (3, .int (nI i))] rfl ?_
            exact znil (by rw [fall1, nextK_none zc])
          · skip
            exact absurd rfl c20
        · skip
          have znk := nextK_some zj1 zj2 zj3 zj4
          have zrj : rAt P1 (nI j) = P1.getD j r0 := rAt_n _ (by omega)
          refine G.istore [(4, .int (nI j)), (0, .ref (ad r)), (1, .ref (ad r1)), (2, .int W), (3, .int (nI i))] dX3_giveFalls_15 (by decide) rfl ?_
          refine G.iload 0 rfl dX3_giveFalls_17 ?_
          refine G.iconst (v := -1) dX3_giveFalls_19 (by decide +kernel) ?_
          refine G.icmp_eq 86 dX3_giveFalls_20 rfl (fun c20 => ?_) (fun c20 => ?_)
          · skip
            exact absurd c20 (by
              intro q
              have := nI_pos (show j < 2 ^ 31 by omega)
              rw [q] at this
              exact this (by decide))
          · skip
            refine G.aload_n 2 rfl rfl dX3_giveFalls_23 ?_
            refine G.iload 0 rfl dX3_giveFalls_24 ?_
            refine G.callV (n := 1) r1 (c_X4_valueAt hP1 hN1 (by decide) (nI j)) rfl (by omega) hP1.obj rfl tb_380 tb_381 tb_382 tb_39 tb_383 (by decide +kernel) rfl ⟨(Nat.le_of_ble_eq_true rfl), (Nat.le_of_ble_eq_true rfl)⟩ ⟨rfl, rfl⟩ (Nat.le_of_ble_eq_true rfl) ⟨Nat.zero_le _, Nat.zero_le _⟩ dX3_giveFalls_26 (fun gr8 gw7 hp => ?_)
            obtain ⟨rfl, rfl⟩ := hp
            refine G.aload_n 2 rfl rfl dX3_giveFalls_29 ?_
            refine G.iload_n 4 rfl rfl dX3_giveFalls_30 ?_
            refine G.callV (n := 1) r1 (c_X4_valueAt hP1 hN1 (by decide) (nI i)) rfl (by omega) hP1.obj rfl tb_380 tb_381 tb_382 tb_39 tb_383 (by decide +kernel) rfl ⟨(Nat.le_of_ble_eq_true rfl), (Nat.le_of_ble_eq_true rfl)⟩ ⟨rfl, rfl⟩ (Nat.le_of_ble_eq_true rfl) ⟨Nat.zero_le _, Nat.zero_le _⟩ dX3_giveFalls_31 (fun gr10 gw9 hp => ?_)
            obtain ⟨rfl, rfl⟩ := hp
            refine G.lcmp dX3_giveFalls_34 ?_
            refine G.if_ge 86 dX3_giveFalls_35 rfl (fun c35 => ?_) (fun c35 => ?_)
            · skip
              refine G.pick [1, 2, 3, 4] [(0, .ref (ad r)), (1, .ref (ad r1)), (2, .int W), (3, .int (nI i))] rfl ?_
              rw [lgc_ge, zr, zrj] at c35
              exact znil (by simp only [fall1, znk]; rw [if_neg (fun q => absurd q.1 (Int64.not_lt.mpr c35))])
            · skip
              rw [lgc_ge, zr, zrj] at c35
              refine G.aload_n 2 rfl rfl dX3_giveFalls_38 ?_
              refine G.iload 0 rfl dX3_giveFalls_39 ?_
              refine G.callV (n := 1) r1 (c_X4_timeAt hP1 hN1 (by decide) (nI j)) rfl (by omega) hP1.obj rfl tb_403 tb_404 tb_405 tb_39 tb_406 (by decide +kernel) rfl ⟨(Nat.le_of_ble_eq_true rfl), (Nat.le_of_ble_eq_true rfl)⟩ ⟨rfl, rfl⟩ (Nat.le_of_ble_eq_true rfl) ⟨Nat.zero_le _, Nat.zero_le _⟩ dX3_giveFalls_41 (fun gr12 gw11 hp => ?_)
              obtain ⟨rfl, rfl⟩ := hp
              refine G.aload_n 2 rfl rfl dX3_giveFalls_44 ?_
              refine G.iload_n 4 rfl rfl dX3_giveFalls_45 ?_
              refine G.callV (n := 1) r1 (c_X4_timeAt hP1 hN1 (by decide) (nI i)) rfl (by omega) hP1.obj rfl tb_403 tb_404 tb_405 tb_39 tb_406 (by decide +kernel) rfl ⟨(Nat.le_of_ble_eq_true rfl), (Nat.le_of_ble_eq_true rfl)⟩ ⟨rfl, rfl⟩ (Nat.le_of_ble_eq_true rfl) ⟨Nat.zero_le _, Nat.zero_le _⟩ dX3_giveFalls_46 (fun gr14 gw13 hp => ?_)
              obtain ⟨rfl, rfl⟩ := hp
              refine G.isub dX3_giveFalls_49 ?_
              refine G.iload_n 3 rfl rfl dX3_giveFalls_50 ?_
              refine G.icmp_gt 86 dX3_giveFalls_51 rfl (fun c51 => ?_) (fun c51 => ?_)
              · skip
                refine G.pick [1, 2, 3, 4] [(0, .ref (ad r)), (1, .ref (ad r1)), (2, .int W), (3, .int (nI i))] rfl ?_
                rw [zr, zrj] at c51
                exact znil (by simp only [fall1, znk]; rw [if_neg (fun q => absurd q.2 (Int32.not_le.mpr c51))])
              · skip
                rw [zr, zrj] at c51
                have zf1 : fall1 P1 W i = [((P1.getD j r0).1, (P1.getD i r0).2.1, (P1.getD i r0).2.2 - (P1.getD j r0).2.2)] := by
                  simp only [fall1, znk]; rw [if_pos ⟨Int64.not_le.mp c35, Int32.not_lt.mp c51⟩]
                rw [zf1, srt_snoc] at zih
                refine G.aload_n 1 rfl rfl dX3_giveFalls_54 ?_
                refine G.aload_n 2 rfl rfl dX3_giveFalls_55 ?_
                refine G.iload 0 rfl dX3_giveFalls_56 ?_
                refine G.callV (n := 1) r1 (c_X4_timeAt hP1 hN1 (by decide) (nI j)) rfl (by omega) hP1.obj rfl tb_403 tb_404 tb_405 tb_39 tb_406 (by decide +kernel) rfl ⟨(Nat.le_of_ble_eq_true rfl), (Nat.le_of_ble_eq_true rfl)⟩ ⟨rfl, rfl⟩ (Nat.le_of_ble_eq_true rfl) ⟨Nat.zero_le _, Nat.zero_le _⟩ dX3_giveFalls_58 (fun gr16 gw15 hp => ?_)
                obtain ⟨rfl, rfl⟩ := hp
                refine G.aload_n 2 rfl rfl dX3_giveFalls_61 ?_
                refine G.iload_n 4 rfl rfl dX3_giveFalls_62 ?_
                refine G.callV (n := 1) r1 (c_X4_keyAt hP1 hN1 (by decide) (nI i)) rfl (by omega) hP1.obj rfl tb_407 tb_408 tb_409 tb_39 tb_410 (by decide +kernel) rfl ⟨(Nat.le_of_ble_eq_true rfl), (Nat.le_of_ble_eq_true rfl)⟩ ⟨rfl, rfl⟩ (Nat.le_of_ble_eq_true rfl) ⟨Nat.zero_le _, Nat.zero_le _⟩ dX3_giveFalls_63 (fun gr18 gw17 hp => ?_)
                obtain ⟨rfl, rfl⟩ := hp
                refine G.aload_n 2 rfl rfl dX3_giveFalls_66 ?_
                refine G.iload_n 4 rfl rfl dX3_giveFalls_67 ?_
                refine G.callV (n := 1) r1 (c_X4_valueAt hP1 hN1 (by decide) (nI i)) rfl (by omega) hP1.obj rfl tb_380 tb_381 tb_382 tb_39 tb_383 (by decide +kernel) rfl ⟨(Nat.le_of_ble_eq_true rfl), (Nat.le_of_ble_eq_true rfl)⟩ ⟨rfl, rfl⟩ (Nat.le_of_ble_eq_true rfl) ⟨Nat.zero_le _, Nat.zero_le _⟩ dX3_giveFalls_68 (fun gr20 gw19 hp => ?_)
                obtain ⟨rfl, rfl⟩ := hp
                refine G.aload_n 2 rfl rfl dX3_giveFalls_71 ?_
                refine G.iload 0 rfl dX3_giveFalls_72 ?_
                refine G.callV (n := 1) r1 (c_X4_valueAt hP1 hN1 (by decide) (nI j)) rfl (by omega) hP1.obj rfl tb_380 tb_381 tb_382 tb_39 tb_383 (by decide +kernel) rfl ⟨(Nat.le_of_ble_eq_true rfl), (Nat.le_of_ble_eq_true rfl)⟩ ⟨rfl, rfl⟩ (Nat.le_of_ble_eq_true rfl) ⟨Nat.zero_le _, Nat.zero_le _⟩ dX3_giveFalls_74 (fun gr22 gw21 hp => ?_)
                obtain ⟨rfl, rfl⟩ := hp
                refine G.lsub dX3_giveFalls_77 ?_
                refine G.callV (n := 3) r (c_X4_addByTime hR1 hN (by decide) (rAt P1 (nI j)).1 (rAt P1 (nI i)).2.1 ((rAt P1 (nI i)).2.2 - (rAt P1 (nI j)).2.2)) rfl (by omega) hR1.obj rfl tb_457 tb_358 tb_359 tb_39 tb_360 (by decide +kernel) rfl ⟨(Nat.le_of_ble_eq_true rfl), (Nat.le_of_ble_eq_true rfl)⟩ ⟨rfl, rfl⟩ (Nat.le_of_ble_eq_true rfl) ⟨Nat.zero_le _, Nat.zero_le _⟩ dX3_giveFalls_78 (fun gr23 zw2 hp => ?_)
                obtain ⟨rfl, hR2, hf2⟩ := hp
                rw [if_pos zlt] at hR2 ⊢
                rw [zr, zrj] at hR2
                refine G.if_ne 86 dX3_giveFalls_81 rfl (fun c81 => ?_) (fun c81 => ?_)
                · skip
                  refine G.iinc (v := nI (i + 1)) [(3, .int (nI (i + 1))), (4, .int (nI j)), (0, .ref (ad r)), (1, .ref (ad r1)), (2, .int W)] 4 dX3_giveFalls_86 rfl (nI_add i 1) (by decide) rfl ?_
                  refine G.goto 2 dX3_giveFalls_89 rfl ?_
                  refine G.pick [2, 3, 4, 0] [(0, .ref (ad r)), (1, .ref (ad r1)), (2, .int W), (3, .int (nI (i + 1)))] rfl ?_
                  exact zih zw2 (by omega) hR2 (fun j hj => (hf2 j hj).trans (hf1 j hj))
                · skip
                  exact absurd c81 (by decide)
  exact loop P1.length 0 w (by omega) hR (fun _ _ => rfl)
theorem c_X3_sawFewerThan {kp : Nat} {S : Nat → Int32} {y s n : Nat} (h0 : w kp = .inr (3, [.ref (ad (kp + 1)), .ref (ad (kp + 4))])) (h1 : w (kp + 4) = .inl (t.2.1, 6, .inl S)) (hN : kp + 5 ≤ N) (hy : y < 6) (hs : S y = nI s) (hs2 : s < 1000000) (hn : n < 1000000) :
    K l t yX3_sawFewerThan cX3_sawFewerThan 3 (some .boolean) (rD 0) N ad w [.ref (ad kp), .int (nI n), .int (nI y)]
      (fun res w' => res = some (.int (if s < n then 1 else 0)) ∧ w' (kp + 4) = .inl (t.2.1, 6, .inl (if s < n then upd S y (nI (s + 1)) else S)) ∧ ∀ i, i ≠ kp + 4 → w' i = w i) := by
  refine K.of (own := RX3) (lv := [(0, .ref (ad kp)), (1, .int (nI n)), (2, .int (nI y))]) (by decide +kernel) rfl (Nat.le_of_ble_eq_true rfl) rfl (fun P post hret => ?_)
  refine G.iload_n 2 rfl rfl dX3_sawFewerThan_0 ?_
  refine G.nif_lt 23 dX3_sawFewerThan_1 rfl (by omega) ?_
  refine G.iload_n 2 rfl rfl dX3_sawFewerThan_4 ?_
  refine G.aload_n 0 rfl rfl dX3_sawFewerThan_5 ?_
  refine G.get kp (by omega) h0 rfl twX3 1 (by decide) tb_112 rfl rfl dX3_sawFewerThan_6 ?_
  refine G.alen (kp + 4) (by omega) 0 h1 rfl (v := nI 6) rfl dX3_sawFewerThan_9 ?_
  refine G.ncmp_ge 23 dX3_sawFewerThan_10 rfl (by omega) (by omega) (fun c10 => ?_) (fun c10 => ?_)
  · skip
    omega
  · skip
    refine G.aload_n 0 rfl rfl dX3_sawFewerThan_13 ?_
    refine G.get kp (by omega) h0 rfl twX3 1 (by decide) tb_112 rfl rfl dX3_sawFewerThan_14 ?_
    refine G.iload_n 2 rfl rfl dX3_sawFewerThan_17 ?_
    refine G.iald (kp + 4) (by omega) h1 y (rfl) (by omega) (by omega) dX3_sawFewerThan_18 ?_
    refine G.topi (nI s) (hs) ?_
    refine G.iload_n 1 rfl rfl dX3_sawFewerThan_19 ?_
    refine G.ncmp_lt 25 dX3_sawFewerThan_20 rfl (by omega) (by omega) (fun c20 => ?_) (fun c20 => ?_)
    · skip
      refine G.aload_n 0 rfl rfl dX3_sawFewerThan_25 ?_
      refine G.get kp (by omega) h0 rfl twX3 1 (by decide) tb_112 rfl rfl dX3_sawFewerThan_26 ?_
      refine G.iload_n 2 rfl rfl dX3_sawFewerThan_29 ?_
      refine G.dup2_11 rfl rfl dX3_sawFewerThan_30 ?_
      refine G.iald (kp + 4) (by omega) h1 y (rfl) (by omega) (by omega) dX3_sawFewerThan_31 ?_
      refine G.topi (nI s) (hs) ?_
      refine G.iconst (v := nI 1) dX3_sawFewerThan_32 (by decide +kernel) ?_
      refine G.iadd dX3_sawFewerThan_33 ?_
      refine G.topi (nI (s + 1)) (nI_add s 1) ?_
      refine G.iast (kp + 4) (by omega) h1 y (rfl) (by omega) (by omega) dX3_sawFewerThan_34 (fun gw1 gh2 gf3 => ?_)
      refine G.iconst (v := nI 1) dX3_sawFewerThan_35 (by decide +kernel) ?_
      refine G.zret rfl (by decide) rfl rfl dX3_sawFewerThan_36 ?_
      have z0 := gh2
      have hfr : ∀ i, i ≠ kp + 4 → gw1 i = w i := fun i hi => gf3 i (by omega)
      exact hret _ _ ⟨by rw [if_pos c20]; rfl, by rw [if_pos c20]; exact z0, hfr⟩
    · skip
      refine G.iconst (v := nI 0) dX3_sawFewerThan_23 (by decide +kernel) ?_
      refine G.zret rfl (by decide) rfl rfl dX3_sawFewerThan_24 ?_
      exact hret _ _ ⟨by rw [if_neg (by omega)]; rfl, by rw [if_neg (by omega)]; exact h1, fun _ _ => rfl⟩
theorem c_X3_giveFirst {kp : Nat} {S0 : Nat → Int32} {n : Nat} (h0 : w kp = .inr (3, [.ref (ad (kp + 1)), .ref (ad (kp + 4))])) (h1 : w (kp + 4) = .inl (t.2.1, 6, .inl S0)) (hN0 : kp + 5 ≤ N) (hR : isRows t ad w r 200 []) (hP : isRows t ad w r1 200 P1) (hok : ∀ i, i < P1.length → okR (P1.getD i r0)) (hN : r + 4 ≤ N) (hN1 : r1 + 4 ≤ N) (hd : r + 4 ≤ r1 ∨ r1 + 4 ≤ r) (hd1 : kp + 5 ≤ r ∨ r + 4 ≤ kp) (hd2 : kp + 5 ≤ r1 ∨ r1 + 4 ≤ kp) (hn : n < 1000000) :
    K l t yX3_giveFirst cX3_giveFirst 5 (some .boolean) (rD 3) N ad w [.ref (ad kp), .ref (ad r), .ref (ad r1), .int (nI n)]
      (fun res w' => res = some (.int 1) ∧ isRows t ad w' r 200 (firL P1 n P1.length) ∧ (∃ S : Nat → Int32, w' (kp + 4) = .inl (t.2.1, 6, .inl S)) ∧ ∀ q, q ≠ kp + 4 → (q < r ∨ r + 4 ≤ q) → w' q = w q) := by
  have zp := hP.le
  refine K.of (own := RX3) (lv := [(0, .ref (ad kp)), (1, .ref (ad r)), (2, .ref (ad r1)), (3, .int (nI n))]) (by decide +kernel) rfl (Nat.le_of_ble_eq_true rfl) rfl (fun P post hret => ?_)
  refine G.iconst (v := nI 0) dX3_giveFirst_0 (by decide +kernel) ?_
  refine G.istore [(4, .int (nI 0)), (0, .ref (ad kp)), (1, .ref (ad r)), (2, .ref (ad r1)), (3, .int (nI n))] dX3_giveFirst_1 (by decide) rfl ?_
  refine G.pick [1, 2, 3, 4, 0] [(0, .ref (ad kp)), (1, .ref (ad r)), (2, .ref (ad r1)), (3, .int (nI n)), (4, .int (nI 0))] rfl ?_
  have loop2 : ∀ (m i : Nat) (zw : Nat → va_E) (S : Nat → Int32), i + m = P1.length → isRows t ad zw r 200 (firL P1 n i) → zw (kp + 4) = .inl (t.2.1, 6, .inl S) → (∀ y, y < 6 → S y = nI (min n (cntK P1 i (nI y)))) → (∀ j, j ≠ kp + 4 → (j < r ∨ r + 4 ≤ j) → zw j = w j) → G l t (rD 3) P cX3_giveFirst 5 RX3 (some .boolean) post 0 0 N ad 0 0 30 [(0, .ref (ad kp)), (1, .ref (ad r)), (2, .ref (ad r1)), (3, .int (nI n)), (4, .int (nI i))] [] zw := by
    intro m
    induction m with
    | zero =>
      intro i zw S hi hR1 hS hS2 hf1
      have hP1 : isRows t ad zw r1 200 P1 := hP.keep (fun j j1 j2 => hf1 j (by omega) (by omega))
      rw [show i = P1.length by omega] at hR1
      refine G.iload 4 rfl dX3_giveFirst_30 ?_
      refine G.aload_n 2 rfl rfl dX3_giveFirst_32 ?_
      refine G.callV (n := 0) r1 (c_X4_size hP1 hN1) rfl (by omega) hP1.obj rfl tb_376 tb_377 tb_378 tb_39 tb_379 (by decide +kernel) rfl ⟨(Nat.le_of_ble_eq_true rfl), (Nat.le_of_ble_eq_true rfl)⟩ ⟨rfl, rfl⟩ (Nat.le_of_ble_eq_true rfl) ⟨Nat.zero_le _, Nat.zero_le _⟩ dX3_giveFirst_33 (fun gr2 gw1 hp => ?_)
      obtain ⟨rfl, rfl⟩ := hp
      refine G.ncmp_ge 71 dX3_giveFirst_36 rfl (by omega) (by omega) (fun c36 => ?_) (fun c36 => ?_)
      · skip
        refine G.iconst (v := nI 1) dX3_giveFirst_71 (by decide +kernel) ?_
        refine G.zret rfl (by decide) rfl rfl dX3_giveFirst_72 ?_
        exact hret _ _ ⟨rfl, hR1, ⟨S, hS⟩, hf1⟩
      · skip
        omega
    | succ m ih =>
      intro i zw S hi hR1 hS hS2 hf1
      have hP1 : isRows t ad zw r1 200 P1 := hP.keep (fun j j1 j2 => hf1 j (by omega) (by omega))
      have e0 := (hf1 kp (by omega) (by omega)).trans h0
      have zr : rAt P1 (nI i) = P1.getD i r0 := rAt_n _ (by omega)
      have zlt : (firL P1 n i).length < 200 := by have := firL_len P1 n i; omega
      obtain ⟨tn, yn, ht, hy, k1, k2⟩ := hok i (by omega)
      have zcnt : cntK P1 i (nI yn) ≤ 200 := by
        have := List.countP_le_length (p := fun x : RW => decide (x.2.1 = nI yn)) (l := P1.take i)
        unfold cntK
        rw [List.length_take] at this
        omega
      have zih := ih (i + 1)
      rw [firL_succ] at zih
      have zfs : fir1 P1 n i = if cntK P1 i (nI yn) < n then [P1.getD i r0] else [] := by rw [fir1, k2]
      have zcn : ∀ y, y < 6 → cntK P1 (i + 1) (nI y) = cntK P1 i (nI y) + (if y = yn then 1 else 0) := fun y hy2 => by
        rw [cntK_succ (by omega), k2]
        congr 1
        by_cases q : y = yn
        · subst q; rw [if_pos rfl, if_pos rfl]
        · rw [if_neg q, if_neg (fun q2 => q ((nI_eq (by omega) (by omega)).mp q2).symm)]
      refine G.iload 4 rfl dX3_giveFirst_30 ?_
      refine G.aload_n 2 rfl rfl dX3_giveFirst_32 ?_
      refine G.callV (n := 0) r1 (c_X4_size hP1 hN1) rfl (by omega) hP1.obj rfl tb_376 tb_377 tb_378 tb_39 tb_379 (by decide +kernel) rfl ⟨(Nat.le_of_ble_eq_true rfl), (Nat.le_of_ble_eq_true rfl)⟩ ⟨rfl, rfl⟩ (Nat.le_of_ble_eq_true rfl) ⟨Nat.zero_le _, Nat.zero_le _⟩ dX3_giveFirst_33 (fun gr4 gw3 hp => ?_)
      obtain ⟨rfl, rfl⟩ := hp
      refine G.ncmp_ge 71 dX3_giveFirst_36 rfl (by omega) (by omega) (fun c36 => ?_) (fun c36 => ?_)
      · skip
        omega
      · skip
        refine G.aload_n 0 rfl rfl dX3_giveFirst_39 ?_
        refine G.iload_n 3 rfl rfl dX3_giveFirst_40 ?_
        refine G.aload_n 2 rfl rfl dX3_giveFirst_41 ?_
        refine G.iload 4 rfl dX3_giveFirst_42 ?_
        refine G.callV (n := 1) r1 (c_X4_keyAt hP1 hN1 (by decide) (nI i)) rfl (by omega) hP1.obj rfl tb_407 tb_408 tb_409 tb_39 tb_410 (by decide +kernel) rfl ⟨(Nat.le_of_ble_eq_true rfl), (Nat.le_of_ble_eq_true rfl)⟩ ⟨rfl, rfl⟩ (Nat.le_of_ble_eq_true rfl) ⟨Nat.zero_le _, Nat.zero_le _⟩ dX3_giveFirst_44 (fun gr6 gw5 hp => ?_)
        obtain ⟨rfl, rfl⟩ := hp
        refine G.topi (nI yn) ((by rw [zr]; exact k2)) ?_
        refine G.callV (n := 2) kp (c_X3_sawFewerThan e0 hS hN0 hy (hS2 yn hy) (by omega) hn) rfl (by omega) e0 rfl tb_476 tb_478 tb_9 tb_36 tb_479 (by decide +kernel) rfl ⟨(Nat.le_of_ble_eq_true rfl), (Nat.le_of_ble_eq_true rfl)⟩ ⟨rfl, rfl⟩ (Nat.le_of_ble_eq_true rfl) ⟨Nat.zero_le _, Nat.zero_le _⟩ dX3_giveFirst_47 (fun gr7 zw2 hp => ?_)
        obtain ⟨rfl, hS3, hf2⟩ := hp
        have hR2 := hR1.keep (fun j j1 j2 => hf2 j (by omega))
        have hP2 := hP1.keep (fun j j1 j2 => hf2 j (by omega))
        by_cases zc : cntK P1 i (nI yn) < n
        · skip
          rw [if_pos (show min n (cntK P1 i (nI yn)) < n by omega)] at hS3 ⊢
          rw [zfs, if_pos zc] at zih
          refine G.if_eq 65 dX3_giveFirst_50 rfl (fun c50 => ?_) (fun c50 => ?_)
          · skip
            exact absurd c50 (by decide)
          · skip
            refine G.aload_n 1 rfl rfl dX3_giveFirst_53 ?_
            refine G.aload_n 2 rfl rfl dX3_giveFirst_54 ?_
            refine G.iload 4 rfl dX3_giveFirst_55 ?_
            refine G.callS (n := 3) (c_X3_giveAgain hR2 hP2 hN hN1 (by decide) (by decide) (show i < 1000000 by omega)) rfl tb_461 tb_462 tb_36 tb_463 (by decide +kernel) rfl ⟨(Nat.le_of_ble_eq_true rfl), (Nat.le_of_ble_eq_true rfl)⟩ ⟨rfl, rfl⟩ (Nat.le_of_ble_eq_true rfl) ⟨Nat.zero_le _, Nat.zero_le _⟩ dX3_giveFirst_57 (fun gr8 zw3 hp => ?_)
            obtain ⟨rfl, hR3, hf3⟩ := hp
            rw [if_pos zlt] at hR3 ⊢
            refine G.if_ne 65 dX3_giveFirst_60 rfl (fun c60 => ?_) (fun c60 => ?_)
            · skip
              refine G.iinc (v := nI (i + 1)) [(4, .int (nI (i + 1))), (0, .ref (ad kp)), (1, .ref (ad r)), (2, .ref (ad r1)), (3, .int (nI n))] 4 dX3_giveFirst_65 rfl (nI_add i 1) (by decide) rfl ?_
              refine G.goto 30 dX3_giveFirst_68 rfl ?_
              refine G.pick [1, 2, 3, 4, 0] [(0, .ref (ad kp)), (1, .ref (ad r)), (2, .ref (ad r1)), (3, .int (nI n)), (4, .int (nI (i + 1)))] rfl ?_
              refine zih zw3 _ (by omega) hR3 ((hf3 _ (by omega)).trans hS3) (fun y hy2 => ?_) (fun j j1 j2 => (hf3 j j2).trans ((hf2 j j1).trans (hf1 j j1 j2)))
              rw [zcn y hy2]
              by_cases q : y = yn
              · subst q; rw [pk_us, if_pos rfl]; congr 1; omega
              · rw [pk_un q, if_neg q, hS2 y hy2]; rfl
            · skip
              exact absurd c60 (by decide)
        · skip
          rw [if_neg (show ¬ min n (cntK P1 i (nI yn)) < n by omega)] at hS3 ⊢
          rw [zfs, if_neg zc, List.append_nil] at zih
          refine G.if_eq 65 dX3_giveFirst_50 rfl (fun c50 => ?_) (fun c50 => ?_)
          · skip
            refine G.iinc (v := nI (i + 1)) [(4, .int (nI (i + 1))), (0, .ref (ad kp)), (1, .ref (ad r)), (2, .ref (ad r1)), (3, .int (nI n))] 4 dX3_giveFirst_65 rfl (nI_add i 1) (by decide) rfl ?_
            refine G.goto 30 dX3_giveFirst_68 rfl ?_
            refine G.pick [1, 2, 3, 4, 0] [(0, .ref (ad kp)), (1, .ref (ad r)), (2, .ref (ad r1)), (3, .int (nI n)), (4, .int (nI (i + 1)))] rfl ?_
            refine zih zw2 _ (by omega) hR2 hS3 (fun y hy2 => ?_) (fun j j1 j2 => (hf2 j j1).trans (hf1 j j1 j2))
            rw [zcn y hy2, hS2 y hy2]
            by_cases q : y = yn
            · subst q; rw [if_pos rfl]; congr 1; omega
            · rw [if_neg q]; rfl
          · skip
            exact absurd rfl c50
  have loop1 : ∀ (m i : Nat) (zw : Nat → va_E) (S : Nat → Int32), i + m = 6 → zw (kp + 4) = .inl (t.2.1, 6, .inl S) → (∀ y, y < i → S y = nI 0) → (∀ j, j ≠ kp + 4 → zw j = w j) → G l t (rD 3) P cX3_giveFirst 5 RX3 (some .boolean) post 0 0 N ad 0 0 3 [(0, .ref (ad kp)), (1, .ref (ad r)), (2, .ref (ad r1)), (3, .int (nI n)), (4, .int (nI i))] [] zw := by
    intro m
    induction m with
    | zero =>
      intro i zw S hi hS hS2 hf1
      have e0 := (hf1 kp (by omega)).trans h0
      refine G.iload 4 rfl dX3_giveFirst_3 ?_
      refine G.aload_n 0 rfl rfl dX3_giveFirst_5 ?_
      refine G.get kp (by omega) e0 rfl twX3 1 (by decide) tb_112 rfl rfl dX3_giveFirst_6 ?_
      refine G.alen (kp + 4) (by omega) 0 hS rfl (v := nI 6) rfl dX3_giveFirst_9 ?_
      refine G.ncmp_ge 27 dX3_giveFirst_10 rfl (by omega) (by omega) (fun c10 => ?_) (fun c10 => ?_)
      · skip
        refine G.iconst (v := nI 0) dX3_giveFirst_27 (by decide +kernel) ?_
        refine G.istore [(4, .int (nI 0)), (0, .ref (ad kp)), (1, .ref (ad r)), (2, .ref (ad r1)), (3, .int (nI n))] dX3_giveFirst_28 (by decide) rfl ?_
        refine G.pick [1, 2, 3, 4, 0] [(0, .ref (ad kp)), (1, .ref (ad r)), (2, .ref (ad r1)), (3, .int (nI n)), (4, .int (nI 0))] rfl ?_
        exact loop2 P1.length 0 zw S (by omega) (hR.keep (fun j j1 j2 => hf1 j (by omega))) hS (fun y hy => by rw [hS2 y (by omega)]; simp [cntK]) (fun j j1 _ => hf1 j j1)
      · skip
        omega
    | succ m ih =>
      intro i zw S hi hS hS2 hf1
      have e0 := (hf1 kp (by omega)).trans h0
      refine G.iload 4 rfl dX3_giveFirst_3 ?_
      refine G.aload_n 0 rfl rfl dX3_giveFirst_5 ?_
      refine G.get kp (by omega) e0 rfl twX3 1 (by decide) tb_112 rfl rfl dX3_giveFirst_6 ?_
      refine G.alen (kp + 4) (by omega) 0 hS rfl (v := nI 6) rfl dX3_giveFirst_9 ?_
      refine G.ncmp_ge 27 dX3_giveFirst_10 rfl (by omega) (by omega) (fun c10 => ?_) (fun c10 => ?_)
      · skip
        omega
      · skip
        refine G.aload_n 0 rfl rfl dX3_giveFirst_13 ?_
        refine G.get kp (by omega) e0 rfl twX3 1 (by decide) tb_112 rfl rfl dX3_giveFirst_14 ?_
        refine G.iload 4 rfl dX3_giveFirst_17 ?_
        refine G.iconst (v := nI 0) dX3_giveFirst_19 (by decide +kernel) ?_
        refine G.iast (kp + 4) (by omega) hS i (rfl) (by omega) (by omega) dX3_giveFirst_20 (fun gw9 gh10 gf11 => ?_)
        refine G.iinc (v := nI (i + 1)) [(4, .int (nI (i + 1))), (0, .ref (ad kp)), (1, .ref (ad r)), (2, .ref (ad r1)), (3, .int (nI n))] 4 dX3_giveFirst_21 rfl (nI_add i 1) (by decide) rfl ?_
        refine G.goto 3 dX3_giveFirst_24 rfl ?_
        have z1 := gh10
        have hfr : ∀ i, i ≠ kp + 4 → gw9 i = zw i := fun i hi => gf11 i (by omega)
        refine G.pick [1, 2, 3, 4, 0] [(0, .ref (ad kp)), (1, .ref (ad r)), (2, .ref (ad r1)), (3, .int (nI n)), (4, .int (nI (i + 1)))] rfl ?_
        refine ih (i + 1) _ _ (by omega) z1 (fun y hy => ?_) (fun j hj => (hfr j hj).trans (hf1 j hj))
        by_cases q : y = i
        · subst q; rw [pk_us]
        · rw [pk_un q]; exact hS2 y (by omega)
  exact loop1 6 0 w S0 rfl h1 (fun y hy => by omega) (fun _ _ => rfl)
end PassB

