/-! Pass: rows given again, pairs, each, falls, first -/
section PassA
variable {l : Launch} {t : TT} {N : Nat} {ad : Nat → Nat} {w : Nat → va_E} {r r1 r2 cap cap1 cap2 : Nat} {L P1 Q1 : List RW}
theorem c_X3_giveAgain (hR : isRows t ad w r cap L) (hP : isRows t ad w r1 cap1 P1) (hN : r + 4 ≤ N) (hN1 : r1 + 4 ≤ N) (hc : cap < 1000000) (hc1 : cap1 < 1000000) {i : Nat} (hi : i < 1000000) :
    K l t yX3_giveAgain cX3_giveAgain 3 (some .boolean) (rD 2) N ad w [.ref (ad r), .ref (ad r1), .int (nI i)]
      (fun res w' => res = some (.int (if L.length < cap then 1 else 0)) ∧ isRows t ad w' r cap (if L.length < cap then L ++ [P1.getD i r0] else L) ∧ ∀ q, q < r ∨ r + 4 ≤ q → w' q = w q) := by
  refine K.of (own := RX3) (lv := [(0, .ref (ad r)), (1, .ref (ad r1)), (2, .int (nI i))]) (by decide +kernel) rfl (Nat.le_of_ble_eq_true rfl) rfl (fun P post hret => ?_)
  refine G.aload_n 0 rfl rfl dX3_giveAgain_0 ?_
  refine G.aload_n 1 rfl rfl dX3_giveAgain_1 ?_
  refine G.iload_n 2 rfl rfl dX3_giveAgain_2 ?_
  refine G.callV (n := 1) r1 (c_X4_timeAt hP hN1 hc1 (nI i)) rfl (by omega) hP.obj rfl tb_403 tb_404 tb_405 tb_39 tb_406 (by decide +kernel) rfl ⟨(Nat.le_of_ble_eq_true rfl), (Nat.le_of_ble_eq_true rfl)⟩ ⟨rfl, rfl⟩ (Nat.le_of_ble_eq_true rfl) ⟨Nat.zero_le _, Nat.zero_le _⟩ dX3_giveAgain_3 (fun gr2 gw1 hp => ?_)
  obtain ⟨rfl, rfl⟩ := hp
  refine G.aload_n 1 rfl rfl dX3_giveAgain_6 ?_
  refine G.iload_n 2 rfl rfl dX3_giveAgain_7 ?_
  refine G.callV (n := 1) r1 (c_X4_keyAt hP hN1 hc1 (nI i)) rfl (by omega) hP.obj rfl tb_407 tb_408 tb_409 tb_39 tb_410 (by decide +kernel) rfl ⟨(Nat.le_of_ble_eq_true rfl), (Nat.le_of_ble_eq_true rfl)⟩ ⟨rfl, rfl⟩ (Nat.le_of_ble_eq_true rfl) ⟨Nat.zero_le _, Nat.zero_le _⟩ dX3_giveAgain_8 (fun gr4 gw3 hp => ?_)
  obtain ⟨rfl, rfl⟩ := hp
  refine G.aload_n 1 rfl rfl dX3_giveAgain_11 ?_
  refine G.iload_n 2 rfl rfl dX3_giveAgain_12 ?_
  refine G.callV (n := 1) r1 (c_X4_valueAt hP hN1 hc1 (nI i)) rfl (by omega) hP.obj rfl tb_380 tb_381 tb_382 tb_39 tb_383 (by decide +kernel) rfl ⟨(Nat.le_of_ble_eq_true rfl), (Nat.le_of_ble_eq_true rfl)⟩ ⟨rfl, rfl⟩ (Nat.le_of_ble_eq_true rfl) ⟨Nat.zero_le _, Nat.zero_le _⟩ dX3_giveAgain_13 (fun gr6 gw5 hp => ?_)
  obtain ⟨rfl, rfl⟩ := hp
  refine G.callV (n := 3) r (c_X4_add hR hN hc (rAt P1 (nI i)).1 (rAt P1 (nI i)).2.1 (rAt P1 (nI i)).2.2) rfl (by omega) hR.obj rfl tb_411 tb_412 tb_413 tb_39 tb_414 (by decide +kernel) rfl ⟨(Nat.le_of_ble_eq_true rfl), (Nat.le_of_ble_eq_true rfl)⟩ ⟨rfl, rfl⟩ (Nat.le_of_ble_eq_true rfl) ⟨Nat.zero_le _, Nat.zero_le _⟩ dX3_giveAgain_16 (fun gr7 zw hp => ?_)
  obtain ⟨rfl, hR1, hf⟩ := hp
  refine G.zret rfl (by split; exact Or.inr rfl; exact Or.inl rfl) rfl rfl dX3_giveAgain_19 ?_
  rw [rw_eta, rAt_n _ (by omega)] at hR1
  exact hret _ _ ⟨rfl, hR1, hf⟩
theorem c_X3_givePair (hR : isRows t ad w r cap L) (hP : isRows t ad w r1 cap1 P1) (hQ : isRows t ad w r2 cap2 Q1) (hN : r + 4 ≤ N) (hN1 : r1 + 4 ≤ N) (hN2 : r2 + 4 ≤ N) (hc : cap < 1000000) (hc1 : cap1 < 1000000) (hc2 : cap2 < 1000000) {i j : Nat} (hi : i < 1000000) (hj : j < 1000000) :
    K l t yX3_givePair cX3_givePair 6 (some .boolean) (rD 2) N ad w [.ref (ad r), .ref (ad r1), .int (nI i), .ref (ad r2), .int (nI j)]
      (fun res w' => res = some (.int (if L.length < cap then 1 else 0)) ∧ isRows t ad w' r cap (if L.length < cap then ins aboveT L (pairR (P1.getD i r0) (Q1.getD j r0)) else L) ∧ ∀ q, q < r ∨ r + 4 ≤ q → w' q = w q) := by
  refine K.of (own := RX3) (lv := [(0, .ref (ad r)), (1, .ref (ad r1)), (2, .int (nI i)), (3, .ref (ad r2)), (4, .int (nI j))]) (by decide +kernel) rfl (Nat.le_of_ble_eq_true rfl) rfl (fun P post hret => ?_)
  refine G.aload_n 1 rfl rfl dX3_givePair_0 ?_
  refine G.iload_n 2 rfl rfl dX3_givePair_1 ?_
  refine G.callV (n := 1) r1 (c_X4_timeAt hP hN1 hc1 (nI i)) rfl (by omega) hP.obj rfl tb_403 tb_404 tb_405 tb_39 tb_406 (by decide +kernel) rfl ⟨(Nat.le_of_ble_eq_true rfl), (Nat.le_of_ble_eq_true rfl)⟩ ⟨rfl, rfl⟩ (Nat.le_of_ble_eq_true rfl) ⟨Nat.zero_le _, Nat.zero_le _⟩ dX3_givePair_2 (fun gr2 gw1 hp => ?_)
  obtain ⟨rfl, rfl⟩ := hp
  refine G.aload_n 3 rfl rfl dX3_givePair_5 ?_
  refine G.iload 4 rfl dX3_givePair_6 ?_
  refine G.callV (n := 1) r2 (c_X4_timeAt hQ hN2 hc2 (nI j)) rfl (by omega) hQ.obj rfl tb_403 tb_404 tb_405 tb_39 tb_406 (by decide +kernel) rfl ⟨(Nat.le_of_ble_eq_true rfl), (Nat.le_of_ble_eq_true rfl)⟩ ⟨rfl, rfl⟩ (Nat.le_of_ble_eq_true rfl) ⟨Nat.zero_le _, Nat.zero_le _⟩ dX3_givePair_8 (fun gr4 gw3 hp => ?_)
  obtain ⟨rfl, rfl⟩ := hp
  refine G.callS (n := 2) (c_J9_maxI (rAt P1 (nI i)).1 (rAt Q1 (nI j)).1) rfl tb_455 tb_131 tb_40 tb_132 (by decide +kernel) rfl ⟨(Nat.le_of_ble_eq_true rfl), (Nat.le_of_ble_eq_true rfl)⟩ ⟨rfl, rfl⟩ (Nat.le_of_ble_eq_true rfl) ⟨Nat.zero_le _, Nat.zero_le _⟩ dX3_givePair_11 (fun gr6 gw5 hp => ?_)
  obtain ⟨rfl, rfl⟩ := hp
  refine G.istore [(5, .int (if (rAt P1 (nI i)).1 < (rAt Q1 (nI j)).1 then (rAt Q1 (nI j)).1 else (rAt P1 (nI i)).1)), (0, .ref (ad r)), (1, .ref (ad r1)), (2, .int (nI i)), (3, .ref (ad r2)), (4, .int (nI j))] dX3_givePair_14 (by decide) rfl ?_
  refine G.aload_n 1 rfl rfl dX3_givePair_16 ?_
  refine G.iload 0 rfl dX3_givePair_17 ?_
  refine G.aload_n 2 rfl rfl dX3_givePair_19 ?_
  refine G.iload_n 3 rfl rfl dX3_givePair_20 ?_
  refine G.callV (n := 1) r1 (c_X4_keyAt hP hN1 hc1 (nI i)) rfl (by omega) hP.obj rfl tb_407 tb_408 tb_409 tb_39 tb_410 (by decide +kernel) rfl ⟨(Nat.le_of_ble_eq_true rfl), (Nat.le_of_ble_eq_true rfl)⟩ ⟨rfl, rfl⟩ (Nat.le_of_ble_eq_true rfl) ⟨Nat.zero_le _, Nat.zero_le _⟩ dX3_givePair_21 (fun gr8 gw7 hp => ?_)
  obtain ⟨rfl, rfl⟩ := hp
  refine G.ldc2_w dX3_givePair_24 tb_456 ?_
  refine G.aload_n 2 rfl rfl dX3_givePair_27 ?_
  refine G.iload_n 3 rfl rfl dX3_givePair_28 ?_
  refine G.callV (n := 1) r1 (c_X4_valueAt hP hN1 hc1 (nI i)) rfl (by omega) hP.obj rfl tb_380 tb_381 tb_382 tb_39 tb_383 (by decide +kernel) rfl ⟨(Nat.le_of_ble_eq_true rfl), (Nat.le_of_ble_eq_true rfl)⟩ ⟨rfl, rfl⟩ (Nat.le_of_ble_eq_true rfl) ⟨Nat.zero_le _, Nat.zero_le _⟩ dX3_givePair_29 (fun gr10 gw9 hp => ?_)
  obtain ⟨rfl, rfl⟩ := hp
  refine G.lmul dX3_givePair_32 ?_
  refine G.aload_n 4 rfl rfl dX3_givePair_33 ?_
  refine G.iload 5 rfl dX3_givePair_34 ?_
  refine G.callV (n := 1) r2 (c_X4_valueAt hQ hN2 hc2 (nI j)) rfl (by omega) hQ.obj rfl tb_380 tb_381 tb_382 tb_39 tb_383 (by decide +kernel) rfl ⟨(Nat.le_of_ble_eq_true rfl), (Nat.le_of_ble_eq_true rfl)⟩ ⟨rfl, rfl⟩ (Nat.le_of_ble_eq_true rfl) ⟨Nat.zero_le _, Nat.zero_le _⟩ dX3_givePair_36 (fun gr12 gw11 hp => ?_)
  obtain ⟨rfl, rfl⟩ := hp
  refine G.ladd dX3_givePair_39 ?_
  refine G.callV (n := 3) r (c_X4_addByTime hR hN hc _ _ _) rfl (by omega) hR.obj rfl tb_457 tb_358 tb_359 tb_39 tb_360 (by decide +kernel) rfl ⟨(Nat.le_of_ble_eq_true rfl), (Nat.le_of_ble_eq_true rfl)⟩ ⟨rfl, rfl⟩ (Nat.le_of_ble_eq_true rfl) ⟨Nat.zero_le _, Nat.zero_le _⟩ dX3_givePair_40 (fun gr13 zw hp => ?_)
  obtain ⟨rfl, hR1, hf⟩ := hp
  refine G.zret rfl (by split; exact Or.inr rfl; exact Or.inl rfl) rfl rfl dX3_givePair_43 ?_
  rw [rAt_n P1 (by omega), rAt_n Q1 (by omega)] at hR1
  exact hret _ _ ⟨rfl, hR1, hf⟩
theorem c_X3_giveOne {k kd : Nat} {p q a b u z x : Int32} (h0 : w k = .inr (2, opF ad k (nI kd) p q a b u z x)) (hR : isRows t ad w (k + 1) 200 L) (hlt : L.length < 200) (hP : isRows t ad w r1 cap1 P1) (hN : k + 9 ≤ N) (hN1 : r1 + 4 ≤ N) (hc1 : cap1 < 1000000) (hkd : kd < 10) {i : Nat} (hi : i < 1000000) (v : Int64) :
    K l t yX3_giveOne cX3_giveOne 5 (some .boolean) (rD 2) N ad w [.ref (ad k), .ref (ad r1), .int (nI i), .long v]
      (fun res w' => res = some (.int 1) ∧ isRows t ad w' (k + 1) 200 (L ++ eachR kd (P1.getD i r0) v) ∧ ∀ q, q < k + 1 ∨ k + 5 ≤ q → w' q = w q) := by
  have zi : rAt P1 (nI i) = P1.getD i r0 := rAt_n _ (by omega)
  refine K.of (own := RX3) (lv := [(0, .ref (ad k)), (1, .ref (ad r1)), (2, .int (nI i)), (3, .long v)]) (by decide +kernel) rfl (Nat.le_of_ble_eq_true rfl) rfl (fun P post hret => ?_)
  refine G.aload_n 0 rfl rfl dX3_giveOne_0 ?_
  refine G.getN k (by omega) h0 rfl twX2 2 (by decide) _ (List.mem_of_getElem? (i := 3) rfl) rfl rfl rfl dX3_giveOne_1 ?_
  refine G.iconst (v := nI 1) dX3_giveOne_4 (by decide +kernel) ?_
  refine G.ncmp_ne 27 dX3_giveOne_5 rfl (by omega) (by omega) (fun c5 => ?_) (fun c5 => ?_)
  · skip
    refine G.aload_n 0 rfl rfl dX3_giveOne_27 ?_
    refine G.getN k (by omega) h0 rfl twX2 2 (by decide) _ (List.mem_of_getElem? (i := 3) rfl) rfl rfl rfl dX3_giveOne_28 ?_
    refine G.iconst (v := nI 3) dX3_giveOne_31 (by decide +kernel) ?_
    refine G.ncmp_ne 61 dX3_giveOne_32 rfl (by omega) (by omega) (fun c32 => ?_) (fun c32 => ?_)
    · skip
      refine G.lload_n 3 rfl rfl dX3_giveOne_61 ?_
      refine G.lconst (v := 0) dX3_giveOne_62 (by decide +kernel) ?_
      refine G.lcmp dX3_giveOne_63 ?_
      refine G.if_le 92 dX3_giveOne_64 rfl (fun c64 => ?_) (fun c64 => ?_)
      · skip
        refine G.iconst (v := nI 1) dX3_giveOne_92 (by decide +kernel) ?_
        refine G.goto 97 dX3_giveOne_93 rfl ?_
        refine G.zret rfl (by decide) rfl rfl dX3_giveOne_97 ?_
        refine hret _ _ ⟨rfl, ?_, fun _ _ => rfl⟩
        rw [eachR, if_neg c5, if_neg c32, if_neg (fun q => absurd (lgc_le.mp c64) (Int64.not_le.mpr q)), List.append_nil]
        exact hR
      · skip
        refine G.aload_n 0 rfl rfl dX3_giveOne_67 ?_
        refine G.getN k (by omega) h0 rfl twX2 0 (by decide) _ (List.mem_of_getElem? (i := 0) rfl) rfl rfl rfl dX3_giveOne_68 ?_
        refine G.aload_n 1 rfl rfl dX3_giveOne_71 ?_
        refine G.iload_n 2 rfl rfl dX3_giveOne_72 ?_
        refine G.callV (n := 1) r1 (c_X4_timeAt hP hN1 hc1 (nI i)) rfl (by omega) hP.obj rfl tb_403 tb_404 tb_405 tb_39 tb_406 (by decide +kernel) rfl ⟨(Nat.le_of_ble_eq_true rfl), (Nat.le_of_ble_eq_true rfl)⟩ ⟨rfl, rfl⟩ (Nat.le_of_ble_eq_true rfl) ⟨Nat.zero_le _, Nat.zero_le _⟩ dX3_giveOne_73 (fun gr2 gw1 hp => ?_)
        obtain ⟨rfl, rfl⟩ := hp
        refine G.aload_n 1 rfl rfl dX3_giveOne_76 ?_
        refine G.iload_n 2 rfl rfl dX3_giveOne_77 ?_
        refine G.callV (n := 1) r1 (c_X4_keyAt hP hN1 hc1 (nI i)) rfl (by omega) hP.obj rfl tb_407 tb_408 tb_409 tb_39 tb_410 (by decide +kernel) rfl ⟨(Nat.le_of_ble_eq_true rfl), (Nat.le_of_ble_eq_true rfl)⟩ ⟨rfl, rfl⟩ (Nat.le_of_ble_eq_true rfl) ⟨Nat.zero_le _, Nat.zero_le _⟩ dX3_giveOne_78 (fun gr4 gw3 hp => ?_)
        obtain ⟨rfl, rfl⟩ := hp
        refine G.aload_n 1 rfl rfl dX3_giveOne_81 ?_
        refine G.iload_n 2 rfl rfl dX3_giveOne_82 ?_
        refine G.callV (n := 1) r1 (c_X4_valueAt hP hN1 hc1 (nI i)) rfl (by omega) hP.obj rfl tb_380 tb_381 tb_382 tb_39 tb_383 (by decide +kernel) rfl ⟨(Nat.le_of_ble_eq_true rfl), (Nat.le_of_ble_eq_true rfl)⟩ ⟨rfl, rfl⟩ (Nat.le_of_ble_eq_true rfl) ⟨Nat.zero_le _, Nat.zero_le _⟩ dX3_giveOne_83 (fun gr6 gw5 hp => ?_)
        obtain ⟨rfl, rfl⟩ := hp
        refine G.callV (n := 3) (k + 1) (c_X4_add hR (by omega) (by decide) (rAt P1 (nI i)).1 (rAt P1 (nI i)).2.1 (rAt P1 (nI i)).2.2) rfl (by omega) hR.obj rfl tb_411 tb_412 tb_413 tb_39 tb_414 (by decide +kernel) rfl ⟨(Nat.le_of_ble_eq_true rfl), (Nat.le_of_ble_eq_true rfl)⟩ ⟨rfl, rfl⟩ (Nat.le_of_ble_eq_true rfl) ⟨Nat.zero_le _, Nat.zero_le _⟩ dX3_giveOne_86 (fun gr7 zw hp => ?_)
        obtain ⟨rfl, hR1, hf⟩ := hp
        rw [if_pos hlt] at hR1 ⊢
        refine G.if_eq 96 dX3_giveOne_89 rfl (fun c89 => ?_) (fun c89 => ?_)
        · skip
          exact absurd c89 (by decide)
        · skip
          refine G.iconst (v := nI 1) dX3_giveOne_92 (by decide +kernel) ?_
          refine G.goto 97 dX3_giveOne_93 rfl ?_
          refine G.zret rfl (by decide) rfl rfl dX3_giveOne_97 ?_
          refine hret _ _ ⟨rfl, ?_, fun q hq => hf q (by omega)⟩
          rw [eachR, if_neg c5, if_neg c32, if_pos (Int64.not_le.mp (fun q => c64 (lgc_le.mpr q))), ← zi]
          exact hR1
    · skip
      refine G.aload_n 0 rfl rfl dX3_giveOne_35 ?_
      refine G.getN k (by omega) h0 rfl twX2 0 (by decide) _ (List.mem_of_getElem? (i := 0) rfl) rfl rfl rfl dX3_giveOne_36 ?_
      refine G.aload_n 1 rfl rfl dX3_giveOne_39 ?_
      refine G.iload_n 2 rfl rfl dX3_giveOne_40 ?_
      refine G.callV (n := 1) r1 (c_X4_timeAt hP hN1 hc1 (nI i)) rfl (by omega) hP.obj rfl tb_403 tb_404 tb_405 tb_39 tb_406 (by decide +kernel) rfl ⟨(Nat.le_of_ble_eq_true rfl), (Nat.le_of_ble_eq_true rfl)⟩ ⟨rfl, rfl⟩ (Nat.le_of_ble_eq_true rfl) ⟨Nat.zero_le _, Nat.zero_le _⟩ dX3_giveOne_41 (fun gr9 gw8 hp => ?_)
      obtain ⟨rfl, rfl⟩ := hp
      refine G.lload_n 3 rfl rfl dX3_giveOne_44 ?_
      refine G.ldc2_w dX3_giveOne_45 tb_415 ?_
      refine G.callS (n := 2) (c_J9_floorMod v 6 (by decide)) rfl tb_416 tb_417 tb_40 tb_418 (by decide +kernel) rfl ⟨(Nat.le_of_ble_eq_true rfl), (Nat.le_of_ble_eq_true rfl)⟩ ⟨rfl, rfl⟩ (Nat.le_of_ble_eq_true rfl) ⟨Nat.zero_le _, Nat.zero_le _⟩ dX3_giveOne_48 (fun gr11 gw10 hp => ?_)
      obtain ⟨rfl, rfl⟩ := hp
      refine G.l2i dX3_giveOne_51 ?_
      refine G.aload_n 1 rfl rfl dX3_giveOne_52 ?_
      refine G.iload_n 2 rfl rfl dX3_giveOne_53 ?_
      refine G.callV (n := 1) r1 (c_X4_valueAt hP hN1 hc1 (nI i)) rfl (by omega) hP.obj rfl tb_380 tb_381 tb_382 tb_39 tb_383 (by decide +kernel) rfl ⟨(Nat.le_of_ble_eq_true rfl), (Nat.le_of_ble_eq_true rfl)⟩ ⟨rfl, rfl⟩ (Nat.le_of_ble_eq_true rfl) ⟨Nat.zero_le _, Nat.zero_le _⟩ dX3_giveOne_54 (fun gr13 gw12 hp => ?_)
      obtain ⟨rfl, rfl⟩ := hp
      refine G.callV (n := 3) (k + 1) (c_X4_add hR (by omega) (by decide) (rAt P1 (nI i)).1 (fmod v 6).toInt32 (rAt P1 (nI i)).2.2) rfl (by omega) hR.obj rfl tb_411 tb_412 tb_413 tb_39 tb_414 (by decide +kernel) rfl ⟨(Nat.le_of_ble_eq_true rfl), (Nat.le_of_ble_eq_true rfl)⟩ ⟨rfl, rfl⟩ (Nat.le_of_ble_eq_true rfl) ⟨Nat.zero_le _, Nat.zero_le _⟩ dX3_giveOne_57 (fun gr14 zw hp => ?_)
      obtain ⟨rfl, hR1, hf⟩ := hp
      rw [if_pos hlt] at hR1 ⊢
      refine G.zret rfl (Or.inr rfl) rfl rfl dX3_giveOne_60 ?_
      refine hret _ _ ⟨rfl, ?_, fun q hq => hf q (by omega)⟩
      rw [eachR, if_neg c5, if_pos c32, ← zi]
      exact hR1
  · skip
    refine G.aload_n 0 rfl rfl dX3_giveOne_8 ?_
    refine G.getN k (by omega) h0 rfl twX2 0 (by decide) _ (List.mem_of_getElem? (i := 0) rfl) rfl rfl rfl dX3_giveOne_9 ?_
    refine G.aload_n 1 rfl rfl dX3_giveOne_12 ?_
    refine G.iload_n 2 rfl rfl dX3_giveOne_13 ?_
    refine G.callV (n := 1) r1 (c_X4_timeAt hP hN1 hc1 (nI i)) rfl (by omega) hP.obj rfl tb_403 tb_404 tb_405 tb_39 tb_406 (by decide +kernel) rfl ⟨(Nat.le_of_ble_eq_true rfl), (Nat.le_of_ble_eq_true rfl)⟩ ⟨rfl, rfl⟩ (Nat.le_of_ble_eq_true rfl) ⟨Nat.zero_le _, Nat.zero_le _⟩ dX3_giveOne_14 (fun gr16 gw15 hp => ?_)
    obtain ⟨rfl, rfl⟩ := hp
    refine G.aload_n 1 rfl rfl dX3_giveOne_17 ?_
    refine G.iload_n 2 rfl rfl dX3_giveOne_18 ?_
    refine G.callV (n := 1) r1 (c_X4_keyAt hP hN1 hc1 (nI i)) rfl (by omega) hP.obj rfl tb_407 tb_408 tb_409 tb_39 tb_410 (by decide +kernel) rfl ⟨(Nat.le_of_ble_eq_true rfl), (Nat.le_of_ble_eq_true rfl)⟩ ⟨rfl, rfl⟩ (Nat.le_of_ble_eq_true rfl) ⟨Nat.zero_le _, Nat.zero_le _⟩ dX3_giveOne_19 (fun gr18 gw17 hp => ?_)
    obtain ⟨rfl, rfl⟩ := hp
    refine G.lload_n 3 rfl rfl dX3_giveOne_22 ?_
    refine G.callV (n := 3) (k + 1) (c_X4_add hR (by omega) (by decide) (rAt P1 (nI i)).1 (rAt P1 (nI i)).2.1 v) rfl (by omega) hR.obj rfl tb_411 tb_412 tb_413 tb_39 tb_414 (by decide +kernel) rfl ⟨(Nat.le_of_ble_eq_true rfl), (Nat.le_of_ble_eq_true rfl)⟩ ⟨rfl, rfl⟩ (Nat.le_of_ble_eq_true rfl) ⟨Nat.zero_le _, Nat.zero_le _⟩ dX3_giveOne_23 (fun gr19 zw hp => ?_)
    obtain ⟨rfl, hR1, hf⟩ := hp
    rw [if_pos hlt] at hR1 ⊢
    refine G.zret rfl (Or.inr rfl) rfl rfl dX3_giveOne_26 ?_
    refine hret _ _ ⟨rfl, ?_, fun q hq => hf q (by omega)⟩
    rw [eachR, if_pos c5, ← zi]
    exact hR1
theorem c_X3_giveEach {k kd f kt : Nat} {I : Nat → Int32} {p q c u : Int32} (h0 : w k = .inr (2, opF ad k (nI kd) p q (nI f) c u (nI 0) (nI 0))) (hR : isRows t ad w (k + 1) 200 []) (hP : isRows t ad w r1 200 P1) (hT : isTab t ad w kt I) (hN : k + 9 ≤ N) (hN1 : r1 + 4 ≤ N) (hN2 : kt + 2 ≤ N) (hd1 : r1 + 4 ≤ k ∨ k + 9 ≤ r1) (hd2 : kt + 2 ≤ k ∨ k + 9 ≤ kt) (hkd : kd < 10) (hf6 : f ≤ 6) :
    K l t yX3_giveEach cX3_giveEach 5 (some .boolean) (rD 3) N ad w [.ref (ad k), .ref (ad r1), .ref (ad kt)]
      (fun res w' => res = some (.int 1) ∧ w' k = .inr (2, opF ad k (nI kd) p q (nI f) c u (nI (failN 0 f c P1)) (nI (failN 1 f c P1))) ∧ isRows t ad w' (k + 1) 200 (eachL I kd f c P1) ∧ ∀ i, i < k ∨ k + 5 ≤ i → w' i = w i) := by
  have zp := hP.le
  refine K.of (own := RX3) (lv := [(0, .ref (ad k)), (1, .ref (ad r1)), (2, .ref (ad kt))]) (by decide +kernel) rfl (Nat.le_of_ble_eq_true rfl) rfl (fun P post hret => ?_)
  refine G.iconst (v := nI 0) dX3_giveEach_0 (by decide +kernel) ?_
  refine G.istore_n [(3, .int (nI 0)), (0, .ref (ad k)), (1, .ref (ad r1)), (2, .ref (ad kt))] dX3_giveEach_1 rfl (by decide) rfl ?_
  refine G.pick [1, 2, 3, 0] [(0, .ref (ad k)), (1, .ref (ad r1)), (2, .ref (ad kt)), (3, .int (nI 0))] rfl ?_
  have loop : ∀ (m i : Nat) (zw : Nat → va_E), i + m = P1.length → zw k = .inr (2, opF ad k (nI kd) p q (nI f) c u (nI (failN 0 f c (P1.take i))) (nI (failN 1 f c (P1.take i)))) → isRows t ad zw (k + 1) 200 (eachL I kd f c (P1.take i)) → (∀ j, j < k ∨ k + 5 ≤ j → zw j = w j) → G l t (rD 3) P cX3_giveEach 5 RX3 (some .boolean) post 0 0 N ad 0 0 2 [(0, .ref (ad k)), (1, .ref (ad r1)), (2, .ref (ad kt)), (3, .int (nI i))] [] zw := by
    intro m
    induction m with
    | zero =>
      intro i zw hi e0 hR1 hf1
      have hP1 : isRows t ad zw r1 200 P1 := hP.keep (fun j j1 j2 => hf1 j (by omega))
      rw [List.take_of_length_le (by omega)] at e0 hR1
      refine G.iload_n 3 rfl rfl dX3_giveEach_2 ?_
      refine G.aload_n 1 rfl rfl dX3_giveEach_3 ?_
      refine G.callV (n := 0) r1 (c_X4_size hP1 hN1) rfl (by omega) hP1.obj rfl tb_376 tb_377 tb_378 tb_39 tb_379 (by decide +kernel) rfl ⟨(Nat.le_of_ble_eq_true rfl), (Nat.le_of_ble_eq_true rfl)⟩ ⟨rfl, rfl⟩ (Nat.le_of_ble_eq_true rfl) ⟨Nat.zero_le _, Nat.zero_le _⟩ dX3_giveEach_4 (fun gr2 gw1 hp => ?_)
      obtain ⟨rfl, rfl⟩ := hp
      refine G.ncmp_ge 78 dX3_giveEach_7 rfl (by omega) (by omega) (fun c7 => ?_) (fun c7 => ?_)
      · skip
        refine G.iconst (v := nI 1) dX3_giveEach_78 (by decide +kernel) ?_
        refine G.zret rfl (by decide) rfl rfl dX3_giveEach_79 ?_
        exact hret _ _ ⟨rfl, e0, hR1, hf1⟩
      · skip
        omega
    | succ m ih =>
      intro i zw hi e0 hR1 hf1
      have hP1 : isRows t ad zw r1 200 P1 := hP.keep (fun j j1 j2 => hf1 j (by omega))
      have hT1 : isTab t ad zw kt I := hT.keep (fun j j1 j2 => hf1 j (by omega))
      have zlt : (eachL I kd f c (P1.take i)).length < 200 := by
        have za := flat_len (each1_len I kd f c) (P1.take i)
        rw [List.length_take] at za
        unfold eachL; omega
      have zE : eachL I kd f c (P1.take (i + 1)) = eachL I kd f c (P1.take i) ++ each1 I kd f c (P1.getD i r0) := flat_take _ (by omega)
      have zF : ∀ y, failN y f c (P1.take (i + 1)) = failN y f c (P1.take i) + (if ffail f (P1.getD i r0).2.2 c = y then 1 else 0) := fun y => by
        unfold failN; rw [count_take _ (by omega)]; simp
      have zr : rAt P1 (nI i) = P1.getD i r0 := rAt_n _ (by omega)
      have zih := ih (i + 1)
      rw [zE, zF 0, zF 1] at zih
      obtain ⟨I', t0, t1, t2⟩ := id hT1
      refine G.iload_n 3 rfl rfl dX3_giveEach_2 ?_
      refine G.aload_n 1 rfl rfl dX3_giveEach_3 ?_
      refine G.callV (n := 0) r1 (c_X4_size hP1 hN1) rfl (by omega) hP1.obj rfl tb_376 tb_377 tb_378 tb_39 tb_379 (by decide +kernel) rfl ⟨(Nat.le_of_ble_eq_true rfl), (Nat.le_of_ble_eq_true rfl)⟩ ⟨rfl, rfl⟩ (Nat.le_of_ble_eq_true rfl) ⟨Nat.zero_le _, Nat.zero_le _⟩ dX3_giveEach_4 (fun gr4 gw3 hp => ?_)
      obtain ⟨rfl, rfl⟩ := hp
      refine G.ncmp_ge 78 dX3_giveEach_7 rfl (by omega) (by omega) (fun c7 => ?_) (fun c7 => ?_)
      · skip
        omega
      · skip
        refine G.aload_n 2 rfl rfl dX3_giveEach_10 ?_
        refine G.aload_n 0 rfl rfl dX3_giveEach_11 ?_
        refine G.getN k (by omega) e0 rfl twX2 5 (by decide) _ (List.mem_of_getElem? (i := 7) rfl) rfl rfl rfl dX3_giveEach_12 ?_
        refine G.aload_n 1 rfl rfl dX3_giveEach_15 ?_
        refine G.iload_n 3 rfl rfl dX3_giveEach_16 ?_
        refine G.callV (n := 1) r1 (c_X4_valueAt hP1 hN1 (by decide) (nI i)) rfl (by omega) hP1.obj rfl tb_380 tb_381 tb_382 tb_39 tb_383 (by decide +kernel) rfl ⟨(Nat.le_of_ble_eq_true rfl), (Nat.le_of_ble_eq_true rfl)⟩ ⟨rfl, rfl⟩ (Nat.le_of_ble_eq_true rfl) ⟨Nat.zero_le _, Nat.zero_le _⟩ dX3_giveEach_17 (fun gr6 gw5 hp => ?_)
        obtain ⟨rfl, rfl⟩ := hp
        refine G.aload_n 0 rfl rfl dX3_giveEach_20 ?_
        refine G.getN k (by omega) e0 rfl twX2 6 (by decide) _ (List.mem_of_getElem? (i := 9) rfl) rfl rfl rfl dX3_giveEach_21 ?_
        refine G.callV (n := 3) kt (c_X6_failureOf hT1 hN2 hf6 (rAt P1 (nI i)).2.2 c) rfl (by omega) t0 rfl tb_384 tb_385 tb_386 tb_35 tb_387 (by decide +kernel) rfl ⟨(Nat.le_of_ble_eq_true rfl), (Nat.le_of_ble_eq_true rfl)⟩ ⟨rfl, rfl⟩ (Nat.le_of_ble_eq_true rfl) ⟨Nat.zero_le _, Nat.zero_le _⟩ dX3_giveEach_24 (fun gr8 gw7 hp => ?_)
        obtain ⟨rfl, rfl⟩ := hp
        refine G.istore [(4, .int (ffail f (rAt P1 (nI i)).2.2 c)), (0, .ref (ad k)), (1, .ref (ad r1)), (2, .ref (ad kt)), (3, .int (nI i))] dX3_giveEach_27 (by decide) rfl ?_
        refine G.iload 0 rfl dX3_giveEach_29 ?_
        refine G.iconst (v := -1) dX3_giveEach_31 (by decide +kernel) ?_
        refine G.icmp_eq 44 dX3_giveEach_32 rfl (fun c32 => ?_) (fun c32 => ?_)
        · skip
          refine G.aload_n 1 rfl rfl dX3_giveEach_44 ?_
          refine G.aload_n 2 rfl rfl dX3_giveEach_45 ?_
          refine G.iload_n 4 rfl rfl dX3_giveEach_46 ?_
          refine G.aload_n 3 rfl rfl dX3_giveEach_47 ?_
          refine G.aload_n 1 rfl rfl dX3_giveEach_48 ?_
          refine G.getN k (by omega) e0 rfl twX2 5 (by decide) _ (List.mem_of_getElem? (i := 7) rfl) rfl rfl rfl dX3_giveEach_49 ?_
          refine G.aload_n 2 rfl rfl dX3_giveEach_52 ?_
          refine G.iload_n 4 rfl rfl dX3_giveEach_53 ?_
          refine G.callV (n := 1) r1 (c_X4_valueAt hP1 hN1 (by decide) (nI i)) rfl (by omega) hP1.obj rfl tb_380 tb_381 tb_382 tb_39 tb_383 (by decide +kernel) rfl ⟨(Nat.le_of_ble_eq_true rfl), (Nat.le_of_ble_eq_true rfl)⟩ ⟨rfl, rfl⟩ (Nat.le_of_ble_eq_true rfl) ⟨Nat.zero_le _, Nat.zero_le _⟩ dX3_giveEach_54 (fun gr10 gw9 hp => ?_)
          obtain ⟨rfl, rfl⟩ := hp
          refine G.aload_n 1 rfl rfl dX3_giveEach_57 ?_
          refine G.getN k (by omega) e0 rfl twX2 6 (by decide) _ (List.mem_of_getElem? (i := 9) rfl) rfl rfl rfl dX3_giveEach_58 ?_
          refine G.callV (n := 3) kt (c_X6_resultOf hT1 hN2 hf6 (rAt P1 (nI i)).2.2 c) rfl (by omega) t0 rfl tb_396 tb_397 tb_398 tb_35 tb_399 (by decide +kernel) rfl ⟨(Nat.le_of_ble_eq_true rfl), (Nat.le_of_ble_eq_true rfl)⟩ ⟨rfl, rfl⟩ (Nat.le_of_ble_eq_true rfl) ⟨Nat.zero_le _, Nat.zero_le _⟩ dX3_giveEach_61 (fun gr12 gw11 hp => ?_)
          obtain ⟨rfl, rfl⟩ := hp
          refine G.callS (n := 4) (c_X3_giveOne e0 hR1 zlt hP1 hN hN1 (by decide) hkd (show i < 1000000 by omega) (fres I f (rAt P1 (nI i)).2.2 c)) rfl tb_400 tb_401 tb_36 tb_402 (by decide +kernel) rfl ⟨(Nat.le_of_ble_eq_true rfl), (Nat.le_of_ble_eq_true rfl)⟩ ⟨rfl, rfl⟩ (Nat.le_of_ble_eq_true rfl) ⟨Nat.zero_le _, Nat.zero_le _⟩ dX3_giveEach_64 (fun gr13 zw2 hp => ?_)
          obtain ⟨rfl, hR2, hf2⟩ := hp
          refine G.if_ne 72 dX3_giveEach_67 rfl (fun c67 => ?_) (fun c67 => ?_)
          · skip
            have gh14 := (hf2 k (by omega)).trans e0
            have e1 := gh14
            refine G.iinc (v := nI (i + 1)) [(3, .int (nI (i + 1))), (4, .int (ffail f (rAt P1 (nI i)).2.2 c)), (0, .ref (ad k)), (1, .ref (ad r1)), (2, .ref (ad kt))] 4 dX3_giveEach_72 rfl (nI_add i 1) (by decide) rfl ?_
            refine G.goto 2 dX3_giveEach_75 rfl ?_
            refine G.pick [2, 3, 4, 0] [(0, .ref (ad k)), (1, .ref (ad r1)), (2, .ref (ad kt)), (3, .int (nI (i + 1)))] rfl ?_
            rw [zr] at c32 hR2
            have zn1 : ¬ ffail f (P1.getD i r0).2.2 c = 0 := by rw [c32]; decide
            have zn2 : ¬ ffail f (P1.getD i r0).2.2 c = 1 := by rw [c32]; decide
            rw [each1, if_pos c32, if_neg zn1, if_neg zn2] at zih
            exact zih zw2 (by omega) e1 hR2 (fun j hj => (hf2 j (by omega)).trans (hf1 j hj))
          · skip
            exact absurd c67 (by decide)
        · skip
          obtain ⟨g, hg, zg⟩ : ∃ g : Nat, g < 2 ∧ ffail f (rAt P1 (nI i)).2.2 c = nI g := by
            by_cases y1 : ffail f (rAt P1 (nI i)).2.2 c = 0
            · exact ⟨0, by omega, by rw [y1, nI_0]⟩
            · refine ⟨1, by omega, ?_⟩
              unfold ffail at c32 y1 ⊢
              split at c32
              · rename_i y2; rw [if_pos y2] at y1; exact absurd rfl y1
              · rename_i y2
                rw [if_neg y2]
                split at c32
                · rename_i y3; rw [if_pos y3]; rfl
                · exact absurd rfl c32
          refine G.aload_n 1 rfl rfl dX3_giveEach_35 ?_
          refine G.iload 0 rfl dX3_giveEach_36 ?_
          refine G.topi (nI g) (zg) ?_
          refine G.callV (n := 1) k (c_X2_addFailure e0 hN hg) rfl (by omega) e0 rfl tb_392 tb_393 tb_394 tb_41 tb_395 (by decide +kernel) rfl ⟨(Nat.le_of_ble_eq_true rfl), (Nat.le_of_ble_eq_true rfl)⟩ ⟨rfl, rfl⟩ (Nat.le_of_ble_eq_true rfl) ⟨Nat.zero_le _, Nat.zero_le _⟩ dX3_giveEach_38 (fun gr15 zw2 hp => ?_)
          obtain ⟨rfl, e1, hf2⟩ := hp
          refine G.goto 72 dX3_giveEach_41 rfl ?_
          refine G.iinc (v := nI (i + 1)) [(3, .int (nI (i + 1))), (4, .int (ffail f (rAt P1 (nI i)).2.2 c)), (0, .ref (ad k)), (1, .ref (ad r1)), (2, .ref (ad kt))] 4 dX3_giveEach_72 rfl (nI_add i 1) (by decide) rfl ?_
          refine G.goto 2 dX3_giveEach_75 rfl ?_
          refine G.pick [2, 3, 4, 0] [(0, .ref (ad k)), (1, .ref (ad r1)), (2, .ref (ad kt)), (3, .int (nI (i + 1)))] rfl ?_
          rw [zr] at zg c32
          rw [each1, if_neg c32, List.append_nil, zg] at zih
          refine zih zw2 (by omega) ?_ (hR1.keep (fun j j1 j2 => hf2 j (by omega))) (fun j hj => (hf2 j (by omega)).trans (hf1 j hj))
          rcases (show g = 0 ∨ g = 1 by omega) with rfl | rfl
          · exact e1
          · exact e1
  exact loop P1.length 0 w (by omega) h0 hR (fun _ _ => rfl)
end PassA

