/-! Pass: spans, and all -/
section PassE
variable {l : Launch} {t : TT} {N : Nat} {ad : Nat → Nat} {w : Nat → va_E} {r r1 r2 : Nat} {L P1 Q1 : List RW}
set_option maxHeartbeats 1000000 in
theorem c_X3_giveSpans {kp : Nat} {C0 : Nat → Nat} {R0 : Nat → Int64} {size how : Nat} (h0 : w kp = .inr (3, [.ref (ad (kp + 1)), .ref (ad (kp + 4))])) (hS0 : isSpan t ad w (kp + 1) C0 R0) (hN0 : kp + 5 ≤ N) (hR : isRows t ad w r 200 []) (hP : isRows t ad w r1 200 P1) (hok : ∀ i, i < P1.length → okR (P1.getD i r0)) (hN : r + 4 ≤ N) (hN1 : r1 + 4 ≤ N) (hd : r + 4 ≤ r1 ∨ r1 + 4 ≤ r) (hd1 : kp + 5 ≤ r ∨ r + 4 ≤ kp) (hd2 : kp + 5 ≤ r1 ∨ r1 + 4 ≤ kp) (hs1 : 1 ≤ size) (hs2 : size ≤ 1000) (hh : how ≤ 4) :
    K l t yX3_giveSpans cX3_giveSpans 8 (some .boolean) (rD 3) N ad w [.ref (ad kp), .ref (ad r), .ref (ad r1), .int (nI size), .int (nI how)]
      (fun res w' => res = some (.int 1) ∧ isRows t ad w' r 200 (spL size how P1) ∧ (∃ C R, isSpan t ad w' (kp + 1) C R) ∧ ∀ q, (q < kp + 1 ∨ kp + 4 ≤ q) → (q < r ∨ r + 4 ≤ q) → w' q = w q) := by
  have zp := hP.le
  obtain ⟨C9, R9, u0, u1, u2, u3⟩ := id hS0
  refine K.of (own := RX3) (lv := [(0, .ref (ad kp)), (1, .ref (ad r)), (2, .ref (ad r1)), (3, .int (nI size)), (4, .int (nI how))]) (by decide +kernel) rfl (Nat.le_of_ble_eq_true rfl) rfl (fun P post hret => ?_)
  refine G.iload_n 3 rfl rfl dX3_giveSpans_0 ?_
  refine G.iconst (v := nI 1) dX3_giveSpans_1 (by decide +kernel) ?_
  refine G.ncmp_ge 7 dX3_giveSpans_2 rfl (by omega) (by omega) (fun c2 => ?_) (fun c2 => ?_)
  · skip
    refine G.iconst (v := -1) dX3_giveSpans_7 (by decide +kernel) ?_
    refine G.topi (nI 0 - nI 1) ((by decide +kernel)) ?_
    refine G.istore [(5, .int (nI 0 - nI 1)), (0, .ref (ad kp)), (1, .ref (ad r)), (2, .ref (ad r1)), (3, .int (nI size)), (4, .int (nI how))] dX3_giveSpans_8 (by decide) rfl ?_
    refine G.aload_n 1 rfl rfl dX3_giveSpans_10 ?_
    refine G.get kp (by omega) h0 rfl twX3 0 (by decide) tb_111 rfl rfl dX3_giveSpans_11 ?_
    refine G.callV (n := 0) (kp + 1) (c_X5_empty hS0 (by omega)) rfl (by omega) u0 rfl tb_423 tb_424 tb_425 tb_37 tb_426 (by decide +kernel) rfl ⟨(Nat.le_of_ble_eq_true rfl), (Nat.le_of_ble_eq_true rfl)⟩ ⟨rfl, rfl⟩ (Nat.le_of_ble_eq_true rfl) ⟨Nat.zero_le _, Nat.zero_le _⟩ dX3_giveSpans_14 (fun gr1 za hp => ?_)
    obtain ⟨rfl, hS1, hf0⟩ := hp
    refine G.iconst (v := nI 0) dX3_giveSpans_17 (by decide +kernel) ?_
    refine G.istore [(6, .int (nI 0)), (5, .int (nI 0 - nI 1)), (0, .ref (ad kp)), (1, .ref (ad r)), (2, .ref (ad r1)), (3, .int (nI size)), (4, .int (nI how))] dX3_giveSpans_18 (by decide) rfl ?_
    refine G.pick [2, 3, 4, 5, 6, 1, 0] [(0, .ref (ad kp)), (1, .ref (ad r)), (2, .ref (ad r1)), (3, .int (nI size)), (4, .int (nI how)), (5, .int (nI 0 - nI 1)), (6, .int (nI 0))] rfl ?_
    have loop : ∀ (m i : Nat) (zw : Nat → va_E) (o1 : Nat) (C : Nat → Nat) (R : Nat → Int64) (L : List RW), i + m = P1.length → (P1.take i).foldl (spF size how) sp0 = (o1, C, R, L) → isSpan t ad zw (kp + 1) C R → isRows t ad zw r 200 L → (∀ q, (q < kp + 1 ∨ kp + 4 ≤ q) → (q < r ∨ r + 4 ≤ q) → zw q = w q) → G l t (rD 3) P cX3_giveSpans 8 RX3 (some .boolean) post 0 0 N ad 0 0 20 [(0, .ref (ad kp)), (1, .ref (ad r)), (2, .ref (ad r1)), (3, .int (nI size)), (4, .int (nI how)), (5, .int (nI o1 - nI 1)), (6, .int (nI i))] [] zw := by
      intro m
      induction m with
      | zero =>
        intro i zw o1 C R L hi hs hS hR1 hf1
        have hP1 : isRows t ad zw r1 200 P1 := hP.keep (fun q q1 q2 => hf1 q (by omega) (by omega))
        have e0 := (hf1 kp (by omega) (by omega)).trans h0
        have hI := spI_fold (size := size) (how := how) hok i (by omega)
        rw [hs] at hI
        obtain ⟨i1, i2, i3⟩ := hI
        rw [List.take_of_length_le (by omega)] at hs
        obtain ⟨C8, R8, v0, v1, v2, v3⟩ := id hS
        have zl : L.length + (clo C R (nI (o1 * size) - nI 1) 6).length ≤ 200 := by
          rw [clo_len C R R (nI (o1 * size) - nI 1) 0 6]
          have : L.length + (clo C R 0 6).length ≤ i := i3
          omega
        refine G.iload 6 rfl dX3_giveSpans_20 ?_
        refine G.aload_n 2 rfl rfl dX3_giveSpans_22 ?_
        refine G.callV (n := 0) r1 (c_X4_size hP1 hN1) rfl (by omega) hP1.obj rfl tb_376 tb_377 tb_378 tb_39 tb_379 (by decide +kernel) rfl ⟨(Nat.le_of_ble_eq_true rfl), (Nat.le_of_ble_eq_true rfl)⟩ ⟨rfl, rfl⟩ (Nat.le_of_ble_eq_true rfl) ⟨Nat.zero_le _, Nat.zero_le _⟩ dX3_giveSpans_23 (fun gr3 gw2 hp => ?_)
        obtain ⟨rfl, rfl⟩ := hp
        refine G.ncmp_ge 98 dX3_giveSpans_26 rfl (by omega) (by omega) (fun c26 => ?_) (fun c26 => ?_)
        · skip
          refine G.aload_n 0 rfl rfl dX3_giveSpans_98 ?_
          refine G.get kp (by omega) e0 rfl twX3 0 (by decide) tb_111 rfl rfl dX3_giveSpans_99 ?_
          refine G.aload_n 1 rfl rfl dX3_giveSpans_102 ?_
          refine G.iload 5 rfl dX3_giveSpans_103 ?_
          refine G.iconst (v := nI 1) dX3_giveSpans_105 (by decide +kernel) ?_
          refine G.iadd dX3_giveSpans_106 ?_
          refine G.topi (nI o1) ((by rw [Int32.sub_add_cancel])) ?_
          refine G.iload_n 3 rfl rfl dX3_giveSpans_107 ?_
          refine G.imul dX3_giveSpans_108 ?_
          refine G.topi (nI (o1 * size)) (pk_mul o1 size) ?_
          refine G.iconst (v := nI 1) dX3_giveSpans_109 (by decide +kernel) ?_
          refine G.isub dX3_giveSpans_110 ?_
          refine G.callV (n := 2) (kp + 1) (c_X5_closeInto hS hR1 (by omega) hN (by omega) (by decide) (fun j hj => by have := i2 j hj; show C j < 1000000; have e : C j ≤ i := this; omega) (nI (o1 * size) - nI 1) zl) rfl (by omega) v0 rfl tb_427 tb_428 tb_429 tb_37 tb_430 (by decide +kernel) rfl ⟨(Nat.le_of_ble_eq_true rfl), (Nat.le_of_ble_eq_true rfl)⟩ ⟨rfl, rfl⟩ (Nat.le_of_ble_eq_true rfl) ⟨Nat.zero_le _, Nat.zero_le _⟩ dX3_giveSpans_111 (fun gr4 zw2 hp => ?_)
          obtain ⟨rfl, hR2, hS2, hf2⟩ := hp
          refine G.zret rfl (Or.inr rfl) rfl rfl dX3_giveSpans_114 ?_
          refine hret _ _ ⟨rfl, ?_, ⟨_, _, hS2⟩, fun q q1 q2 => (hf2 q (by omega) q2).trans (hf1 q q1 q2)⟩
          rw [spL, hs]
          exact hR2
        · skip
          omega
      | succ m ih =>
        intro i zw o1 C R L hi hs hS hR1 hf1
        have hP1 : isRows t ad zw r1 200 P1 := hP.keep (fun q q1 q2 => hf1 q (by omega) (by omega))
        have e0 := (hf1 kp (by omega) (by omega)).trans h0
        have hI := spI_fold (size := size) (how := how) hok i (by omega)
        rw [hs] at hI
        obtain ⟨i1, i2, i3⟩ := hI
        have i1 : o1 ≤ 100001 := i1
        have i2 : ∀ j, j < 6 → C j ≤ i := i2
        have hnx : (P1.take (i + 1)).foldl (spF size how) sp0 = spF size how (o1, C, R, L) (P1.getD i r0) := by rw [foldl_take _ _ (by omega), hs]
        obtain ⟨x1, x2, x3, x4⟩ := okR_n (hok i (by omega))
        have zr : rAt P1 (nI i) = P1.getD i r0 := rAt_n _ (by omega)
        generalize hpx : P1.getD i r0 = x at zr x1 x2 x3 x4 hnx
        obtain ⟨C8, R8, v0, v1, v2, v3⟩ := id hS
        have zl : L.length + (clo C R (nI (o1 * size) - nI 1) 6).length ≤ 200 := by
          rw [clo_len C R R (nI (o1 * size) - nI 1) 0 6]
          have : L.length + (clo C R 0 6).length ≤ i := i3
          omega
        have zdv : tN x / size ≤ tN x := Nat.div_le_self _ _
        have t67 : ∀ (zw : Nat → va_E) (C R L) , spF size how (o1, (fun j => if tN x / size + 1 = o1 then C j else C j), R, L) x = spF size how (o1, C, R, L) x → True := fun _ _ _ _ _ => trivial
        have t67 : ∀ (zw : Nat → va_E) (C2 : Nat → Nat) (R2 : Nat → Int64) (L2 : List RW), (∀ j, j < 6 → C2 j ≤ i) → isSpan t ad zw (kp + 1) C2 R2 → isRows t ad zw r 200 L2 → (∀ q, (q < kp + 1 ∨ kp + 4 ≤ q) → (q < r ∨ r + 4 ≤ q) → zw q = w q) → (P1.take (i + 1)).foldl (spF size how) sp0 = (tN x / size + 1, va_up C2 (kN x) (C2 (kN x) + 1), va_up R2 (kN x) (if C2 (kN x) = 0 then sStart how x.2.2 else sNext how (R2 (kN x)) x.2.2), L2) → G l t (rD 3) P cX3_giveSpans 8 RX3 (some .boolean) post 0 0 N ad 0 0 67 [(0, .ref (ad kp)), (1, .ref (ad r)), (2, .ref (ad r1)), (3, .int (nI size)), (4, .int (nI how)), (6, .int (nI i)), (7, .int (nI (tN x / size)))] [] zw := by
          intro zw C2 R2 L2 hC2 hS2 hR2 hf2 hs2
          have hP1 : isRows t ad zw r1 200 P1 := hP.keep (fun q q1 q2 => hf2 q (by omega) (by omega))
          have e0 := (hf2 kp (by omega) (by omega)).trans h0
          obtain ⟨C8, R8, v0, v1, v2, v3⟩ := id hS2
          refine G.iload 6 rfl dX3_giveSpans_67 ?_
          refine G.topi (nI (tN x / size + 1) - nI 1) ((pk_sub (a := tN x / size + 1) (b := 1) (Nat.le_add_left 1 _)).symm) ?_
          refine G.istore [(5, .int (nI (tN x / size + 1) - nI 1)), (0, .ref (ad kp)), (1, .ref (ad r)), (2, .ref (ad r1)), (3, .int (nI size)), (4, .int (nI how)), (6, .int (nI i)), (7, .int (nI (tN x / size)))] dX3_giveSpans_69 (by decide) rfl ?_
          refine G.aload_n 1 rfl rfl dX3_giveSpans_71 ?_
          refine G.get kp (by omega) e0 rfl twX3 0 (by decide) tb_111 rfl rfl dX3_giveSpans_72 ?_
          refine G.aload_n 3 rfl rfl dX3_giveSpans_75 ?_
          refine G.iload 6 rfl dX3_giveSpans_76 ?_
          refine G.callV (n := 1) r1 (c_X4_keyAt hP1 hN1 (by decide) (nI i)) rfl (by omega) hP1.obj rfl tb_407 tb_408 tb_409 tb_39 tb_410 (by decide +kernel) rfl ⟨(Nat.le_of_ble_eq_true rfl), (Nat.le_of_ble_eq_true rfl)⟩ ⟨rfl, rfl⟩ (Nat.le_of_ble_eq_true rfl) ⟨Nat.zero_le _, Nat.zero_le _⟩ dX3_giveSpans_78 (fun gr6 gw5 hp => ?_)
          obtain ⟨rfl, rfl⟩ := hp
          refine G.topi (nI (kN x)) ((by rw [zr]; exact x3)) ?_
          refine G.aload_n 3 rfl rfl dX3_giveSpans_81 ?_
          refine G.iload 6 rfl dX3_giveSpans_82 ?_
          refine G.callV (n := 1) r1 (c_X4_valueAt hP1 hN1 (by decide) (nI i)) rfl (by omega) hP1.obj rfl tb_380 tb_381 tb_382 tb_39 tb_383 (by decide +kernel) rfl ⟨(Nat.le_of_ble_eq_true rfl), (Nat.le_of_ble_eq_true rfl)⟩ ⟨rfl, rfl⟩ (Nat.le_of_ble_eq_true rfl) ⟨Nat.zero_le _, Nat.zero_le _⟩ dX3_giveSpans_84 (fun gr8 gw7 hp => ?_)
          obtain ⟨rfl, rfl⟩ := hp
          refine G.topl (x.2.2) ((by rw [zr])) ?_
          refine G.iload 5 rfl dX3_giveSpans_87 ?_
          refine G.callV (n := 3) (kp + 1) (c_X5_take hS2 (by omega) x4 (by have := hC2 _ x4; omega) x.2.2 hh) rfl (by omega) v0 rfl tb_433 tb_434 tb_435 tb_37 tb_436 (by decide +kernel) rfl ⟨(Nat.le_of_ble_eq_true rfl), (Nat.le_of_ble_eq_true rfl)⟩ ⟨rfl, rfl⟩ (Nat.le_of_ble_eq_true rfl) ⟨Nat.zero_le _, Nat.zero_le _⟩ dX3_giveSpans_89 (fun gr9 zw3 hp => ?_)
          obtain ⟨rfl, hS3, hf3⟩ := hp
          refine G.iinc (v := nI (i + 1)) [(6, .int (nI (i + 1))), (5, .int (nI (tN x / size + 1) - nI 1)), (0, .ref (ad kp)), (1, .ref (ad r)), (2, .ref (ad r1)), (3, .int (nI size)), (4, .int (nI how)), (7, .int (nI (tN x / size)))] 6 dX3_giveSpans_92 rfl (nI_add i 1) (by decide) rfl ?_
          refine G.goto 20 dX3_giveSpans_95 rfl ?_
          refine G.pick [2, 3, 4, 5, 6, 1, 0] [(0, .ref (ad kp)), (1, .ref (ad r)), (2, .ref (ad r1)), (3, .int (nI size)), (4, .int (nI how)), (5, .int (nI (tN x / size + 1) - nI 1)), (6, .int (nI (i + 1)))] rfl ?_
          exact ih (i + 1) zw3 _ _ _ _ (by omega) hs2 hS3 (hR2.keep (fun q q1 q2 => hf3 q (by omega))) (fun q q1 q2 => (hf3 q (by omega)).trans (hf2 q q1 q2))
        refine G.iload 6 rfl dX3_giveSpans_20 ?_
        refine G.aload_n 2 rfl rfl dX3_giveSpans_22 ?_
        refine G.callV (n := 0) r1 (c_X4_size hP1 hN1) rfl (by omega) hP1.obj rfl tb_376 tb_377 tb_378 tb_39 tb_379 (by decide +kernel) rfl ⟨(Nat.le_of_ble_eq_true rfl), (Nat.le_of_ble_eq_true rfl)⟩ ⟨rfl, rfl⟩ (Nat.le_of_ble_eq_true rfl) ⟨Nat.zero_le _, Nat.zero_le _⟩ dX3_giveSpans_23 (fun gr11 gw10 hp => ?_)
        obtain ⟨rfl, rfl⟩ := hp
        refine G.ncmp_ge 98 dX3_giveSpans_26 rfl (by omega) (by omega) (fun c26 => ?_) (fun c26 => ?_)
        · skip
          omega
        · skip
          refine G.aload_n 2 rfl rfl dX3_giveSpans_29 ?_
          refine G.iload 6 rfl dX3_giveSpans_30 ?_
          refine G.callV (n := 1) r1 (c_X4_timeAt hP1 hN1 (by decide) (nI i)) rfl (by omega) hP1.obj rfl tb_403 tb_404 tb_405 tb_39 tb_406 (by decide +kernel) rfl ⟨(Nat.le_of_ble_eq_true rfl), (Nat.le_of_ble_eq_true rfl)⟩ ⟨rfl, rfl⟩ (Nat.le_of_ble_eq_true rfl) ⟨Nat.zero_le _, Nat.zero_le _⟩ dX3_giveSpans_32 (fun gr13 gw12 hp => ?_)
          obtain ⟨rfl, rfl⟩ := hp
          refine G.topi (nI (tN x)) ((by rw [zr]; exact x1)) ?_
          refine G.iload_n 3 rfl rfl dX3_giveSpans_35 ?_
          refine G.idiv dX3_giveSpans_36 (nI_ne0 (by omega) (by omega)) ?_
          refine G.topi (nI (tN x / size)) ((pk_div (by omega) (by omega) (by omega))) ?_
          refine G.istore [(7, .int (nI (tN x / size))), (0, .ref (ad kp)), (1, .ref (ad r)), (2, .ref (ad r1)), (3, .int (nI size)), (4, .int (nI how)), (5, .int (nI o1 - nI 1)), (6, .int (nI i))] dX3_giveSpans_37 (by decide) rfl ?_
          refine G.iload 0 rfl dX3_giveSpans_39 ?_
          refine G.iload 6 rfl dX3_giveSpans_41 ?_
          refine G.icmp_eq 67 dX3_giveSpans_43 rfl (fun c43 => ?_) (fun c43 => ?_)
          · skip
            refine G.pick [1, 2, 3, 4, 5, 7, 0] [(0, .ref (ad kp)), (1, .ref (ad r)), (2, .ref (ad r1)), (3, .int (nI size)), (4, .int (nI how)), (6, .int (nI i)), (7, .int (nI (tN x / size)))] rfl ?_
            have ze := (nI_pr (by omega) (by omega)).mp c43
            refine t67 zw C R L i2 hS hR1 hf1 ?_
            rw [hnx]
            unfold spF
            simp only [ze, if_true]
          · skip
            have ze : ¬ tN x / size + 1 = o1 := fun q => c43 ((nI_pr (by omega) (by omega)).mpr q)
            refine G.aload_n 1 rfl rfl dX3_giveSpans_46 ?_
            refine G.get kp (by omega) e0 rfl twX3 0 (by decide) tb_111 rfl rfl dX3_giveSpans_47 ?_
            refine G.aload_n 2 rfl rfl dX3_giveSpans_50 ?_
            refine G.iload 6 rfl dX3_giveSpans_51 ?_
            refine G.iconst (v := nI 1) dX3_giveSpans_53 (by decide +kernel) ?_
            refine G.iadd dX3_giveSpans_54 ?_
            refine G.topi (nI o1) ((by rw [Int32.sub_add_cancel])) ?_
            refine G.iload_n 4 rfl rfl dX3_giveSpans_55 ?_
            refine G.imul dX3_giveSpans_56 ?_
            refine G.topi (nI (o1 * size)) (pk_mul o1 size) ?_
            refine G.iconst (v := nI 1) dX3_giveSpans_57 (by decide +kernel) ?_
            refine G.isub dX3_giveSpans_58 ?_
            refine G.callV (n := 2) (kp + 1) (c_X5_closeInto hS hR1 (by omega) hN (by omega) (by decide) (fun j hj => by have := i2 j hj; omega) (nI (o1 * size) - nI 1) zl) rfl (by omega) v0 rfl tb_427 tb_428 tb_429 tb_37 tb_430 (by decide +kernel) rfl ⟨(Nat.le_of_ble_eq_true rfl), (Nat.le_of_ble_eq_true rfl)⟩ ⟨rfl, rfl⟩ (Nat.le_of_ble_eq_true rfl) ⟨Nat.zero_le _, Nat.zero_le _⟩ dX3_giveSpans_59 (fun gr14 zw2 hp => ?_)
            obtain ⟨rfl, hR2, hS2, hf2⟩ := hp
            refine G.if_ne 67 dX3_giveSpans_62 rfl (fun c62 => ?_) (fun c62 => ?_)
            · skip
              refine G.pick [1, 2, 3, 4, 5, 7, 0] [(0, .ref (ad kp)), (1, .ref (ad r)), (2, .ref (ad r1)), (3, .int (nI size)), (4, .int (nI how)), (6, .int (nI i)), (7, .int (nI (tN x / size)))] rfl ?_
              refine t67 zw2 (fun _ => 0) (fun _ => 0) _ (fun j hj => by show 0 ≤ i; omega) hS2 hR2 (fun q q1 q2 => (hf2 q (by omega) q2).trans (hf1 q q1 q2)) ?_
              rw [hnx]
              unfold spF
              simp only [ze, if_false]
              rfl
            · skip
              exact absurd c62 (by decide)
    exact loop P1.length 0 za 0 _ _ [] (by omega) rfl hS1 (hR.keep (fun q q1 q2 => hf0 q (by omega))) (fun q q1 q2 => hf0 q (by omega))
  · skip
    omega
theorem c_X3_giveFrom {kp k kt kd a : Nat} {p q b u : Int32} {C0 : Nat → Nat} {R0 : Nat → Int64} {S0 I : Nat → Int32} (hp0 : w kp = .inr (3, [.ref (ad (kp + 1)), .ref (ad (kp + 4))])) (hS0 : isSpan t ad w (kp + 1) C0 R0) (hS1 : w (kp + 4) = .inl (t.2.1, 6, .inl S0)) (h0 : w k = .inr (2, opF ad k (nI kd) p q (nI a) b u (nI 0) (nI 0))) (hR : isRows t ad w (k + 1) 200 []) (hP : isRows t ad w r1 200 P1) (hQ : isRows t ad w r2 200 Q1) (hT : isTab t ad w kt I)
    (hN0 : kp + 5 ≤ N) (hN : k + 9 ≤ N) (hN1 : r1 + 4 ≤ N) (hN2 : r2 + 4 ≤ N) (hN3 : kt + 2 ≤ N) (hkk : kp + 5 ≤ k) (hkt : kt + 2 ≤ kp) (hd1 : kp + 5 ≤ r1 ∧ (r1 + 4 ≤ k ∨ k + 9 ≤ r1)) (hd2 : kp + 5 ≤ r2 ∧ (r2 + 4 ≤ k ∨ k + 9 ≤ r2))
    (okP : ∀ i, i < P1.length → okR (P1.getD i r0)) (okQ : ∀ i, i < Q1.length → okR (Q1.getD i r0)) (aP : asc P1) (aQ : asc Q1) (hk1 : 1 ≤ kd) (hk2 : kd ≤ 8) (ha : a ≤ 1000) (ha1 : kd ≤ 3 → a ≤ 6) (ha2 : kd = 4 → 1 ≤ a ∧ ∃ how, how ≤ 4 ∧ b = nI how) :
    K l t yX3_giveFrom cX3_giveFrom 5 (some .boolean) (rD 4) N ad w [.ref (ad kp), .ref (ad k), .ref (ad r1), .ref (ad r2), .ref (ad kt)]
      (fun res w' => ∃ L', isRows t ad w' (k + 1) 200 L' ∧ res = some (.int (if (gv I kd a b P1 Q1).length ≤ 200 then 1 else 0)) ∧ ((gv I kd a b P1 Q1).length ≤ 200 → L' = gv I kd a b P1 Q1) ∧ w' k = .inr (2, opF ad k (nI kd) p q (nI a) b u (nI (if kd ≤ 3 then failN 0 a b P1 else 0)) (nI (if kd ≤ 3 then failN 1 a b P1 else 0))) ∧ (∃ C R, isSpan t ad w' (kp + 1) C R) ∧ (∃ S : Nat → Int32, w' (kp + 4) = .inl (t.2.1, 6, .inl S)) ∧ ∀ i, (i < k ∨ k + 5 ≤ i) → (i < kp + 1 ∨ kp + 5 ≤ i) → w' i = w i) := by
  have zp := hP.le
  have zq := hQ.le
  refine K.of (own := RX3) (lv := [(0, .ref (ad kp)), (1, .ref (ad k)), (2, .ref (ad r1)), (3, .ref (ad r2)), (4, .ref (ad kt))]) (by decide +kernel) rfl (Nat.le_of_ble_eq_true rfl) rfl (fun P post hret => ?_)
  refine G.aload_n 1 rfl rfl dX3_giveFrom_0 ?_
  refine G.getN k (by omega) h0 rfl twX2 2 (by decide) _ (List.mem_of_getElem? (i := 3) rfl) rfl rfl rfl dX3_giveFrom_1 ?_
  have each : ∀ kd', kd' = kd → kd' ≤ 3 → G l t (rD 4) P cX3_giveFrom 5 RX3 (some .boolean) post 0 0 N ad 0 0 52 [(0, .ref (ad kp)), (1, .ref (ad k)), (2, .ref (ad r1)), (3, .ref (ad r2)), (4, .ref (ad kt))] [] w := by
    intro kd' e1 e2
    subst e1
    refine G.aload_n 1 rfl rfl dX3_giveFrom_52 ?_
    refine G.aload_n 2 rfl rfl dX3_giveFrom_53 ?_
    refine G.aload 4 rfl dX3_giveFrom_54 ?_
    refine G.callS (n := 3) (c_X3_giveEach h0 hR hP hT hN hN1 hN3 (by omega) (by omega) (by omega) (ha1 e2)) rfl tb_373 tb_374 tb_36 tb_375 (by decide +kernel) rfl ⟨(Nat.le_of_ble_eq_true rfl), (Nat.le_of_ble_eq_true rfl)⟩ ⟨rfl, rfl⟩ (Nat.le_of_ble_eq_true rfl) ⟨Nat.zero_le _, Nat.zero_le _⟩ dX3_giveFrom_56 (fun gr1 zw hp => ?_)
    obtain ⟨rfl, z0, hR2, hf⟩ := hp
    refine G.zret rfl (Or.inr rfl) rfl rfl dX3_giveFrom_59 ?_
    have zg : gv I kd' a b P1 Q1 = eachL I kd' a b P1 := by rw [gv, if_pos e2]
    have zl : (gv I kd' a b P1 Q1).length ≤ 200 := by
      rw [zg]; have := flat_len (each1_len I kd' a b) P1; unfold eachL; omega
    exact hret _ _ ⟨_, hR2, by rw [if_pos zl], fun _ => zg.symm, by rw [if_pos e2, if_pos e2]; exact z0, ⟨C0, R0, hS0.keep (fun i i1 i2 => hf i (by omega))⟩, ⟨S0, (hf _ (by omega)).trans hS1⟩, fun i i1 i2 => hf i i1⟩
  rcases (show kd = 1 ∨ kd = 2 ∨ kd = 3 ∨ kd = 4 ∨ kd = 5 ∨ kd = 6 ∨ kd = 7 ∨ kd = 8 by omega) with rfl | rfl | rfl | rfl | rfl | rfl | rfl | rfl
  · skip
    refine G.tableIn (off := 48) 52 dX3_giveFrom_4 (by decide +kernel) (by decide +kernel) (by decide +kernel) rfl ?_
    exact each 1 rfl (by omega)
  · skip
    refine G.tableIn (off := 48) 52 dX3_giveFrom_4 (by decide +kernel) (by decide +kernel) (by decide +kernel) rfl ?_
    exact each 2 rfl (by omega)
  · skip
    refine G.tableIn (off := 48) 52 dX3_giveFrom_4 (by decide +kernel) (by decide +kernel) (by decide +kernel) rfl ?_
    exact each 3 rfl (by omega)
  · skip
    refine G.tableIn (off := 56) 60 dX3_giveFrom_4 (by decide +kernel) (by decide +kernel) (by decide +kernel) rfl ?_
    obtain ⟨b1, how, b2, rfl⟩ := ha2 rfl
    refine G.aload_n 0 rfl rfl dX3_giveFrom_60 ?_
    refine G.aload_n 1 rfl rfl dX3_giveFrom_61 ?_
    refine G.getN k (by omega) h0 rfl twX2 0 (by decide) _ (List.mem_of_getElem? (i := 0) rfl) rfl rfl rfl dX3_giveFrom_62 ?_
    refine G.aload_n 2 rfl rfl dX3_giveFrom_65 ?_
    refine G.aload_n 1 rfl rfl dX3_giveFrom_66 ?_
    refine G.getN k (by omega) h0 rfl twX2 5 (by decide) _ (List.mem_of_getElem? (i := 7) rfl) rfl rfl rfl dX3_giveFrom_67 ?_
    refine G.aload_n 1 rfl rfl dX3_giveFrom_70 ?_
    refine G.getN k (by omega) h0 rfl twX2 6 (by decide) _ (List.mem_of_getElem? (i := 9) rfl) rfl rfl rfl dX3_giveFrom_71 ?_
    refine G.callV (n := 4) kp (c_X3_giveSpans hp0 hS0 hN0 hR hP okP (by omega) hN1 (by omega) (by omega) (by omega) b1 ha b2) rfl (by omega) hp0 rfl tb_419 tb_421 tb_7 tb_36 tb_422 (by decide +kernel) rfl ⟨(Nat.le_of_ble_eq_true rfl), (Nat.le_of_ble_eq_true rfl)⟩ ⟨rfl, rfl⟩ (Nat.le_of_ble_eq_true rfl) ⟨Nat.zero_le _, Nat.zero_le _⟩ dX3_giveFrom_74 (fun gr2 zw hp => ?_)
    obtain ⟨rfl, hR2, hS2, hf⟩ := hp
    refine G.zret rfl (Or.inr rfl) rfl rfl dX3_giveFrom_77 ?_
    have zg : gv I 4 a (nI how) P1 Q1 = spL a how P1 := by rw [gv, if_neg (by omega), if_pos rfl, nI_clamp (by omega)]
    have zl : (gv I 4 a (nI how) P1 Q1).length ≤ 200 := by rw [zg]; exact hR2.le
    exact hret _ _ ⟨_, hR2, by rw [if_pos zl], fun _ => zg.symm, (hf k (by omega) (by omega)).trans h0, hS2, ⟨S0, (hf _ (by omega) (by omega)).trans hS1⟩, fun i i1 i2 => hf i (by omega) (by omega)⟩
  · skip
    refine G.tableIn (off := 74) 78 dX3_giveFrom_4 (by decide +kernel) (by decide +kernel) (by decide +kernel) rfl ?_
    refine G.aload_n 1 rfl rfl dX3_giveFrom_78 ?_
    refine G.getN k (by omega) h0 rfl twX2 0 (by decide) _ (List.mem_of_getElem? (i := 0) rfl) rfl rfl rfl dX3_giveFrom_79 ?_
    refine G.aload_n 2 rfl rfl dX3_giveFrom_82 ?_
    refine G.aload_n 3 rfl rfl dX3_giveFrom_83 ?_
    refine G.aload_n 1 rfl rfl dX3_giveFrom_84 ?_
    refine G.getN k (by omega) h0 rfl twX2 5 (by decide) _ (List.mem_of_getElem? (i := 7) rfl) rfl rfl rfl dX3_giveFrom_85 ?_
    refine G.callS (n := 4) (c_X3_giveJoin hR hP hQ (by omega) hN1 hN2 (by omega) (by omega) ha okP okQ aP aQ) rfl tb_449 tb_450 tb_36 tb_451 (by decide +kernel) rfl ⟨(Nat.le_of_ble_eq_true rfl), (Nat.le_of_ble_eq_true rfl)⟩ ⟨rfl, rfl⟩ (Nat.le_of_ble_eq_true rfl) ⟨Nat.zero_le _, Nat.zero_le _⟩ dX3_giveFrom_88 (fun gr3 zw hp => ?_)
    obtain ⟨L', hR2, rfl, hL, hf⟩ := hp
    refine G.zret rfl (by split; exact Or.inr rfl; exact Or.inl rfl) rfl rfl dX3_giveFrom_91 ?_
    have zg : gv I 5 a b P1 Q1 = srt aboveT (jn P1 Q1 a) := by rw [gv, if_neg (by omega), if_neg (by omega), if_pos rfl]
    have zl : (gv I 5 a b P1 Q1).length = (jn P1 Q1 a).length := by rw [zg, srt_len]
    exact hret _ _ ⟨L', hR2, by rw [zl], fun h => by rw [zg]; exact hL (by rw [← zl]; exact h), (hf k (by omega)).trans h0, ⟨C0, R0, hS0.keep (fun i i1 i2 => hf i (by omega))⟩, ⟨S0, (hf _ (by omega)).trans hS1⟩, fun i i1 i2 => hf i (by omega)⟩
  · skip
    refine G.tableIn (off := 88) 92 dX3_giveFrom_4 (by decide +kernel) (by decide +kernel) (by decide +kernel) rfl ?_
    refine G.aload_n 1 rfl rfl dX3_giveFrom_92 ?_
    refine G.getN k (by omega) h0 rfl twX2 0 (by decide) _ (List.mem_of_getElem? (i := 0) rfl) rfl rfl rfl dX3_giveFrom_93 ?_
    refine G.aload_n 2 rfl rfl dX3_giveFrom_96 ?_
    refine G.aload_n 3 rfl rfl dX3_giveFrom_97 ?_
    refine G.callS (n := 3) (c_X3_giveMeet hR hP hQ (by omega) hN1 hN2 (by omega) (by omega)) rfl tb_458 tb_459 tb_36 tb_460 (by decide +kernel) rfl ⟨(Nat.le_of_ble_eq_true rfl), (Nat.le_of_ble_eq_true rfl)⟩ ⟨rfl, rfl⟩ (Nat.le_of_ble_eq_true rfl) ⟨Nat.zero_le _, Nat.zero_le _⟩ dX3_giveFrom_98 (fun gr4 zw hp => ?_)
    obtain ⟨L', hR2, rfl, hL, hf⟩ := hp
    refine G.zret rfl (by split; exact Or.inr rfl; exact Or.inl rfl) rfl rfl dX3_giveFrom_101 ?_
    have zg : gv I 6 a b P1 Q1 = mrg P1 Q1 := by rw [gv, if_neg (by omega), if_neg (by omega), if_neg (by omega), if_pos rfl]
    exact hret _ _ ⟨L', hR2, by rw [zg], fun h => by rw [zg]; exact hL (by rw [← zg]; exact h), (hf k (by omega)).trans h0, ⟨C0, R0, hS0.keep (fun i i1 i2 => hf i (by omega))⟩, ⟨S0, (hf _ (by omega)).trans hS1⟩, fun i i1 i2 => hf i (by omega)⟩
  · skip
    refine G.tableIn (off := 98) 102 dX3_giveFrom_4 (by decide +kernel) (by decide +kernel) (by decide +kernel) rfl ?_
    refine G.aload_n 1 rfl rfl dX3_giveFrom_102 ?_
    refine G.getN k (by omega) h0 rfl twX2 0 (by decide) _ (List.mem_of_getElem? (i := 0) rfl) rfl rfl rfl dX3_giveFrom_103 ?_
    refine G.aload_n 2 rfl rfl dX3_giveFrom_106 ?_
    refine G.aload_n 1 rfl rfl dX3_giveFrom_107 ?_
    refine G.getN k (by omega) h0 rfl twX2 5 (by decide) _ (List.mem_of_getElem? (i := 7) rfl) rfl rfl rfl dX3_giveFrom_108 ?_
    refine G.callS (n := 3) (c_X3_giveFalls hR hP (by omega) hN1 (by omega) (nI a)) rfl tb_464 tb_465 tb_36 tb_466 (by decide +kernel) rfl ⟨(Nat.le_of_ble_eq_true rfl), (Nat.le_of_ble_eq_true rfl)⟩ ⟨rfl, rfl⟩ (Nat.le_of_ble_eq_true rfl) ⟨Nat.zero_le _, Nat.zero_le _⟩ dX3_giveFrom_111 (fun gr5 zw hp => ?_)
    obtain ⟨rfl, hR2, hf⟩ := hp
    refine G.zret rfl (Or.inr rfl) rfl rfl dX3_giveFrom_114 ?_
    have zg : gv I 7 a b P1 Q1 = srt aboveT (fallL P1 (nI a) P1.length) := by rw [gv, if_neg (by omega), if_neg (by omega), if_neg (by omega), if_neg (by omega), if_pos rfl]
    have zl : (gv I 7 a b P1 Q1).length ≤ 200 := by rw [zg]; exact hR2.le
    exact hret _ _ ⟨_, hR2, by rw [if_pos zl], fun _ => zg.symm, (hf k (by omega)).trans h0, ⟨C0, R0, hS0.keep (fun i i1 i2 => hf i (by omega))⟩, ⟨S0, (hf _ (by omega)).trans hS1⟩, fun i i1 i2 => hf i (by omega)⟩
  · skip
    refine G.tableIn (off := 111) 115 dX3_giveFrom_4 (by decide +kernel) (by decide +kernel) (by decide +kernel) rfl ?_
    refine G.aload_n 0 rfl rfl dX3_giveFrom_115 ?_
    refine G.aload_n 1 rfl rfl dX3_giveFrom_116 ?_
    refine G.getN k (by omega) h0 rfl twX2 0 (by decide) _ (List.mem_of_getElem? (i := 0) rfl) rfl rfl rfl dX3_giveFrom_117 ?_
    refine G.aload_n 2 rfl rfl dX3_giveFrom_120 ?_
    refine G.aload_n 1 rfl rfl dX3_giveFrom_121 ?_
    refine G.getN k (by omega) h0 rfl twX2 5 (by decide) _ (List.mem_of_getElem? (i := 7) rfl) rfl rfl rfl dX3_giveFrom_122 ?_
    refine G.callV (n := 3) kp (c_X3_giveFirst hp0 hS1 hN0 hR hP okP (by omega) hN1 (by omega) (by omega) (by omega) (show a < 1000000 by omega)) rfl (by omega) hp0 rfl tb_472 tb_474 tb_8 tb_36 tb_475 (by decide +kernel) rfl ⟨(Nat.le_of_ble_eq_true rfl), (Nat.le_of_ble_eq_true rfl)⟩ ⟨rfl, rfl⟩ (Nat.le_of_ble_eq_true rfl) ⟨Nat.zero_le _, Nat.zero_le _⟩ dX3_giveFrom_125 (fun gr6 zw hp => ?_)
    obtain ⟨rfl, hR2, hS2, hf⟩ := hp
    refine G.zret rfl (Or.inr rfl) rfl rfl dX3_giveFrom_128 ?_
    have zg : gv I 8 a b P1 Q1 = firL P1 a P1.length := by rw [gv, if_neg (by omega), if_neg (by omega), if_neg (by omega), if_neg (by omega), if_neg (by omega)]
    have zl : (gv I 8 a b P1 Q1).length ≤ 200 := by rw [zg]; exact hR2.le
    exact hret _ _ ⟨_, hR2, by rw [if_pos zl], fun _ => zg.symm, (hf k (by omega) (by omega)).trans h0, ⟨C0, R0, hS0.keep (fun i i1 i2 => hf i (by omega) (by omega))⟩, hS2, fun i i1 i2 => hf i (by omega) (by omega)⟩
end PassE

