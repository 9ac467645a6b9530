/-! the law: its loop, its beginning -/
section LawLoop
variable {l : Launch} {t : TT} {P : GP} {post : PT} {N : Nat} {ad : Nat → Nat} {b L : Nat} {xs : Nat → Int32}
set_option maxHeartbeats 1000000 in
theorem lb_loop (hX : va_X b L xs (gs P) (gs P).heap) (hbl : b < (gs P).heap.size) (hbA : ¬ gA P b) (hL : L ≤ 3072) (hN : 153 ≤ N) (hpost : ∀ N ad w, post (some (.int (nI 1))) N ad w) : ∀ (mm ii : Nat) (w : Nat → va_E) (A : List AR) (I : Nat → Int32) (O : List OD) (Td : Nat → List RW) (jd : Bool) (J : Nat → JR) (fc : Nat) (df : DF), L ≤ ii + mm → ii ≤ 4000 → isC t ad w A I O Td jd J fc df → isM t ad w A I O Td jd J fc df → G l t room_1 P cL_law 4 RL (some .boolean) post 600000 7302250 N ad 153 19069 18 [(0, .ref b), (1, .ref (ad 0)), (2, .ref (ad 132)), (3, .int (nI ii))] [] w := by
  intro mm
  induction mm with
  | zero =>
    intro ii w A I O Td jd J fc df hm h4 hC hM
    refine G.iload_n 3 rfl rfl dL_law_18 ?_
    refine G.aload_n 0 rfl rfl dL_law_19 ?_
    refine G.slen hX hbl hbA dL_law_20 ?_
    refine G.bipush (v := nI 6) dL_law_21 (by decide +kernel) ?_
    refine G.isub dL_law_23 ?_
    refine G.icmp_gt 938 dL_law_24 rfl (fun c24 => ?_) (fun c24 => ?_)
    · skip
      refine G.wid 600000 7302250 (by decide) (by decide) ?_
      refine G.iconst (v := nI 1) dL_law_938 (by decide +kernel) ?_
      refine G.zret rfl (Or.inr rfl) rfl rfl dL_law_939 ?_
      exact hpost _ _ _
    · skip
      refine absurd ?_ c24
      rw [Int32.lt_iff_toInt_lt, pk_sub_toInt (by omega) (by omega), nI_toInt (by omega)]
      omega
  | succ mm ih =>
    intro ii w A I O Td jd J fc df hm h4 hC hM
    have next : ii + 6 ≤ L → ∀ (w' : Nat → va_E) (A : List AR) (I : Nat → Int32) (O : List OD) (Td : Nat → List RW) (jd : Bool) (J : Nat → JR) (fc : Nat) (df : DF), isC t ad w' A I O Td jd J fc df → isM t ad w' A I O Td jd J fc df → G l t room_1 P cL_law 4 RL (some .boolean) post 600000 7302250 N ad 153 19069 932 [(0, .ref b), (1, .ref (ad 0)), (2, .ref (ad 132)), (3, .int (nI ii))] [] w' := by
      intro hi w' A I O Td jd J fc df hC hM
      refine G.iinc (v := nI (ii + 6)) [(3, .int (nI (ii + 6))), (0, .ref b), (1, .ref (ad 0)), (2, .ref (ad 132))] 3 dL_law_932 rfl (nI_add ii 6) (by decide) rfl ?_
      refine G.goto 18 dL_law_935 rfl ?_
      refine G.pick [1, 2, 3, 0] [(0, .ref b), (1, .ref (ad 0)), (2, .ref (ad 132)), (3, .int (nI (ii + 6)))] rfl ?_
      exact ih (ii + 6) w' A I O Td jd J fc df (by omega) (by omega) hC hM
    refine G.iload_n 3 rfl rfl dL_law_18 ?_
    refine G.aload_n 0 rfl rfl dL_law_19 ?_
    refine G.slen hX hbl hbA dL_law_20 ?_
    refine G.bipush (v := nI 6) dL_law_21 (by decide +kernel) ?_
    refine G.isub dL_law_23 ?_
    refine G.icmp_gt 938 dL_law_24 rfl (fun c24 => ?_) (fun c24 => ?_)
    · skip
      refine G.wid 600000 7302250 (by decide) (by decide) ?_
      refine G.iconst (v := nI 1) dL_law_938 (by decide +kernel) ?_
      refine G.zret rfl (Or.inr rfl) rfl rfl dL_law_939 ?_
      exact hpost _ _ _
    · skip
      have hi : ii + 6 ≤ L := by
        rw [Int32.lt_iff_toInt_lt, pk_sub_toInt (by omega) (by omega), nI_toInt (by omega)] at c24
        omega
      refine G.aload_n 0 rfl rfl dL_law_27 ?_
      refine G.iload_n 3 rfl rfl dL_law_28 ?_
      refine G.sld hX hbl hbA ii rfl (by omega) (by omega) dL_law_29 ?_
      refine G.bipush (v := nI 31) dL_law_30 (by decide +kernel) ?_
      refine G.iand dL_law_32 ?_
      refine G.namei (fun zz hzz => ?_)
      clear hzz
      rcases sw_cases zz with ⟨n, hn, rfl⟩ | hn
      · skip
        rcases (show n = 0 ∨ n = 1 ∨ n = 2 ∨ n = 3 ∨ n = 4 ∨ n = 5 ∨ n = 6 ∨ n = 7 ∨ n = 8 ∨ n = 9 ∨ n = 10 ∨ n = 11 ∨ n = 12 ∨ n = 13 ∨ n = 14 ∨ n = 15 ∨ n = 16 ∨ n = 17 ∨ n = 18 ∨ n = 19 ∨ n = 20 ∨ n = 21 ∨ n = 22 by omega) with rfl | rfl | rfl | rfl | rfl | rfl | rfl | rfl | rfl | rfl | rfl | rfl | rfl | rfl | rfl | rfl | rfl | rfl | rfl | rfl | rfl | rfl | rfl
        · skip
          refine G.tableIn (off := 107) 140 dL_law_33 (by decide +kernel) (by decide +kernel) (by decide +kernel) rfl ?_
          exact lb_row hX hbl hbA hL hi hN hC hM (next hi)
        · skip
          refine G.tableIn (off := 186) 219 dL_law_33 (by decide +kernel) (by decide +kernel) (by decide +kernel) rfl ?_
          exact lb_late hX hbl hbA hL hi hN hC hM (next hi)
        · skip
          refine G.tableIn (off := 235) 268 dL_law_33 (by decide +kernel) (by decide +kernel) (by decide +kernel) rfl ?_
          exact lb_item hX hbl hbA hL hi hN hC hM (next hi)
        · skip
          refine G.tableIn (off := 268) 301 dL_law_33 (by decide +kernel) (by decide +kernel) (by decide +kernel) rfl ?_
          exact lb_wipe hX hbl hbA hL hi hN hC hM (next hi)
        · skip
          refine G.tableIn (off := 281) 314 dL_law_33 (by decide +kernel) (by decide +kernel) (by decide +kernel) rfl ?_
          exact lb_read hX hbl hbA hL hi hN hC hM (next hi)
        · skip
          refine G.tableIn (off := 304) 337 dL_law_33 (by decide +kernel) (by decide +kernel) (by decide +kernel) rfl ?_
          exact lb_each hX hbl hbA hL hi hN hC hM (next hi)
        · skip
          refine G.tableIn (off := 357) 390 dL_law_33 (by decide +kernel) (by decide +kernel) (by decide +kernel) rfl ?_
          exact lb_spans hX hbl hbA hL hi hN hC hM (next hi)
        · skip
          refine G.tableIn (off := 400) 433 dL_law_33 (by decide +kernel) (by decide +kernel) (by decide +kernel) rfl ?_
          exact lb_join hX hbl hbA hL hi hN hC hM (next hi)
        · skip
          refine G.tableIn (off := 443) 476 dL_law_33 (by decide +kernel) (by decide +kernel) (by decide +kernel) rfl ?_
          exact lb_meet hX hbl hbA hL hi hN hC hM (next hi)
        · skip
          refine G.tableIn (off := 476) 509 dL_law_33 (by decide +kernel) (by decide +kernel) (by decide +kernel) rfl ?_
          exact lb_falls hX hbl hbA hL hi hN hC hM (next hi)
        · skip
          refine G.tableIn (off := 509) 542 dL_law_33 (by decide +kernel) (by decide +kernel) (by decide +kernel) rfl ?_
          exact lb_first hX hbl hbA hL hi hN hC hM (next hi)
        · skip
          refine G.tableIn (off := 542) 575 dL_law_33 (by decide +kernel) (by decide +kernel) (by decide +kernel) rfl ?_
          exact lb_drop hX hbl hbA hL hi hN hC hM (next hi)
        · skip
          refine G.tableIn (off := 555) 588 dL_law_33 (by decide +kernel) (by decide +kernel) (by decide +kernel) rfl ?_
          exact lb_judge hX hbl hbA hL hi hN hC hM (next hi)
        · skip
          refine G.tableIn (off := 568) 601 dL_law_33 (by decide +kernel) (by decide +kernel) (by decide +kernel) rfl ?_
          exact lb_rows hX hbl hbA hL hi hN hC hM (next hi)
        · skip
          refine G.tableIn (off := 591) 624 dL_law_33 (by decide +kernel) (by decide +kernel) (by decide +kernel) rfl ?_
          exact lb_told hX hbl hbA hL hi hN hC hM (next hi)
        · skip
          refine G.tableIn (off := 634) 667 dL_law_33 (by decide +kernel) (by decide +kernel) (by decide +kernel) rfl ?_
          exact lb_value hX hbl hbA hL hi hN hC hM (next hi)
        · skip
          refine G.tableIn (off := 668) 701 dL_law_33 (by decide +kernel) (by decide +kernel) (by decide +kernel) rfl ?_
          exact lb_fails hX hbl hbA hL hi hN hC hM (next hi)
        · skip
          refine G.tableIn (off := 701) 734 dL_law_33 (by decide +kernel) (by decide +kernel) (by decide +kernel) rfl ?_
          exact lb_tell hX hbl hbA hL hi hN hC hM (next hi)
        · skip
          refine G.tableIn (off := 784) 817 dL_law_33 (by decide +kernel) (by decide +kernel) (by decide +kernel) rfl ?_
          exact lb_untell hX hbl hbA hL hi hN hC hM (next hi)
        · skip
          refine G.tableIn (off := 807) 840 dL_law_33 (by decide +kernel) (by decide +kernel) (by decide +kernel) rfl ?_
          exact lb_compare hX hbl hbA hL hi hN hC hM (next hi)
        · skip
          refine G.tableIn (off := 840) 873 dL_law_33 (by decide +kernel) (by decide +kernel) (by decide +kernel) rfl ?_
          exact lb_where hX hbl hbA hL hi hN hC hM (next hi)
        · skip
          refine G.tableIn (off := 863) 896 dL_law_33 (by decide +kernel) (by decide +kernel) (by decide +kernel) rfl ?_
          exact lb_count hX hbl hbA hL hi hN hC hM (next hi)
        · skip
          refine G.tableIn (off := 886) 919 dL_law_33 (by decide +kernel) (by decide +kernel) (by decide +kernel) rfl ?_
          exact lb_clear hX hbl hbA hL hi hN hC hM (next hi)
      · skip
        refine G.tableOut 932 dL_law_33 (hn) rfl ?_
        exact next hi _ _ _ _ _ _ _ _ _ hC hM
set_option maxHeartbeats 1000000 in
theorem lb_start (hX : va_X b L xs (gs P) (gs P).heap) (hbl : b < (gs P).heap.size) (hbA : ¬ gA P b) (hL : L ≤ 3072) (hpost : ∀ N ad w, post (some (.int (nI 1))) N ad w) (w : Nat → va_E) : G l t room_1 P cL_law 4 RL (some .boolean) post 600000 7302250 0 ad 0 0 0 [(0, .ref b)] [] w := by
  refine G.newo twX7 tyX7 tyX7_ok tb_44 tb_45 tb_33 (ci := 7) rfl (fs := [.null, .null, .null, .null, .null, .int 0, .int 0, .int 0]) dfX7 (Nat.le_of_ble_eq_true rfl) (Nat.le_of_ble_eq_true rfl) dL_law_0 (fun yq1 ya2 yw3 yhq4 yha5 yhn6 yhw7 => ?_)
  refine G.dup rfl dL_law_3 ?_
  refine G.st1 (k0 := 0) (yhq4) ?_
  refine G.callIA (n := 0) 0 (c_X7_init (yhn6)) rfl tb_46 tb_47 rfl tb_33 tb_48 (by decide +kernel) rfl ⟨rfl, rfl, (Nat.le_of_ble_eq_true rfl), (Nat.le_of_ble_eq_true rfl)⟩ (Nat.le_of_ble_eq_true rfl) ⟨(Nat.le_of_ble_eq_true rfl), (Nat.le_of_ble_eq_true rfl)⟩ dL_law_4 (fun yr8 yN9 ya10 yw11 hp => ?_)
  obtain ⟨rfl, rfl, yha12, yhw13, yhp14⟩ := hp
  refine G.astore_n [(1, .ref yq1), (0, .ref b)] dL_law_7 rfl (by decide) rfl ?_
  refine G.newo twX8 tyX8 tyX8_ok tb_598 tb_599 tb_42 (ci := 8) rfl (fs := [.int 0, .null, .null, .null, .null, .null, .null, .int 0, .null, .null, .null, .null, .int 0, .null, .null, .null, .null, .null, .null, .int 0, .null, .null, .null, .null, .int 0, .int 0, .int 0, .int 0, .int 0, .int 0]) dfX8 (Nat.le_of_ble_eq_true rfl) (Nat.le_of_ble_eq_true rfl) dL_law_8 (fun yq15 ya16 yw17 yhq18 yha19 yhn20 yhw21 => ?_)
  refine G.dup rfl dL_law_11 ?_
  refine G.st1 (k0 := 132) (yhq18) ?_
  refine G.callIA (n := 0) 132 (c_X8_init (yhn20)) rfl tb_600 tb_601 rfl tb_42 tb_602 (by decide +kernel) rfl ⟨rfl, rfl, (Nat.le_of_ble_eq_true rfl), (Nat.le_of_ble_eq_true rfl)⟩ (Nat.le_of_ble_eq_true rfl) ⟨(Nat.le_of_ble_eq_true rfl), (Nat.le_of_ble_eq_true rfl)⟩ dL_law_12 (fun yr22 yN23 ya24 yw25 hp => ?_)
  obtain ⟨rfl, rfl, yha26, yhw27, yhp28⟩ := hp
  refine G.astore_n [(2, .ref yq15), (1, .ref yq1), (0, .ref b)] dL_law_15 rfl (by decide) rfl ?_
  refine G.iconst (v := nI 0) dL_law_16 (by decide +kernel) ?_
  refine G.istore_n [(3, .int (nI 0)), (2, .ref yq15), (1, .ref yq1), (0, .ref b)] dL_law_17 rfl (by decide) rfl ?_
  refine G.pick [3, 2, 1, 0] [(0, .ref b), (1, .ref yq1), (2, .ref yq15), (3, .int (nI 0))] rfl ?_
  have za0 : ya24 0 = yq1 := ((yha26 0 (by omega)).trans ((yha19 0 (by omega)).trans ((yha12 0 (by omega)).trans (yhq4))))
  have za132 : ya24 132 = yq15 := ((yha26 132 (by omega)).trans (yhq18))
  have zpa : ∀ i, i < 132 → ya24 i = _ := fun i hi => (yha26 i (by omega)).trans (yha19 i (by omega))
  have zpw : ∀ i, i < 132 → yw25 i = _ := fun i hi => (yhw27 i (by omega)).trans (yhw21 i (by omega))
  have zC := (yhp14 (fun _ => (false, [], 0, 0))).mv zpa zpw
  have zM := yhp28 (fun _ => (false, [], 0, 0))
  rw [← za0, ← za132]
  exact lb_loop hX hbl hbA hL (by omega) hpost L 0 _ _ _ _ _ _ _ _ _ (by omega) (by omega) zC zM
end LawLoop

