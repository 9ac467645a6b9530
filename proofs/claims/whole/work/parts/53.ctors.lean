/-! constructors -/
theorem dfX0 : ∀ j, j < 6 → defaultValue (tyX0 j) = vp_V [.null, .null, .null, .null, .null, .int 0] j := by
  intro j hj
  rcases (show j = 0 ∨ j = 1 ∨ j = 2 ∨ j = 3 ∨ j = 4 ∨ j = 5 by omega) with rfl | rfl | rfl | rfl | rfl | rfl <;> rfl
theorem dfX1 : ∀ j, j < 6 → defaultValue (tyX1 j) = vp_V [.null, .null, .int 0, .int 0, .int 0, .int 0] j := by
  intro j hj
  rcases (show j = 0 ∨ j = 1 ∨ j = 2 ∨ j = 3 ∨ j = 4 ∨ j = 5 by omega) with rfl | rfl | rfl | rfl | rfl | rfl <;> rfl
theorem dfX2 : ∀ j, j < 10 → defaultValue (tyX2 j) = vp_V [.null, .null, .int 0, .int 0, .int 0, .int 0, .int 0, .int 0, .int 0, .int 0] j := by
  intro j hj
  rcases (show j = 0 ∨ j = 1 ∨ j = 2 ∨ j = 3 ∨ j = 4 ∨ j = 5 ∨ j = 6 ∨ j = 7 ∨ j = 8 ∨ j = 9 by omega) with rfl | rfl | rfl | rfl | rfl | rfl | rfl | rfl | rfl | rfl <;> rfl
theorem dfX3 : ∀ j, j < 2 → defaultValue (tyX3 j) = vp_V [.null, .null] j := by
  intro j hj
  rcases (show j = 0 ∨ j = 1 by omega) with rfl | rfl <;> rfl
theorem dfX4 : ∀ j, j < 4 → defaultValue (tyX4 j) = vp_V [.null, .null, .null, .int 0] j := by
  intro j hj
  rcases (show j = 0 ∨ j = 1 ∨ j = 2 ∨ j = 3 by omega) with rfl | rfl | rfl | rfl <;> rfl
theorem dfX5 : ∀ j, j < 2 → defaultValue (tyX5 j) = vp_V [.null, .null] j := by
  intro j hj
  rcases (show j = 0 ∨ j = 1 by omega) with rfl | rfl <;> rfl
theorem dfX6 : ∀ j, j < 1 → defaultValue (tyX6 j) = vp_V [.null] j := by
  intro j hj
  obtain rfl : j = 0 := by omega
  rfl
theorem dfX7 : ∀ j, j < 8 → defaultValue (tyX7 j) = vp_V [.null, .null, .null, .null, .null, .int 0, .int 0, .int 0] j := by
  intro j hj
  rcases (show j = 0 ∨ j = 1 ∨ j = 2 ∨ j = 3 ∨ j = 4 ∨ j = 5 ∨ j = 6 ∨ j = 7 by omega) with rfl | rfl | rfl | rfl | rfl | rfl | rfl | rfl <;> rfl
theorem dfX8 : ∀ j, j < 30 → defaultValue (tyX8 j) = vp_V [.int 0, .null, .null, .null, .null, .null, .null, .int 0, .null, .null, .null, .null, .int 0, .null, .null, .null, .null, .null, .null, .int 0, .null, .null, .null, .null, .int 0, .int 0, .int 0, .int 0, .int 0, .int 0] j := by
  intro j hj
  rcases (show j = 0 ∨ j = 1 ∨ j = 2 ∨ j = 3 ∨ j = 4 ∨ j = 5 ∨ j = 6 ∨ j = 7 ∨ j = 8 ∨ j = 9 ∨ j = 10 ∨ j = 11 ∨ j = 12 ∨ j = 13 ∨ j = 14 ∨ j = 15 ∨ j = 16 ∨ j = 17 ∨ j = 18 ∨ j = 19 ∨ j = 20 ∨ j = 21 ∨ j = 22 ∨ j = 23 ∨ j = 24 ∨ j = 25 ∨ j = 26 ∨ j = 27 ∨ j = 28 ∨ j = 29 by omega) with rfl | rfl | rfl | rfl | rfl | rfl | rfl | rfl | rfl | rfl | rfl | rfl | rfl | rfl | rfl | rfl | rfl | rfl | rfl | rfl | rfl | rfl | rfl | rfl | rfl | rfl | rfl | rfl | rfl | rfl <;> rfl
section Ctor
variable {l : Launch} {t : TT} {ad : Nat → Nat} {w : Nat → va_E} {k : Nat}
set_option maxHeartbeats 1000000 in
theorem c_X4_init {cap : Nat} (h0 : w k = .inr (4, [.null, .null, .null, .int 0])) (hcap : cap < 1000) :
    KA l t yX4_init cX4_init 3 none (rC 1 3 (3 * cap)) (k + 1) ad w [.ref (ad k), .int (nI cap)] 3 (3 * cap) (fun res N' ad' w' => res = none ∧ N' = k + 4 ∧ (∀ i, i < k + 1 → ad' i = ad i) ∧ (∀ i, i < k → w' i = w i) ∧ isRows t ad' w' k cap []) := by
  refine KA.ofI (own := RX4) (lv := [(0, .ref (ad k)), (1, .int (nI cap))]) (by decide +kernel) rfl rfl (Nat.le_of_ble_eq_true rfl) rfl (fun P post hin hret => ?_)
  refine G.aload_n 0 rfl rfl dX4_init_0 ?_
  refine G.objInit tb_129 (Nat.le_of_ble_eq_true rfl) (Nat.le_of_ble_eq_true rfl) dX4_init_1 ?_
  refine G.aload_n 0 rfl rfl dX4_init_4 ?_
  refine G.iconst (v := nI 0) dX4_init_5 (by decide +kernel) ?_
  refine G.st2 (k0 := k) (rfl) ?_
  refine G.put k (by omega) (h0) rfl twX4 3 (by decide) tyX4 tyX4_ok nmX4 tb_136 rfl rfl (tyX4_ok 3 (by decide)) rfl rfl (Nat.le_of_ble_eq_true rfl) dX4_init_6 (fun yw1 yh2 yf3 => ?_)
  have yh4 : yw1 k = .inr (4, [.null, .null, .null, .int (nI 0)]) := yh2
  refine G.iload_n 1 rfl rfl dX4_init_9 ?_
  refine G.iconst (v := nI 0) dX4_init_10 (by decide +kernel) ?_
  refine G.callS (n := 2) (c_J9_maxI (nI cap) (nI 0)) rfl tb_130 tb_131 tb_40 tb_132 (by decide +kernel) rfl ⟨(Nat.le_of_ble_eq_true rfl), (Nat.le_of_ble_eq_true rfl)⟩ ⟨rfl, rfl⟩ (Nat.le_of_ble_eq_true rfl) ⟨Nat.zero_le _, Nat.zero_le _⟩ dX4_init_11 (fun yr0 yw0 hp => ?_)
  obtain ⟨rfl, rfl⟩ := hp
  rw [if_neg (show ¬ nI cap < nI 0 from nI_pos (by omega))]
  refine G.istore_n [(2, .int (nI cap)), (0, .ref (ad k)), (1, .int (nI cap))] dX4_init_14 rfl (by decide) rfl ?_
  refine G.aload_n 1 rfl rfl dX4_init_15 ?_
  refine G.iload_n 0 rfl rfl dX4_init_16 ?_
  refine G.newa (atype := .int) (ty := .int) (a0 := (cap, .inl (fun _ => 0))) 0 cap rfl tb_77 rfl (fun _ => rfl) rfl (by omega) (by show cap * 4 ≤ _; omega) (Nat.le_of_ble_eq_true rfl) (by show 0 + cap ≤ 3 * cap; omega) dX4_init_17 (fun yq5 ya6 yw7 yhq8 yha9 yhn10 yhw11 => ?_)
  refine G.st2 (k0 := k) (yha9 k (by omega)) ?_
  refine G.putF k (by omega) ((yhw11 k (by omega)).trans (yh4)) rfl twX4 0 (by decide) tyX4 tyX4_ok nmX4 tb_133 rfl rfl hin rfl (tyX4_ok 0 (by decide)) rfl rfl (Nat.le_of_ble_eq_true rfl) dX4_init_19 (fun yw12 yh13 yf14 => ?_)
  have yh15 : yw12 k = .inr (4, [.ref yq5, .null, .null, .int (nI 0)]) := yh13
  refine G.aload_n 1 rfl rfl dX4_init_22 ?_
  refine G.iload_n 0 rfl rfl dX4_init_23 ?_
  refine G.newa (atype := .int) (ty := .int) (a0 := (cap, .inl (fun _ => 0))) 0 cap rfl tb_77 rfl (fun _ => rfl) rfl (by omega) (by show cap * 4 ≤ _; omega) (Nat.le_of_ble_eq_true rfl) (by show 0 + cap + cap ≤ 3 * cap; omega) dX4_init_24 (fun yq16 ya17 yw18 yhq19 yha20 yhn21 yhw22 => ?_)
  refine G.st2 (k0 := k) ((yha20 k (by omega)).trans (yha9 k (by omega))) ?_
  refine G.putF k (by omega) ((yhw22 k (by omega)).trans (yh15)) rfl twX4 1 (by decide) tyX4 tyX4_ok nmX4 tb_134 rfl rfl hin rfl (tyX4_ok 1 (by decide)) rfl rfl (Nat.le_of_ble_eq_true rfl) dX4_init_26 (fun yw23 yh24 yf25 => ?_)
  have yh26 : yw23 k = .inr (4, [.ref yq5, .ref yq16, .null, .int (nI 0)]) := yh24
  refine G.aload_n 1 rfl rfl dX4_init_29 ?_
  refine G.iload_n 0 rfl rfl dX4_init_30 ?_
  refine G.newa (atype := .long) (ty := .long) (a0 := (cap, .inr (.inl (fun _ => 0)))) 1 cap rfl tb_110 rfl (fun _ => rfl) rfl (by omega) (by show cap * 8 ≤ _; omega) (Nat.le_of_ble_eq_true rfl) (by show 0 + cap + cap + cap ≤ 3 * cap; omega) dX4_init_31 (fun yq27 ya28 yw29 yhq30 yha31 yhn32 yhw33 => ?_)
  refine G.st2 (k0 := k) ((yha31 k (by omega)).trans ((yha20 k (by omega)).trans (yha9 k (by omega)))) ?_
  refine G.putF k (by omega) ((yhw33 k (by omega)).trans (yh26)) rfl twX4 2 (by decide) tyX4 tyX4_ok nmX4 tb_135 rfl rfl hin rfl (tyX4_ok 2 (by decide)) rfl rfl (Nat.le_of_ble_eq_true rfl) dX4_init_33 (fun yw34 yh35 yf36 => ?_)
  have yh37 : yw34 k = .inr (4, [.ref yq5, .ref yq16, .ref yq27, .int (nI 0)]) := yh35
  have za1 : ya28 (k + 1) = yq5 := ((yha31 (k + 1) (by omega)).trans ((yha20 (k + 1) (by omega)).trans (yhq8)))
  have za2 : ya28 (k + 2) = yq16 := ((yha31 (k + 2) (by omega)).trans (yhq19))
  have za3 : ya28 (k + 3) = yq27 := (yhq30)
  have zw0 := (yh37)
  have zw1 := ((yf36 (k + 1) (by omega)).trans ((yhw33 (k + 1) (by omega)).trans ((yf25 (k + 1) (by omega)).trans ((yhw22 (k + 1) (by omega)).trans ((yf14 (k + 1) (by omega)).trans (yhn10))))))
  have zw2 := ((yf36 (k + 2) (by omega)).trans ((yhw33 (k + 2) (by omega)).trans ((yf25 (k + 2) (by omega)).trans (yhn21))))
  have zw3 := ((yf36 (k + 3) (by omega)).trans (yhn32))
  have zA : ∀ i, i ≤ k → ya28 i = ad i := fun i hi => (yha31 i (by omega)).trans ((yha20 i (by omega)).trans (yha9 i (by omega)))
  have zW : ∀ i, i < k → yw34 i = w i := fun i hi => (yf36 i (by omega)).trans ((yhw33 i (by omega)).trans ((yf25 i (by omega)).trans ((yhw22 i (by omega)).trans ((yf14 i (by omega)).trans ((yhw11 i (by omega)).trans (yf3 i (by omega)))))))
  refine G.vret rfl rfl (by show 0 + cap + cap + cap = 3 * cap; omega) dX4_init_36 ?_
  refine hret _ _ _ _ ⟨rfl, rfl, fun i hi => zA i (by omega), fun i hi => zW i (by omega), ?_⟩
  exact ⟨fun _ => 0, fun _ => 0, fun _ => 0, 0, by rw [za1, za2, za3]; exact zw0, zw1, zw2, zw3, Nat.zero_le _, rfl⟩
set_option maxHeartbeats 1000000 in
theorem c_X0_init (h0 : w k = .inr (0, [.null, .null, .null, .null, .null, .int 0])) :
    KA l t yX0_init cX0_init 1 none (rC 1 5 300) (k + 1) ad w [.ref (ad k)] 5 300 (fun res N' ad' w' => res = none ∧ N' = k + 6 ∧ (∀ i, i < k + 1 → ad' i = ad i) ∧ (∀ i, i < k → w' i = w i) ∧ isArr t ad' w' k []) := by
  refine KA.ofI (own := RX0) (lv := [(0, .ref (ad k))]) (by decide +kernel) rfl rfl (Nat.le_of_ble_eq_true rfl) rfl (fun P post hin hret => ?_)
  refine G.aload_n 0 rfl rfl dX0_init_0 ?_
  refine G.objInit tb_57 (Nat.le_of_ble_eq_true rfl) (Nat.le_of_ble_eq_true rfl) dX0_init_1 ?_
  refine G.aload_n 0 rfl rfl dX0_init_4 ?_
  refine G.bipush (v := nI 60) dX0_init_5 (by decide +kernel) ?_
  refine G.newa (atype := .int) (ty := .int) (a0 := (60, .inl (fun _ => 0))) 0 60 rfl tb_77 rfl (fun _ => rfl) rfl (Nat.le_of_ble_eq_true rfl) (Nat.le_of_ble_eq_true rfl) (Nat.le_of_ble_eq_true rfl) (Nat.le_of_ble_eq_true rfl) dX0_init_7 (fun yq1 ya2 yw3 yhq4 yha5 yhn6 yhw7 => ?_)
  refine G.st2 (k0 := k) (yha5 k (by omega)) ?_
  refine G.putF k (by omega) ((yhw7 k (by omega)).trans (h0)) rfl twX0 0 (by decide) tyX0 tyX0_ok nmX0 tb_58 rfl rfl hin rfl (tyX0_ok 0 (by decide)) rfl rfl (Nat.le_of_ble_eq_true rfl) dX0_init_9 (fun yw8 yh9 yf10 => ?_)
  have yh11 : yw8 k = .inr (0, [.ref yq1, .null, .null, .null, .null, .int 0]) := yh9
  refine G.aload_n 0 rfl rfl dX0_init_12 ?_
  refine G.bipush (v := nI 60) dX0_init_13 (by decide +kernel) ?_
  refine G.newa (atype := .int) (ty := .int) (a0 := (60, .inl (fun _ => 0))) 0 60 rfl tb_77 rfl (fun _ => rfl) rfl (Nat.le_of_ble_eq_true rfl) (Nat.le_of_ble_eq_true rfl) (Nat.le_of_ble_eq_true rfl) (Nat.le_of_ble_eq_true rfl) dX0_init_15 (fun yq12 ya13 yw14 yhq15 yha16 yhn17 yhw18 => ?_)
  refine G.st2 (k0 := k) ((yha16 k (by omega)).trans (yha5 k (by omega))) ?_
  refine G.putF k (by omega) ((yhw18 k (by omega)).trans (yh11)) rfl twX0 1 (by decide) tyX0 tyX0_ok nmX0 tb_59 rfl rfl hin rfl (tyX0_ok 1 (by decide)) rfl rfl (Nat.le_of_ble_eq_true rfl) dX0_init_17 (fun yw19 yh20 yf21 => ?_)
  have yh22 : yw19 k = .inr (0, [.ref yq1, .ref yq12, .null, .null, .null, .int 0]) := yh20
  refine G.aload_n 0 rfl rfl dX0_init_20 ?_
  refine G.bipush (v := nI 60) dX0_init_21 (by decide +kernel) ?_
  refine G.newa (atype := .int) (ty := .int) (a0 := (60, .inl (fun _ => 0))) 0 60 rfl tb_77 rfl (fun _ => rfl) rfl (Nat.le_of_ble_eq_true rfl) (Nat.le_of_ble_eq_true rfl) (Nat.le_of_ble_eq_true rfl) (Nat.le_of_ble_eq_true rfl) dX0_init_23 (fun yq23 ya24 yw25 yhq26 yha27 yhn28 yhw29 => ?_)
  refine G.st2 (k0 := k) ((yha27 k (by omega)).trans ((yha16 k (by omega)).trans (yha5 k (by omega)))) ?_
  refine G.putF k (by omega) ((yhw29 k (by omega)).trans (yh22)) rfl twX0 2 (by decide) tyX0 tyX0_ok nmX0 tb_60 rfl rfl hin rfl (tyX0_ok 2 (by decide)) rfl rfl (Nat.le_of_ble_eq_true rfl) dX0_init_25 (fun yw30 yh31 yf32 => ?_)
  have yh33 : yw30 k = .inr (0, [.ref yq1, .ref yq12, .ref yq23, .null, .null, .int 0]) := yh31
  refine G.aload_n 0 rfl rfl dX0_init_28 ?_
  refine G.bipush (v := nI 60) dX0_init_29 (by decide +kernel) ?_
  refine G.newa (atype := .int) (ty := .int) (a0 := (60, .inl (fun _ => 0))) 0 60 rfl tb_77 rfl (fun _ => rfl) rfl (Nat.le_of_ble_eq_true rfl) (Nat.le_of_ble_eq_true rfl) (Nat.le_of_ble_eq_true rfl) (Nat.le_of_ble_eq_true rfl) dX0_init_31 (fun yq34 ya35 yw36 yhq37 yha38 yhn39 yhw40 => ?_)
  refine G.st2 (k0 := k) ((yha38 k (by omega)).trans ((yha27 k (by omega)).trans ((yha16 k (by omega)).trans (yha5 k (by omega))))) ?_
  refine G.putF k (by omega) ((yhw40 k (by omega)).trans (yh33)) rfl twX0 3 (by decide) tyX0 tyX0_ok nmX0 tb_61 rfl rfl hin rfl (tyX0_ok 3 (by decide)) rfl rfl (Nat.le_of_ble_eq_true rfl) dX0_init_33 (fun yw41 yh42 yf43 => ?_)
  have yh44 : yw41 k = .inr (0, [.ref yq1, .ref yq12, .ref yq23, .ref yq34, .null, .int 0]) := yh42
  refine G.aload_n 0 rfl rfl dX0_init_36 ?_
  refine G.bipush (v := nI 60) dX0_init_37 (by decide +kernel) ?_
  refine G.newa (atype := .boolean) (ty := .boolean) (a0 := (60, .inl (fun _ => 0))) 2 60 rfl tb_78 rfl (fun _ => rfl) rfl (Nat.le_of_ble_eq_true rfl) (Nat.le_of_ble_eq_true rfl) (Nat.le_of_ble_eq_true rfl) (Nat.le_of_ble_eq_true rfl) dX0_init_39 (fun yq45 ya46 yw47 yhq48 yha49 yhn50 yhw51 => ?_)
  refine G.st2 (k0 := k) ((yha49 k (by omega)).trans ((yha38 k (by omega)).trans ((yha27 k (by omega)).trans ((yha16 k (by omega)).trans (yha5 k (by omega)))))) ?_
  refine G.putF k (by omega) ((yhw51 k (by omega)).trans (yh44)) rfl twX0 4 (by decide) tyX0 tyX0_ok nmX0 tb_62 rfl rfl hin rfl (tyX0_ok 4 (by decide)) rfl rfl (Nat.le_of_ble_eq_true rfl) dX0_init_41 (fun yw52 yh53 yf54 => ?_)
  have yh55 : yw52 k = .inr (0, [.ref yq1, .ref yq12, .ref yq23, .ref yq34, .ref yq45, .int 0]) := yh53
  refine G.aload_n 0 rfl rfl dX0_init_44 ?_
  refine G.iconst (v := nI 0) dX0_init_45 (by decide +kernel) ?_
  refine G.st2 (k0 := k) ((yha49 k (by omega)).trans ((yha38 k (by omega)).trans ((yha27 k (by omega)).trans ((yha16 k (by omega)).trans (yha5 k (by omega)))))) ?_
  refine G.put k (by omega) (yh55) rfl twX0 5 (by decide) tyX0 tyX0_ok nmX0 tb_63 rfl rfl (tyX0_ok 5 (by decide)) rfl rfl (Nat.le_of_ble_eq_true rfl) dX0_init_46 (fun yw56 yh57 yf58 => ?_)
  have yh59 : yw56 k = .inr (0, [.ref yq1, .ref yq12, .ref yq23, .ref yq34, .ref yq45, .int (nI 0)]) := yh57
  have za1 : ya46 (k + 1) = yq1 := ((yha49 (k + 1) (by omega)).trans ((yha38 (k + 1) (by omega)).trans ((yha27 (k + 1) (by omega)).trans ((yha16 (k + 1) (by omega)).trans (yhq4)))))
  have za2 : ya46 (k + 2) = yq12 := ((yha49 (k + 2) (by omega)).trans ((yha38 (k + 2) (by omega)).trans ((yha27 (k + 2) (by omega)).trans (yhq15))))
  have za3 : ya46 (k + 3) = yq23 := ((yha49 (k + 3) (by omega)).trans ((yha38 (k + 3) (by omega)).trans (yhq26)))
  have za4 : ya46 (k + 4) = yq34 := ((yha49 (k + 4) (by omega)).trans (yhq37))
  have za5 : ya46 (k + 5) = yq45 := (yhq48)
  have zw0 := (yh59)
  have zw1 := ((yf58 (k + 1) (by omega)).trans ((yf54 (k + 1) (by omega)).trans ((yhw51 (k + 1) (by omega)).trans ((yf43 (k + 1) (by omega)).trans ((yhw40 (k + 1) (by omega)).trans ((yf32 (k + 1) (by omega)).trans ((yhw29 (k + 1) (by omega)).trans ((yf21 (k + 1) (by omega)).trans ((yhw18 (k + 1) (by omega)).trans ((yf10 (k + 1) (by omega)).trans (yhn6)))))))))))
  have zw2 := ((yf58 (k + 2) (by omega)).trans ((yf54 (k + 2) (by omega)).trans ((yhw51 (k + 2) (by omega)).trans ((yf43 (k + 2) (by omega)).trans ((yhw40 (k + 2) (by omega)).trans ((yf32 (k + 2) (by omega)).trans ((yhw29 (k + 2) (by omega)).trans ((yf21 (k + 2) (by omega)).trans (yhn17)))))))))
  have zw3 := ((yf58 (k + 3) (by omega)).trans ((yf54 (k + 3) (by omega)).trans ((yhw51 (k + 3) (by omega)).trans ((yf43 (k + 3) (by omega)).trans ((yhw40 (k + 3) (by omega)).trans ((yf32 (k + 3) (by omega)).trans (yhn28)))))))
  have zw4 := ((yf58 (k + 4) (by omega)).trans ((yf54 (k + 4) (by omega)).trans ((yhw51 (k + 4) (by omega)).trans ((yf43 (k + 4) (by omega)).trans (yhn39)))))
  have zw5 := ((yf58 (k + 5) (by omega)).trans ((yf54 (k + 5) (by omega)).trans (yhn50)))
  have zA : ∀ i, i ≤ k → ya46 i = ad i := fun i hi => (yha49 i (by omega)).trans ((yha38 i (by omega)).trans ((yha27 i (by omega)).trans ((yha16 i (by omega)).trans (yha5 i (by omega)))))
  have zW : ∀ i, i < k → yw56 i = w i := fun i hi => (yf58 i (by omega)).trans ((yf54 i (by omega)).trans ((yhw51 i (by omega)).trans ((yf43 i (by omega)).trans ((yhw40 i (by omega)).trans ((yf32 i (by omega)).trans ((yhw29 i (by omega)).trans ((yf21 i (by omega)).trans ((yhw18 i (by omega)).trans ((yf10 i (by omega)).trans (yhw7 i (by omega)))))))))))
  refine G.vret rfl rfl rfl dX0_init_49 ?_
  refine hret _ _ _ _ ⟨rfl, rfl, fun i hi => zA i (by omega), fun i hi => zW i (by omega), ?_⟩
  exact ⟨fun _ => 0, fun _ => 0, fun _ => 0, fun _ => 0, fun _ => 0, 0, by rw [za1, za2, za3, za4, za5]; exact zw0, zw1, zw2, zw3, zw4, zw5, Nat.zero_le _, rfl⟩
set_option maxHeartbeats 1000000 in
theorem c_X6_init (h0 : w k = .inr (6, [.null])) :
    KA l t yX6_init cX6_init 1 none (rC 1 1 8) (k + 1) ad w [.ref (ad k)] 1 8 (fun res N' ad' w' => res = none ∧ N' = k + 2 ∧ (∀ i, i < k + 1 → ad' i = ad i) ∧ (∀ i, i < k → w' i = w i) ∧ isTab t ad' w' k (fun _ => 0)) := by
  refine KA.ofI (own := RX6) (lv := [(0, .ref (ad k))]) (by decide +kernel) rfl rfl (Nat.le_of_ble_eq_true rfl) rfl (fun P post hin hret => ?_)
  refine G.aload_n 0 rfl rfl dX6_init_0 ?_
  refine G.objInit tb_84 (Nat.le_of_ble_eq_true rfl) (Nat.le_of_ble_eq_true rfl) dX6_init_1 ?_
  refine G.aload_n 0 rfl rfl dX6_init_4 ?_
  refine G.bipush (v := nI 8) dX6_init_5 (by decide +kernel) ?_
  refine G.newa (atype := .int) (ty := .int) (a0 := (8, .inl (fun _ => 0))) 0 8 rfl tb_77 rfl (fun _ => rfl) rfl (Nat.le_of_ble_eq_true rfl) (Nat.le_of_ble_eq_true rfl) (Nat.le_of_ble_eq_true rfl) (Nat.le_of_ble_eq_true rfl) dX6_init_7 (fun yq1 ya2 yw3 yhq4 yha5 yhn6 yhw7 => ?_)
  refine G.st2 (k0 := k) (yha5 k (by omega)) ?_
  refine G.putF k (by omega) ((yhw7 k (by omega)).trans (h0)) rfl twX6 0 (by decide) tyX6 tyX6_ok nmX6 tb_85 rfl rfl hin rfl (tyX6_ok 0 (by decide)) rfl rfl (Nat.le_of_ble_eq_true rfl) dX6_init_9 (fun yw8 yh9 yf10 => ?_)
  have yh11 : yw8 k = .inr (6, [.ref yq1]) := yh9
  have za1 : ya2 (k + 1) = yq1 := (yhq4)
  have zw0 := (yh11)
  have zw1 := ((yf10 (k + 1) (by omega)).trans (yhn6))
  have zA : ∀ i, i ≤ k → ya2 i = ad i := fun i hi => yha5 i (by omega)
  have zW : ∀ i, i < k → yw8 i = w i := fun i hi => (yf10 i (by omega)).trans (yhw7 i (by omega))
  refine G.vret rfl rfl rfl dX6_init_12 ?_
  refine hret _ _ _ _ ⟨rfl, rfl, fun i hi => zA i (by omega), fun i hi => zW i (by omega), ?_⟩
  exact ⟨fun _ => 0, by rw [za1]; exact zw0, zw1, fun _ _ => rfl⟩
set_option maxHeartbeats 1000000 in
theorem c_X5_init (h0 : w k = .inr (5, [.null, .null])) :
    KA l t yX5_init cX5_init 1 none (rC 1 2 12) (k + 1) ad w [.ref (ad k)] 2 12 (fun res N' ad' w' => res = none ∧ N' = k + 3 ∧ (∀ i, i < k + 1 → ad' i = ad i) ∧ (∀ i, i < k → w' i = w i) ∧ isSpan t ad' w' k (fun _ => 0) (fun _ => 0)) := by
  refine KA.ofI (own := RX5) (lv := [(0, .ref (ad k))]) (by decide +kernel) rfl rfl (Nat.le_of_ble_eq_true rfl) rfl (fun P post hin hret => ?_)
  refine G.aload_n 0 rfl rfl dX5_init_0 ?_
  refine G.objInit tb_102 (Nat.le_of_ble_eq_true rfl) (Nat.le_of_ble_eq_true rfl) dX5_init_1 ?_
  refine G.aload_n 0 rfl rfl dX5_init_4 ?_
  refine G.bipush (v := nI 6) dX5_init_5 (by decide +kernel) ?_
  refine G.newa (atype := .int) (ty := .int) (a0 := (6, .inl (fun _ => 0))) 0 6 rfl tb_77 rfl (fun _ => rfl) rfl (Nat.le_of_ble_eq_true rfl) (Nat.le_of_ble_eq_true rfl) (Nat.le_of_ble_eq_true rfl) (Nat.le_of_ble_eq_true rfl) dX5_init_7 (fun yq1 ya2 yw3 yhq4 yha5 yhn6 yhw7 => ?_)
  refine G.st2 (k0 := k) (yha5 k (by omega)) ?_
  refine G.putF k (by omega) ((yhw7 k (by omega)).trans (h0)) rfl twX5 0 (by decide) tyX5 tyX5_ok nmX5 tb_103 rfl rfl hin rfl (tyX5_ok 0 (by decide)) rfl rfl (Nat.le_of_ble_eq_true rfl) dX5_init_9 (fun yw8 yh9 yf10 => ?_)
  have yh11 : yw8 k = .inr (5, [.ref yq1, .null]) := yh9
  refine G.aload_n 0 rfl rfl dX5_init_12 ?_
  refine G.bipush (v := nI 6) dX5_init_13 (by decide +kernel) ?_
  refine G.newa (atype := .long) (ty := .long) (a0 := (6, .inr (.inl (fun _ => 0)))) 1 6 rfl tb_110 rfl (fun _ => rfl) rfl (Nat.le_of_ble_eq_true rfl) (Nat.le_of_ble_eq_true rfl) (Nat.le_of_ble_eq_true rfl) (Nat.le_of_ble_eq_true rfl) dX5_init_15 (fun yq12 ya13 yw14 yhq15 yha16 yhn17 yhw18 => ?_)
  refine G.st2 (k0 := k) ((yha16 k (by omega)).trans (yha5 k (by omega))) ?_
  refine G.putF k (by omega) ((yhw18 k (by omega)).trans (yh11)) rfl twX5 1 (by decide) tyX5 tyX5_ok nmX5 tb_104 rfl rfl hin rfl (tyX5_ok 1 (by decide)) rfl rfl (Nat.le_of_ble_eq_true rfl) dX5_init_17 (fun yw19 yh20 yf21 => ?_)
  have yh22 : yw19 k = .inr (5, [.ref yq1, .ref yq12]) := yh20
  have za1 : ya13 (k + 1) = yq1 := ((yha16 (k + 1) (by omega)).trans (yhq4))
  have za2 : ya13 (k + 2) = yq12 := (yhq15)
  have zw0 := (yh22)
  have zw1 := ((yf21 (k + 1) (by omega)).trans ((yhw18 (k + 1) (by omega)).trans ((yf10 (k + 1) (by omega)).trans (yhn6))))
  have zw2 := ((yf21 (k + 2) (by omega)).trans (yhn17))
  have zA : ∀ i, i ≤ k → ya13 i = ad i := fun i hi => (yha16 i (by omega)).trans (yha5 i (by omega))
  have zW : ∀ i, i < k → yw19 i = w i := fun i hi => (yf21 i (by omega)).trans ((yhw18 i (by omega)).trans ((yf10 i (by omega)).trans (yhw7 i (by omega))))
  refine G.vret rfl rfl rfl dX5_init_20 ?_
  refine hret _ _ _ _ ⟨rfl, rfl, fun i hi => zA i (by omega), fun i hi => zW i (by omega), ?_⟩
  exact ⟨fun _ => 0, fun _ => 0, by rw [za1, za2]; exact zw0, zw1, zw2, fun _ _ => ⟨nI_0.symm, rfl⟩⟩
set_option maxHeartbeats 1000000 in
theorem c_X3_init (h0 : w k = .inr (3, [.null, .null])) :
    KA l t yX3_init cX3_init 1 none (rC 2 4 20) (k + 1) ad w [.ref (ad k)] 4 20 (fun res N' ad' w' => res = none ∧ N' = k + 5 ∧ (∀ i, i < k + 1 → ad' i = ad i) ∧ (∀ i, i < k → w' i = w i) ∧ w' k = .inr (3, [.ref (ad' (k + 1)), .ref (ad' (k + 4))]) ∧ isSpan t ad' w' (k + 1) (fun _ => 0) (fun _ => 0) ∧ w' (k + 4) = .inl (t.2.1, 6, .inl (fun _ => 0))) := by
  refine KA.ofI (own := RX3) (lv := [(0, .ref (ad k))]) (by decide +kernel) rfl rfl (Nat.le_of_ble_eq_true rfl) rfl (fun P post hin hret => ?_)
  refine G.aload_n 0 rfl rfl dX3_init_0 ?_
  refine G.objInit tb_96 (Nat.le_of_ble_eq_true rfl) (Nat.le_of_ble_eq_true rfl) dX3_init_1 ?_
  refine G.aload_n 0 rfl rfl dX3_init_4 ?_
  refine G.newo twX5 tyX5 tyX5_ok tb_97 tb_98 tb_37 (ci := 5) rfl (fs := [.null, .null]) dfX5 (Nat.le_of_ble_eq_true rfl) (Nat.le_of_ble_eq_true rfl) dX3_init_5 (fun yq1 ya2 yw3 yhq4 yha5 yhn6 yhw7 => ?_)
  refine G.dup rfl dX3_init_8 ?_
  refine G.st1 (k0 := (k + 1)) (yhq4) ?_
  refine G.callINA (n := 0) (k + 1) (c_X5_init (k := (k + 1)) (yhn6)) rfl _ (List.mem_of_getElem? (i := 3) rfl) rfl tb_100 rfl tb_37 tb_101 (by decide +kernel) rfl ⟨rfl, rfl, (Nat.le_of_ble_eq_true rfl), (Nat.le_of_ble_eq_true rfl)⟩ (Nat.le_of_ble_eq_true rfl) ⟨(Nat.le_of_ble_eq_true rfl), (Nat.le_of_ble_eq_true rfl)⟩ dX3_init_9 (fun yr8 yN9 ya10 yw11 hp => ?_)
  obtain ⟨rfl, rfl, yha12, yhw13, yhp14⟩ := hp
  refine G.st2 (k0 := k) ((yha12 k (by omega)).trans (yha5 k (by omega))) ?_
  refine G.putF k (by omega) ((yhw13 k (by omega)).trans ((yhw7 k (by omega)).trans (h0))) rfl twX3 0 (by decide) tyX3 tyX3_ok nmX3 tb_111 rfl rfl hin rfl (tyX3_ok 0 (by decide)) rfl rfl (Nat.le_of_ble_eq_true rfl) dX3_init_12 (fun yw15 yh16 yf17 => ?_)
  have yh18 : yw15 k = .inr (3, [.ref yq1, .null]) := yh16
  refine G.aload_n 0 rfl rfl dX3_init_15 ?_
  refine G.bipush (v := nI 6) dX3_init_16 (by decide +kernel) ?_
  refine G.newa (atype := .int) (ty := .int) (a0 := (6, .inl (fun _ => 0))) 0 6 rfl tb_77 rfl (fun _ => rfl) rfl (Nat.le_of_ble_eq_true rfl) (Nat.le_of_ble_eq_true rfl) (Nat.le_of_ble_eq_true rfl) (Nat.le_of_ble_eq_true rfl) dX3_init_18 (fun yq19 ya20 yw21 yhq22 yha23 yhn24 yhw25 => ?_)
  refine G.st2 (k0 := k) ((yha23 k (by omega)).trans ((yha12 k (by omega)).trans (yha5 k (by omega)))) ?_
  refine G.putF k (by omega) ((yhw25 k (by omega)).trans (yh18)) rfl twX3 1 (by decide) tyX3 tyX3_ok nmX3 tb_112 rfl rfl hin rfl (tyX3_ok 1 (by decide)) rfl rfl (Nat.le_of_ble_eq_true rfl) dX3_init_20 (fun yw26 yh27 yf28 => ?_)
  have yh29 : yw26 k = .inr (3, [.ref yq1, .ref yq19]) := yh27
  have za1 : ya20 (k + 1) = yq1 := ((yha23 (k + 1) (by omega)).trans ((yha12 (k + 1) (by omega)).trans (yhq4)))
  have za4 : ya20 (k + 4) = yq19 := (yhq22)
  have zw0 := (yh29)
  have zw4 := ((yf28 (k + 4) (by omega)).trans (yhn24))
  have zpa0 : ∀ i, i < (k + 1) + 3 → ya20 i = _ := fun i hi => yha23 i (by omega)
  have zpw0 : ∀ i, (k + 1) ≤ i → i < (k + 1) + 3 → yw26 i = _ := fun i h1 h2 => (yf28 i (by omega)).trans ((yhw25 i (by omega)).trans (yf17 i (by omega)))
  have zA : ∀ i, i ≤ k → ya20 i = ad i := fun i hi => (yha23 i (by omega)).trans ((yha12 i (by omega)).trans (yha5 i (by omega)))
  have zW : ∀ i, i < k → yw26 i = w i := fun i hi => (yf28 i (by omega)).trans ((yhw25 i (by omega)).trans ((yf17 i (by omega)).trans ((yhw13 i (by omega)).trans (yhw7 i (by omega)))))
  refine G.vret rfl rfl rfl dX3_init_23 ?_
  refine hret _ _ _ _ ⟨rfl, rfl, fun i hi => zA i (by omega), fun i hi => zW i (by omega), ?_⟩
  exact ⟨by rw [za1, za4]; exact zw0, yhp14.mv (fun i h1 h2 => zpa0 i (by omega)) (fun i h1 h2 => zpw0 i (by omega) (by omega)), zw4⟩
set_option maxHeartbeats 1000000 in
theorem c_X1_init (h0 : w k = .inr (1, [.null, .null, .int 0, .int 0, .int 0, .int 0])) :
    KA l t yX1_init cX1_init 1 none (rC 2 8 728) (k + 1) ad w [.ref (ad k)] 8 728 (fun res N' ad' w' => res = none ∧ N' = k + 9 ∧ (∀ i, i < k + 1 → ad' i = ad i) ∧ (∀ i, i < k → w' i = w i) ∧ isCmp t ad' w' k none ∧ isCR t ad' w' k) := by
  refine KA.ofI (own := RX1) (lv := [(0, .ref (ad k))]) (by decide +kernel) rfl rfl (Nat.le_of_ble_eq_true rfl) rfl (fun P post hin hret => ?_)
  refine G.aload_n 0 rfl rfl dX1_init_0 ?_
  refine G.objInit tb_123 (Nat.le_of_ble_eq_true rfl) (Nat.le_of_ble_eq_true rfl) dX1_init_1 ?_
  refine G.aload_n 0 rfl rfl dX1_init_4 ?_
  refine G.newo twX4 tyX4 tyX4_ok tb_124 tb_125 tb_39 (ci := 4) rfl (fs := [.null, .null, .null, .int 0]) dfX4 (Nat.le_of_ble_eq_true rfl) (Nat.le_of_ble_eq_true rfl) dX1_init_5 (fun yq1 ya2 yw3 yhq4 yha5 yhn6 yhw7 => ?_)
  refine G.dup rfl dX1_init_8 ?_
  refine G.sipush (v := nI 200) dX1_init_9 (by decide +kernel) ?_
  refine G.st2 (k0 := (k + 1)) (yhq4) ?_
  refine G.callIA (n := 1) (k + 1) (c_X4_init (k := (k + 1)) (cap := 200) (yhn6) (by omega)) rfl tb_126 tb_127 rfl tb_39 tb_128 (by decide +kernel) rfl ⟨rfl, rfl, (Nat.le_of_ble_eq_true rfl), (Nat.le_of_ble_eq_true rfl)⟩ (Nat.le_of_ble_eq_true rfl) ⟨(Nat.le_of_ble_eq_true rfl), (Nat.le_of_ble_eq_true rfl)⟩ dX1_init_12 (fun yr8 yN9 ya10 yw11 hp => ?_)
  obtain ⟨rfl, rfl, yha12, yhw13, yhp14⟩ := hp
  refine G.st2 (k0 := k) ((yha12 k (by omega)).trans (yha5 k (by omega))) ?_
  refine G.putF k (by omega) ((yhw13 k (by omega)).trans ((yhw7 k (by omega)).trans (h0))) rfl twX1 0 (by decide) tyX1 tyX1_ok nmX1 tb_146 rfl rfl hin rfl (tyX1_ok 0 (by decide)) rfl rfl (Nat.le_of_ble_eq_true rfl) dX1_init_15 (fun yw15 yh16 yf17 => ?_)
  have yh18 : yw15 k = .inr (1, [.ref yq1, .null, .int 0, .int 0, .int 0, .int 0]) := yh16
  refine G.aload_n 0 rfl rfl dX1_init_18 ?_
  refine G.newo twX4 tyX4 tyX4_ok tb_124 tb_125 tb_39 (ci := 4) rfl (fs := [.null, .null, .null, .int 0]) dfX4 (Nat.le_of_ble_eq_true rfl) (Nat.le_of_ble_eq_true rfl) dX1_init_19 (fun yq19 ya20 yw21 yhq22 yha23 yhn24 yhw25 => ?_)
  refine G.dup rfl dX1_init_22 ?_
  refine G.bipush (v := nI 40) dX1_init_23 (by decide +kernel) ?_
  refine G.st2 (k0 := (k + 5)) (yhq22) ?_
  refine G.callIA (n := 1) (k + 5) (c_X4_init (k := (k + 5)) (cap := 40) (yhn24) (by omega)) rfl tb_126 tb_127 rfl tb_39 tb_128 (by decide +kernel) rfl ⟨rfl, rfl, (Nat.le_of_ble_eq_true rfl), (Nat.le_of_ble_eq_true rfl)⟩ (Nat.le_of_ble_eq_true rfl) ⟨(Nat.le_of_ble_eq_true rfl), (Nat.le_of_ble_eq_true rfl)⟩ dX1_init_25 (fun yr26 yN27 ya28 yw29 hp => ?_)
  obtain ⟨rfl, rfl, yha30, yhw31, yhp32⟩ := hp
  refine G.st2 (k0 := k) ((yha30 k (by omega)).trans ((yha23 k (by omega)).trans ((yha12 k (by omega)).trans (yha5 k (by omega))))) ?_
  refine G.putF k (by omega) ((yhw31 k (by omega)).trans ((yhw25 k (by omega)).trans (yh18))) rfl twX1 1 (by decide) tyX1 tyX1_ok nmX1 tb_147 rfl rfl hin rfl (tyX1_ok 1 (by decide)) rfl rfl (Nat.le_of_ble_eq_true rfl) dX1_init_28 (fun yw33 yh34 yf35 => ?_)
  have yh36 : yw33 k = .inr (1, [.ref yq1, .ref yq19, .int 0, .int 0, .int 0, .int 0]) := yh34
  refine G.aload_n 0 rfl rfl dX1_init_31 ?_
  refine G.iconst (v := nI 0) dX1_init_32 (by decide +kernel) ?_
  refine G.st2 (k0 := k) ((yha30 k (by omega)).trans ((yha23 k (by omega)).trans ((yha12 k (by omega)).trans (yha5 k (by omega))))) ?_
  refine G.put k (by omega) (yh36) rfl twX1 2 (by decide) tyX1 tyX1_ok nmX1 tb_148 rfl rfl (tyX1_ok 2 (by decide)) (nb_n (Or.inl rfl)) (nb_f (Or.inl rfl)) (Nat.le_of_ble_eq_true rfl) dX1_init_33 (fun yw37 yh38 yf39 => ?_)
  have yh40 : yw37 k = .inr (1, [.ref yq1, .ref yq19, .int (nI 0), .int 0, .int 0, .int 0]) := yh38
  refine G.aload_n 0 rfl rfl dX1_init_36 ?_
  refine G.iconst (v := nI 0) dX1_init_37 (by decide +kernel) ?_
  refine G.st2 (k0 := k) ((yha30 k (by omega)).trans ((yha23 k (by omega)).trans ((yha12 k (by omega)).trans (yha5 k (by omega))))) ?_
  refine G.put k (by omega) (yh40) rfl twX1 3 (by decide) tyX1 tyX1_ok nmX1 tb_149 rfl rfl (tyX1_ok 3 (by decide)) rfl rfl (Nat.le_of_ble_eq_true rfl) dX1_init_38 (fun yw41 yh42 yf43 => ?_)
  have yh44 : yw41 k = .inr (1, [.ref yq1, .ref yq19, .int (nI 0), .int (nI 0), .int 0, .int 0]) := yh42
  refine G.aload_n 0 rfl rfl dX1_init_41 ?_
  refine G.iconst (v := nI 0) dX1_init_42 (by decide +kernel) ?_
  refine G.st2 (k0 := k) ((yha30 k (by omega)).trans ((yha23 k (by omega)).trans ((yha12 k (by omega)).trans (yha5 k (by omega))))) ?_
  refine G.put k (by omega) (yh44) rfl twX1 4 (by decide) tyX1 tyX1_ok nmX1 tb_150 rfl rfl (tyX1_ok 4 (by decide)) rfl rfl (Nat.le_of_ble_eq_true rfl) dX1_init_43 (fun yw45 yh46 yf47 => ?_)
  have yh48 : yw45 k = .inr (1, [.ref yq1, .ref yq19, .int (nI 0), .int (nI 0), .int (nI 0), .int 0]) := yh46
  refine G.aload_n 0 rfl rfl dX1_init_46 ?_
  refine G.iconst (v := nI 0) dX1_init_47 (by decide +kernel) ?_
  refine G.st2 (k0 := k) ((yha30 k (by omega)).trans ((yha23 k (by omega)).trans ((yha12 k (by omega)).trans (yha5 k (by omega))))) ?_
  refine G.put k (by omega) (yh48) rfl twX1 5 (by decide) tyX1 tyX1_ok nmX1 tb_151 rfl rfl (tyX1_ok 5 (by decide)) rfl rfl (Nat.le_of_ble_eq_true rfl) dX1_init_48 (fun yw49 yh50 yf51 => ?_)
  have yh52 : yw49 k = .inr (1, [.ref yq1, .ref yq19, .int (nI 0), .int (nI 0), .int (nI 0), .int (nI 0)]) := yh50
  have za1 : ya28 (k + 1) = yq1 := ((yha30 (k + 1) (by omega)).trans ((yha23 (k + 1) (by omega)).trans ((yha12 (k + 1) (by omega)).trans (yhq4))))
  have za5 : ya28 (k + 5) = yq19 := ((yha30 (k + 5) (by omega)).trans (yhq22))
  have zw0 := (yh52)
  have zpa0 : ∀ i, i < (k + 1) + 4 → ya28 i = _ := fun i hi => (yha30 i (by omega)).trans (yha23 i (by omega))
  have zpw0 : ∀ i, (k + 1) ≤ i → i < (k + 1) + 4 → yw49 i = _ := fun i h1 h2 => (yf51 i (by omega)).trans ((yf47 i (by omega)).trans ((yf43 i (by omega)).trans ((yf39 i (by omega)).trans ((yf35 i (by omega)).trans ((yhw31 i (by omega)).trans ((yhw25 i (by omega)).trans (yf17 i (by omega))))))))
  have zpa1 : ∀ i, i < (k + 5) + 4 → ya28 i = _ := fun i hi => rfl
  have zpw1 : ∀ i, (k + 5) ≤ i → i < (k + 5) + 4 → yw49 i = _ := fun i h1 h2 => (yf51 i (by omega)).trans ((yf47 i (by omega)).trans ((yf43 i (by omega)).trans ((yf39 i (by omega)).trans (yf35 i (by omega)))))
  have zA : ∀ i, i ≤ k → ya28 i = ad i := fun i hi => (yha30 i (by omega)).trans ((yha23 i (by omega)).trans ((yha12 i (by omega)).trans (yha5 i (by omega))))
  have zW : ∀ i, i < k → yw49 i = w i := fun i hi => (yf51 i (by omega)).trans ((yf47 i (by omega)).trans ((yf43 i (by omega)).trans ((yf39 i (by omega)).trans ((yf35 i (by omega)).trans ((yhw31 i (by omega)).trans ((yhw25 i (by omega)).trans ((yf17 i (by omega)).trans ((yhw13 i (by omega)).trans (yhw7 i (by omega))))))))))
  refine G.vret rfl rfl rfl dX1_init_51 ?_
  refine hret _ _ _ _ ⟨rfl, rfl, fun i hi => zA i (by omega), fun i hi => zW i (by omega), ?_⟩
  refine ⟨isCmp.none (a := nI 0) (b := nI 0) (c := nI 0) (by rw [cmF, za1, za5]; exact zw0), ⟨[], yhp14.mv (fun i h1 h2 => zpa0 i (by omega)) (fun i h1 h2 => zpw0 i (by omega) (by omega))⟩, [], yhp32.mv (fun i h1 h2 => zpa1 i (by omega)) (fun i h1 h2 => zpw1 i (by omega) (by omega))⟩
set_option maxHeartbeats 1000000 in
theorem c_X2_init (h0 : w k = .inr (2, [.null, .null, .int 0, .int 0, .int 0, .int 0, .int 0, .int 0, .int 0, .int 0])) :
    KA l t yX2_init cX2_init 1 none (rC 2 8 728) (k + 1) ad w [.ref (ad k)] 8 728 (fun res N' ad' w' => res = none ∧ N' = k + 9 ∧ (∀ i, i < k + 1 → ad' i = ad i) ∧ (∀ i, i < k → w' i = w i) ∧ w' k = .inr (2, opF ad' k (nI 0) (-1) (-1) (nI 0) (nI 0) (nI 0) (nI 0) (nI 0)) ∧ isRows t ad' w' (k + 1) 200 [] ∧ isRows t ad' w' (k + 5) 40 []) := by
  refine KA.ofI (own := RX2) (lv := [(0, .ref (ad k))]) (by decide +kernel) rfl rfl (Nat.le_of_ble_eq_true rfl) rfl (fun P post hin hret => ?_)
  refine G.aload_n 0 rfl rfl dX2_init_0 ?_
  refine G.objInit tb_169 (Nat.le_of_ble_eq_true rfl) (Nat.le_of_ble_eq_true rfl) dX2_init_1 ?_
  refine G.aload_n 0 rfl rfl dX2_init_4 ?_
  refine G.newo twX4 tyX4 tyX4_ok tb_170 tb_125 tb_39 (ci := 4) rfl (fs := [.null, .null, .null, .int 0]) dfX4 (Nat.le_of_ble_eq_true rfl) (Nat.le_of_ble_eq_true rfl) dX2_init_5 (fun yq1 ya2 yw3 yhq4 yha5 yhn6 yhw7 => ?_)
  refine G.dup rfl dX2_init_8 ?_
  refine G.sipush (v := nI 200) dX2_init_9 (by decide +kernel) ?_
  refine G.st2 (k0 := (k + 1)) (yhq4) ?_
  refine G.callIA (n := 1) (k + 1) (c_X4_init (k := (k + 1)) (cap := 200) (yhn6) (by omega)) rfl tb_171 tb_127 rfl tb_39 tb_128 (by decide +kernel) rfl ⟨rfl, rfl, (Nat.le_of_ble_eq_true rfl), (Nat.le_of_ble_eq_true rfl)⟩ (Nat.le_of_ble_eq_true rfl) ⟨(Nat.le_of_ble_eq_true rfl), (Nat.le_of_ble_eq_true rfl)⟩ dX2_init_12 (fun yr8 yN9 ya10 yw11 hp => ?_)
  obtain ⟨rfl, rfl, yha12, yhw13, yhp14⟩ := hp
  refine G.st2 (k0 := k) ((yha12 k (by omega)).trans (yha5 k (by omega))) ?_
  refine G.putF k (by omega) ((yhw13 k (by omega)).trans ((yhw7 k (by omega)).trans (h0))) rfl twX2 0 (by decide) tyX2 tyX2_ok nmX2 tb_172 rfl rfl hin rfl (tyX2_ok 0 (by decide)) rfl rfl (Nat.le_of_ble_eq_true rfl) dX2_init_15 (fun yw15 yh16 yf17 => ?_)
  have yh18 : yw15 k = .inr (2, [.ref yq1, .null, .int 0, .int 0, .int 0, .int 0, .int 0, .int 0, .int 0, .int 0]) := yh16
  refine G.aload_n 0 rfl rfl dX2_init_18 ?_
  refine G.newo twX4 tyX4 tyX4_ok tb_170 tb_125 tb_39 (ci := 4) rfl (fs := [.null, .null, .null, .int 0]) dfX4 (Nat.le_of_ble_eq_true rfl) (Nat.le_of_ble_eq_true rfl) dX2_init_19 (fun yq19 ya20 yw21 yhq22 yha23 yhn24 yhw25 => ?_)
  refine G.dup rfl dX2_init_22 ?_
  refine G.bipush (v := nI 40) dX2_init_23 (by decide +kernel) ?_
  refine G.st2 (k0 := (k + 5)) (yhq22) ?_
  refine G.callIA (n := 1) (k + 5) (c_X4_init (k := (k + 5)) (cap := 40) (yhn24) (by omega)) rfl tb_171 tb_127 rfl tb_39 tb_128 (by decide +kernel) rfl ⟨rfl, rfl, (Nat.le_of_ble_eq_true rfl), (Nat.le_of_ble_eq_true rfl)⟩ (Nat.le_of_ble_eq_true rfl) ⟨(Nat.le_of_ble_eq_true rfl), (Nat.le_of_ble_eq_true rfl)⟩ dX2_init_25 (fun yr26 yN27 ya28 yw29 hp => ?_)
  obtain ⟨rfl, rfl, yha30, yhw31, yhp32⟩ := hp
  refine G.st2 (k0 := k) ((yha30 k (by omega)).trans ((yha23 k (by omega)).trans ((yha12 k (by omega)).trans (yha5 k (by omega))))) ?_
  refine G.putF k (by omega) ((yhw31 k (by omega)).trans ((yhw25 k (by omega)).trans (yh18))) rfl twX2 1 (by decide) tyX2 tyX2_ok nmX2 tb_175 rfl rfl hin rfl (tyX2_ok 1 (by decide)) rfl rfl (Nat.le_of_ble_eq_true rfl) dX2_init_28 (fun yw33 yh34 yf35 => ?_)
  have yh36 : yw33 k = .inr (2, [.ref yq1, .ref yq19, .int 0, .int 0, .int 0, .int 0, .int 0, .int 0, .int 0, .int 0]) := yh34
  refine G.aload_n 0 rfl rfl dX2_init_31 ?_
  refine G.iconst (v := nI 0) dX2_init_32 (by decide +kernel) ?_
  refine G.st2 (k0 := k) ((yha30 k (by omega)).trans ((yha23 k (by omega)).trans ((yha12 k (by omega)).trans (yha5 k (by omega))))) ?_
  refine G.put k (by omega) (yh36) rfl twX2 2 (by decide) tyX2 tyX2_ok nmX2 tb_177 rfl rfl (tyX2_ok 2 (by decide)) rfl rfl (Nat.le_of_ble_eq_true rfl) dX2_init_33 (fun yw37 yh38 yf39 => ?_)
  have yh40 : yw37 k = .inr (2, [.ref yq1, .ref yq19, .int (nI 0), .int 0, .int 0, .int 0, .int 0, .int 0, .int 0, .int 0]) := yh38
  refine G.aload_n 0 rfl rfl dX2_init_36 ?_
  refine G.iconst (v := -1) dX2_init_37 (by decide +kernel) ?_
  refine G.st2 (k0 := k) ((yha30 k (by omega)).trans ((yha23 k (by omega)).trans ((yha12 k (by omega)).trans (yha5 k (by omega))))) ?_
  refine G.put k (by omega) (yh40) rfl twX2 3 (by decide) tyX2 tyX2_ok nmX2 tb_180 rfl rfl (tyX2_ok 3 (by decide)) rfl rfl (Nat.le_of_ble_eq_true rfl) dX2_init_38 (fun yw41 yh42 yf43 => ?_)
  have yh44 : yw41 k = .inr (2, [.ref yq1, .ref yq19, .int (nI 0), .int (-1), .int 0, .int 0, .int 0, .int 0, .int 0, .int 0]) := yh42
  refine G.aload_n 0 rfl rfl dX2_init_41 ?_
  refine G.iconst (v := -1) dX2_init_42 (by decide +kernel) ?_
  refine G.st2 (k0 := k) ((yha30 k (by omega)).trans ((yha23 k (by omega)).trans ((yha12 k (by omega)).trans (yha5 k (by omega))))) ?_
  refine G.put k (by omega) (yh44) rfl twX2 4 (by decide) tyX2 tyX2_ok nmX2 tb_182 rfl rfl (tyX2_ok 4 (by decide)) rfl rfl (Nat.le_of_ble_eq_true rfl) dX2_init_43 (fun yw45 yh46 yf47 => ?_)
  have yh48 : yw45 k = .inr (2, [.ref yq1, .ref yq19, .int (nI 0), .int (-1), .int (-1), .int 0, .int 0, .int 0, .int 0, .int 0]) := yh46
  refine G.aload_n 0 rfl rfl dX2_init_46 ?_
  refine G.iconst (v := nI 0) dX2_init_47 (by decide +kernel) ?_
  refine G.st2 (k0 := k) ((yha30 k (by omega)).trans ((yha23 k (by omega)).trans ((yha12 k (by omega)).trans (yha5 k (by omega))))) ?_
  refine G.put k (by omega) (yh48) rfl twX2 5 (by decide) tyX2 tyX2_ok nmX2 tb_184 rfl rfl (tyX2_ok 5 (by decide)) rfl rfl (Nat.le_of_ble_eq_true rfl) dX2_init_48 (fun yw49 yh50 yf51 => ?_)
  have yh52 : yw49 k = .inr (2, [.ref yq1, .ref yq19, .int (nI 0), .int (-1), .int (-1), .int (nI 0), .int 0, .int 0, .int 0, .int 0]) := yh50
  refine G.aload_n 0 rfl rfl dX2_init_51 ?_
  refine G.iconst (v := nI 0) dX2_init_52 (by decide +kernel) ?_
  refine G.st2 (k0 := k) ((yha30 k (by omega)).trans ((yha23 k (by omega)).trans ((yha12 k (by omega)).trans (yha5 k (by omega))))) ?_
  refine G.put k (by omega) (yh52) rfl twX2 6 (by decide) tyX2 tyX2_ok nmX2 tb_187 rfl rfl (tyX2_ok 6 (by decide)) rfl rfl (Nat.le_of_ble_eq_true rfl) dX2_init_53 (fun yw53 yh54 yf55 => ?_)
  have yh56 : yw53 k = .inr (2, [.ref yq1, .ref yq19, .int (nI 0), .int (-1), .int (-1), .int (nI 0), .int (nI 0), .int 0, .int 0, .int 0]) := yh54
  refine G.aload_n 0 rfl rfl dX2_init_56 ?_
  refine G.iconst (v := nI 0) dX2_init_57 (by decide +kernel) ?_
  refine G.st2 (k0 := k) ((yha30 k (by omega)).trans ((yha23 k (by omega)).trans ((yha12 k (by omega)).trans (yha5 k (by omega))))) ?_
  refine G.put k (by omega) (yh56) rfl twX2 7 (by decide) tyX2 tyX2_ok nmX2 tb_189 rfl rfl (tyX2_ok 7 (by decide)) (nb_n (Or.inl rfl)) (nb_f (Or.inl rfl)) (Nat.le_of_ble_eq_true rfl) dX2_init_58 (fun yw57 yh58 yf59 => ?_)
  have yh60 : yw57 k = .inr (2, [.ref yq1, .ref yq19, .int (nI 0), .int (-1), .int (-1), .int (nI 0), .int (nI 0), .int (nI 0), .int 0, .int 0]) := yh58
  refine G.aload_n 0 rfl rfl dX2_init_61 ?_
  refine G.iconst (v := nI 0) dX2_init_62 (by decide +kernel) ?_
  refine G.st2 (k0 := k) ((yha30 k (by omega)).trans ((yha23 k (by omega)).trans ((yha12 k (by omega)).trans (yha5 k (by omega))))) ?_
  refine G.put k (by omega) (yh60) rfl twX2 8 (by decide) tyX2 tyX2_ok nmX2 tb_191 rfl rfl (tyX2_ok 8 (by decide)) rfl rfl (Nat.le_of_ble_eq_true rfl) dX2_init_63 (fun yw61 yh62 yf63 => ?_)
  have yh64 : yw61 k = .inr (2, [.ref yq1, .ref yq19, .int (nI 0), .int (-1), .int (-1), .int (nI 0), .int (nI 0), .int (nI 0), .int (nI 0), .int 0]) := yh62
  refine G.aload_n 0 rfl rfl dX2_init_66 ?_
  refine G.iconst (v := nI 0) dX2_init_67 (by decide +kernel) ?_
  refine G.st2 (k0 := k) ((yha30 k (by omega)).trans ((yha23 k (by omega)).trans ((yha12 k (by omega)).trans (yha5 k (by omega))))) ?_
  refine G.put k (by omega) (yh64) rfl twX2 9 (by decide) tyX2 tyX2_ok nmX2 tb_192 rfl rfl (tyX2_ok 9 (by decide)) rfl rfl (Nat.le_of_ble_eq_true rfl) dX2_init_68 (fun yw65 yh66 yf67 => ?_)
  have yh68 : yw65 k = .inr (2, [.ref yq1, .ref yq19, .int (nI 0), .int (-1), .int (-1), .int (nI 0), .int (nI 0), .int (nI 0), .int (nI 0), .int (nI 0)]) := yh66
  have za1 : ya28 (k + 1) = yq1 := ((yha30 (k + 1) (by omega)).trans ((yha23 (k + 1) (by omega)).trans ((yha12 (k + 1) (by omega)).trans (yhq4))))
  have za5 : ya28 (k + 5) = yq19 := ((yha30 (k + 5) (by omega)).trans (yhq22))
  have zw0 := (yh68)
  have zpa0 : ∀ i, i < (k + 1) + 4 → ya28 i = _ := fun i hi => (yha30 i (by omega)).trans (yha23 i (by omega))
  have zpw0 : ∀ i, (k + 1) ≤ i → i < (k + 1) + 4 → yw65 i = _ := fun i h1 h2 => (yf67 i (by omega)).trans ((yf63 i (by omega)).trans ((yf59 i (by omega)).trans ((yf55 i (by omega)).trans ((yf51 i (by omega)).trans ((yf47 i (by omega)).trans ((yf43 i (by omega)).trans ((yf39 i (by omega)).trans ((yf35 i (by omega)).trans ((yhw31 i (by omega)).trans ((yhw25 i (by omega)).trans (yf17 i (by omega))))))))))))
  have zpa1 : ∀ i, i < (k + 5) + 4 → ya28 i = _ := fun i hi => rfl
  have zpw1 : ∀ i, (k + 5) ≤ i → i < (k + 5) + 4 → yw65 i = _ := fun i h1 h2 => (yf67 i (by omega)).trans ((yf63 i (by omega)).trans ((yf59 i (by omega)).trans ((yf55 i (by omega)).trans ((yf51 i (by omega)).trans ((yf47 i (by omega)).trans ((yf43 i (by omega)).trans ((yf39 i (by omega)).trans (yf35 i (by omega)))))))))
  have zA : ∀ i, i ≤ k → ya28 i = ad i := fun i hi => (yha30 i (by omega)).trans ((yha23 i (by omega)).trans ((yha12 i (by omega)).trans (yha5 i (by omega))))
  have zW : ∀ i, i < k → yw65 i = w i := fun i hi => (yf67 i (by omega)).trans ((yf63 i (by omega)).trans ((yf59 i (by omega)).trans ((yf55 i (by omega)).trans ((yf51 i (by omega)).trans ((yf47 i (by omega)).trans ((yf43 i (by omega)).trans ((yf39 i (by omega)).trans ((yf35 i (by omega)).trans ((yhw31 i (by omega)).trans ((yhw25 i (by omega)).trans ((yf17 i (by omega)).trans ((yhw13 i (by omega)).trans (yhw7 i (by omega))))))))))))))
  refine G.vret rfl rfl rfl dX2_init_71 ?_
  refine hret _ _ _ _ ⟨rfl, rfl, fun i hi => zA i (by omega), fun i hi => zW i (by omega), ?_⟩
  refine ⟨by rw [opF, za1, za5]; exact zw0, yhp14.mv (fun i h1 h2 => zpa0 i (by omega)) (fun i h1 h2 => zpw0 i (by omega) (by omega)), yhp32.mv (fun i h1 h2 => zpa1 i (by omega)) (fun i h1 h2 => zpw1 i (by omega) (by omega))⟩
end Ctor

