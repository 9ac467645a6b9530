/-! constructors -/
theorem dfX0 : ∀ j, j < 6 → defaultValue (tyX0 j) = vp_V [.null, .null, .null, .null, .null, .int 0] j := by
  intro j hj
  rcases (show j = 0 ∨ j = 1 ∨ j = 2 ∨ j = 3 ∨ j = 4 ∨ j = 5 by omega) with rfl | rfl | rfl | rfl | rfl | rfl <;> rfl
theorem dfX1 : ∀ j, j < 6 → defaultValue (tyX1 j) = vp_V [.null, .null, .int 0, .int 0, .int 0, .int 0] j := by
  intro j hj
  rcases (show j = 0 ∨ j = 1 ∨ j = 2 ∨ j = 3 ∨ j = 4 ∨ j = 5 by omega) with rfl | rfl | rfl | rfl | rfl | rfl <;> rfl
theorem dfX2 : ∀ j, j < 10 → defaultValue (tyX2 j) = vp_V [.null, .null, .int 0, .int 0, .int 0, .int 0, .int 0, .int 0, .int 0, .int 0] j := by
  intro j hj
  rcases (show j = 0 ∨ j = 1 ∨ j = 2 ∨ j = 3 ∨ j = 4 ∨ j = 5 ∨ j = 6 ∨ j = 7 ∨ j = 8 ∨ j = 9 by omega) with rfl | rfl | rfl | rfl | rfl | rfl | rfl | rfl | rfl | rfl <;> rfl
theorem dfX3 : ∀ j, j < 2 → defaultValue (tyX3 j) = vp_V [.null, .null] j := by
  intro j hj
  rcases (show j = 0 ∨ j = 1 by omega) with rfl | rfl <;> rfl
theorem dfX4 : ∀ j, j < 4 → defaultValue (tyX4 j) = vp_V [.null, .null, .null, .int 0] j := by
  intro j hj
  rcases (show j = 0 ∨ j = 1 ∨ j = 2 ∨ j = 3 by omega) with rfl | rfl | rfl | rfl <;> rfl
theorem dfX5 : ∀ j, j < 2 → defaultValue (tyX5 j) = vp_V [.null, .null] j := by
  intro j hj
  rcases (show j = 0 ∨ j = 1 by omega) with rfl | rfl <;> rfl
theorem dfX6 : ∀ j, j < 1 → defaultValue (tyX6 j) = vp_V [.null] j := by
  intro j hj
  obtain rfl : j = 0 := by omega
  rfl
theorem dfX7 : ∀ j, j < 8 → defaultValue (tyX7 j) = vp_V [.null, .null, .null, .null, .null, .int 0, .int 0, .int 0] j := by
  intro j hj
  rcases (show j = 0 ∨ j = 1 ∨ j = 2 ∨ j = 3 ∨ j = 4 ∨ j = 5 ∨ j = 6 ∨ j = 7 by omega) with rfl | rfl | rfl | rfl | rfl | rfl | rfl | rfl <;> rfl
theorem dfX8 : ∀ j, j < 30 → defaultValue (tyX8 j) = vp_V [.int 0, .null, .null, .null, .null, .null, .null, .int 0, .null, .null, .null, .null, .int 0, .null, .null, .null, .null, .null, .null, .int 0, .null, .null, .null, .null, .int 0, .int 0, .int 0, .int 0, .int 0, .int 0] j := by
  intro j hj
  rcases (show j = 0 ∨ j = 1 ∨ j = 2 ∨ j = 3 ∨ j = 4 ∨ j = 5 ∨ j = 6 ∨ j = 7 ∨ j = 8 ∨ j = 9 ∨ j = 10 ∨ j = 11 ∨ j = 12 ∨ j = 13 ∨ j = 14 ∨ j = 15 ∨ j = 16 ∨ j = 17 ∨ j = 18 ∨ j = 19 ∨ j = 20 ∨ j = 21 ∨ j = 22 ∨ j = 23 ∨ j = 24 ∨ j = 25 ∨ j = 26 ∨ j = 27 ∨ j = 28 ∨ j = 29 by omega) with rfl | rfl | rfl | rfl | rfl | rfl | rfl | rfl | rfl | rfl | rfl | rfl | rfl | rfl | rfl | rfl | rfl | rfl | rfl | rfl | rfl | rfl | rfl | rfl | rfl | rfl | rfl | rfl | rfl | rfl <;> rfl
section Ctor
variable {l : Launch} {t : TT} {ad : Nat → Nat} {w : Nat → va_E} {k : Nat}
set_option maxHeartbeats 1000000 in
theorem c_X4_init {cap : Nat} (h0 : w k = .inr (4, [.null, .null, .null, .int 0])) (hcap : cap < 1000) :
    KA l t yX4_init cX4_init 3 none (rC 1 3 (3 * cap)) (k + 1) ad w [.ref (ad k), .int (nI cap)] 3 (3 * cap) (fun res N' ad' w' => res = none ∧ N' = k + 4 ∧ (∀ i, i < k + 1 → ad' i = ad i) ∧ (∀ i, i < k → w' i = w i) ∧ isRows t ad' w' k cap []) := by
  refine KA.ofI (own := RX4) (lv := [(0, .ref (ad k)), (1, .int (nI cap))]) (by decide +kernel) rfl rfl (Nat.le_of_ble_eq_true rfl) rfl (fun P post hin hret => ?_)
  refine G.aload_n 0 rfl rfl dX4_init_0 ?_
  refine G.objInit tb_129 (Nat.le_of_ble_eq_true rfl) (Nat.le_of_ble_eq_true rfl) dX4_init_1 ?_
  refine G.aload_n 0 rfl rfl dX4_init_4 ?_
  refine G.iconst (v := nI 0) dX4_init_5 (by decide +kernel) ?_
  refine G.st2 (k0 := k) (rfl) ?_
  refine G.put k (by omega) (h0) rfl twX4 3 (by decide) tyX4 tyX4_ok nmX4 tb_136 rfl rfl (tyX4_ok 3 (by decide)) rfl rfl (Nat.le_of_ble_eq_true rfl) dX4_init_6 (fun yw1 yh2 yf3 => ?_)
  refine G.iload_n 1 rfl rfl dX4_init_9 ?_
  refine G.iconst (v := nI 0) dX4_init_10 (by decide +kernel) ?_
  refine G.callS (n := 2) (c_J9_maxI (nI cap) (nI 0)) rfl tb_130 tb_131 tb_40 tb_132 (by decide +kernel) rfl ⟨(Nat.le_of_ble_eq_true rfl), (Nat.le_of_ble_eq_true rfl)⟩ ⟨rfl, rfl⟩ (Nat.le_of_ble_eq_true rfl) ⟨Nat.zero_le _, Nat.zero_le _⟩ dX4_init_11 (fun yr0 yw0 hp => ?_)
  obtain ⟨rfl, rfl⟩ := hp
  rw [if_neg (show ¬ nI cap < nI 0 from nI_pos (by omega))]
  refine G.istore_n [(2, .int (nI cap)), (0, .ref (ad k)), (1, .int (nI cap))] dX4_init_14 rfl (by decide) rfl ?_
  refine G.aload_n 1 rfl rfl dX4_init_15 ?_
  refine G.iload_n 0 rfl rfl dX4_init_16 ?_
  refine G.newa (atype := .int) (ty := .int) (a0 := (cap, .inl (fun _ => 0))) 0 cap rfl tb_77 rfl (fun _ => rfl) rfl (by omega) (by show cap * 4 ≤ _; omega) (Nat.le_of_ble_eq_true rfl) (by show 0 + cap ≤ 3 * cap; omega) dX4_init_17 (fun yq4 ya5 yw6 yhq7 yha8 yhn9 yhw10 => ?_)
  refine G.st2 (k0 := k) (yha8 k (by omega)) ?_
  refine G.putF k (by omega) ((yhw10 k (by omega)).trans (yh2)) rfl twX4 0 (by decide) tyX4 tyX4_ok nmX4 tb_133 rfl rfl hin rfl (tyX4_ok 0 (by decide)) rfl rfl (Nat.le_of_ble_eq_true rfl) dX4_init_19 (fun yw11 yh12 yf13 => ?_)
  refine G.aload_n 1 rfl rfl dX4_init_22 ?_
  refine G.iload_n 0 rfl rfl dX4_init_23 ?_
  refine G.newa (atype := .int) (ty := .int) (a0 := (cap, .inl (fun _ => 0))) 0 cap rfl tb_77 rfl (fun _ => rfl) rfl (by omega) (by show cap * 4 ≤ _; omega) (Nat.le_of_ble_eq_true rfl) (by show 0 + cap + cap ≤ 3 * cap; omega) dX4_init_24 (fun yq14 ya15 yw16 yhq17 yha18 yhn19 yhw20 => ?_)
  refine G.st2 (k0 := k) ((yha18 k (by omega)).trans (yha8 k (by omega))) ?_
  refine G.putF k (by omega) ((yhw20 k (by omega)).trans (yh12)) rfl twX4 1 (by decide) tyX4 tyX4_ok nmX4 tb_134 rfl rfl hin rfl (tyX4_ok 1 (by decide)) rfl rfl (Nat.le_of_ble_eq_true rfl) dX4_init_26 (fun yw21 yh22 yf23 => ?_)
  refine G.aload_n 1 rfl rfl dX4_init_29 ?_
  refine G.iload_n 0 rfl rfl dX4_init_30 ?_
  refine G.newa (atype := .long) (ty := .long) (a0 := (cap, .inr (.inl (fun _ => 0)))) 1 cap rfl tb_110 rfl (fun _ => rfl) rfl (by omega) (by show cap * 8 ≤ _; omega) (Nat.le_of_ble_eq_true rfl) (by show 0 + cap + cap + cap ≤ 3 * cap; omega) dX4_init_31 (fun yq24 ya25 yw26 yhq27 yha28 yhn29 yhw30 => ?_)
  refine G.st2 (k0 := k) ((yha28 k (by omega)).trans ((yha18 k (by omega)).trans (yha8 k (by omega)))) ?_
  refine G.putF k (by omega) ((yhw30 k (by omega)).trans (yh22)) rfl twX4 2 (by decide) tyX4 tyX4_ok nmX4 tb_135 rfl rfl hin rfl (tyX4_ok 2 (by decide)) rfl rfl (Nat.le_of_ble_eq_true rfl) dX4_init_33 (fun yw31 yh32 yf33 => ?_)
  have za1 : ya25 (k + 1) = yq4 := ((yha28 (k + 1) (by omega)).trans ((yha18 (k + 1) (by omega)).trans (yhq7)))
  have za2 : ya25 (k + 2) = yq14 := ((yha28 (k + 2) (by omega)).trans (yhq17))
  have za3 : ya25 (k + 3) = yq24 := (yhq27)
  have zw0 := (yh32)
  have zw1 := ((yf33 (k + 1) (by omega)).trans ((yhw30 (k + 1) (by omega)).trans ((yf23 (k + 1) (by omega)).trans ((yhw20 (k + 1) (by omega)).trans ((yf13 (k + 1) (by omega)).trans (yhn9))))))
  have zw2 := ((yf33 (k + 2) (by omega)).trans ((yhw30 (k + 2) (by omega)).trans ((yf23 (k + 2) (by omega)).trans (yhn19))))
  have zw3 := ((yf33 (k + 3) (by omega)).trans (yhn29))
  have zA : ∀ i, i ≤ k → ya25 i = ad i := fun i hi => (yha28 i (by omega)).trans ((yha18 i (by omega)).trans (yha8 i (by omega)))
  have zW : ∀ i, i < k → yw31 i = w i := fun i hi => (yf33 i (by omega)).trans ((yhw30 i (by omega)).trans ((yf23 i (by omega)).trans ((yhw20 i (by omega)).trans ((yf13 i (by omega)).trans ((yhw10 i (by omega)).trans (yf3 i (by omega)))))))
  refine G.vret rfl rfl (by show 0 + cap + cap + cap = 3 * cap; omega) dX4_init_36 ?_
  refine hret _ _ _ _ ⟨rfl, rfl, fun i hi => zA i (by omega), fun i hi => zW i (by omega), ?_⟩
  exact ⟨fun _ => 0, fun _ => 0, fun _ => 0, 0, by rw [za1, za2, za3]; exact zw0, zw1, zw2, zw3, Nat.zero_le _, rfl⟩
set_option maxHeartbeats 1000000 in
theorem c_X0_init (h0 : w k = .inr (0, [.null, .null, .null, .null, .null, .int 0])) :
    KA l t yX0_init cX0_init 1 none (rC 1 5 300) (k + 1) ad w [.ref (ad k)] 5 300 (fun res N' ad' w' => res = none ∧ N' = k + 6 ∧ (∀ i, i < k + 1 → ad' i = ad i) ∧ (∀ i, i < k → w' i = w i) ∧ isArr t ad' w' k []) := by
  refine KA.ofI (own := RX0) (lv := [(0, .ref (ad k))]) (by decide +kernel) rfl rfl (Nat.le_of_ble_eq_true rfl) rfl (fun P post hin hret => ?_)
  refine G.aload_n 0 rfl rfl dX0_init_0 ?_
  refine G.objInit tb_57 (Nat.le_of_ble_eq_true rfl) (Nat.le_of_ble_eq_true rfl) dX0_init_1 ?_
  refine G.aload_n 0 rfl rfl dX0_init_4 ?_
  refine G.bipush (v := nI 60) dX0_init_5 (by decide +kernel) ?_
  refine G.newa (atype := .int) (ty := .int) (a0 := (60, .inl (fun _ => 0))) 0 60 rfl tb_77 rfl (fun _ => rfl) rfl (Nat.le_of_ble_eq_true rfl) (Nat.le_of_ble_eq_true rfl) (Nat.le_of_ble_eq_true rfl) (Nat.le_of_ble_eq_true rfl) dX0_init_7 (fun yq1 ya2 yw3 yhq4 yha5 yhn6 yhw7 => ?_)
  refine G.st2 (k0 := k) (yha5 k (by omega)) ?_
  refine G.putF k (by omega) ((yhw7 k (by omega)).trans (h0)) rfl twX0 0 (by decide) tyX0 tyX0_ok nmX0 tb_58 rfl rfl hin rfl (tyX0_ok 0 (by decide)) rfl rfl (Nat.le_of_ble_eq_true rfl) dX0_init_9 (fun yw8 yh9 yf10 => ?_)
  refine G.aload_n 0 rfl rfl dX0_init_12 ?_
  refine G.bipush (v := nI 60) dX0_init_13 (by decide +kernel) ?_
  refine G.newa (atype := .int) (ty := .int) (a0 := (60, .inl (fun _ => 0))) 0 60 rfl tb_77 rfl (fun _ => rfl) rfl (Nat.le_of_ble_eq_true rfl) (Nat.le_of_ble_eq_true rfl) (Nat.le_of_ble_eq_true rfl) (Nat.le_of_ble_eq_true rfl) dX0_init_15 (fun yq11 ya12 yw13 yhq14 yha15 yhn16 yhw17 => ?_)
  refine G.st2 (k0 := k) ((yha15 k (by omega)).trans (yha5 k (by omega))) ?_
  refine G.putF k (by omega) ((yhw17 k (by omega)).trans (yh9)) rfl twX0 1 (by decide) tyX0 tyX0_ok nmX0 tb_59 rfl rfl hin rfl (tyX0_ok 1 (by decide)) rfl rfl (Nat.le_of_ble_eq_true rfl) dX0_init_17 (fun yw18 yh19 yf20 => ?_)
  refine G.aload_n 0 rfl rfl dX0_init_20 ?_
  refine G.bipush (v := nI 60) dX0_init_21 (by decide +kernel) ?_
  refine G.newa (atype := .int) (ty := .int) (a0 := (60, .inl (fun _ => 0))) 0 60 rfl tb_77 rfl (fun _ => rfl) rfl (Nat.le_of_ble_eq_true rfl) (Nat.le_of_ble_eq_true rfl) (Nat.le_of_ble_eq_true rfl) (Nat.le_of_ble_eq_true rfl) dX0_init_23 (fun yq21 ya22 yw23 yhq24 yha25 yhn26 yhw27 => ?_)
  refine G.st2 (k0 := k) ((yha25 k (by omega)).trans ((yha15 k (by omega)).trans (yha5 k (by omega)))) ?_
  refine G.putF k (by omega) ((yhw27 k (by omega)).trans (yh19)) rfl twX0 2 (by decide) tyX0 tyX0_ok nmX0 tb_60 rfl rfl hin rfl (tyX0_ok 2 (by decide)) rfl rfl (Nat.le_of_ble_eq_true rfl) dX0_init_25 (fun yw28 yh29 yf30 => ?_)
  refine G.aload_n 0 rfl rfl dX0_init_28 ?_
  refine G.bipush (v := nI 60) dX0_init_29 (by decide +kernel) ?_
  refine G.newa (atype := .int) (ty := .int) (a0 := (60, .inl (fun _ => 0))) 0 60 rfl tb_77 rfl (fun _ => rfl) rfl (Nat.le_of_ble_eq_true rfl) (Nat.le_of_ble_eq_true rfl) (Nat.le_of_ble_eq_true rfl) (Nat.le_of_ble_eq_true rfl) dX0_init_31 (fun yq31 ya32 yw33 yhq34 yha35 yhn36 yhw37 => ?_)
  refine G.st2 (k0 := k) ((yha35 k (by omega)).trans ((yha25 k (by omega)).trans ((yha15 k (by omega)).trans (yha5 k (by omega))))) ?_
  refine G.putF k (by omega) ((yhw37 k (by omega)).trans (yh29)) rfl twX0 3 (by decide) tyX0 tyX0_ok nmX0 tb_61 rfl rfl hin rfl (tyX0_ok 3 (by decide)) rfl rfl (Nat.le_of_ble_eq_true rfl) dX0_init_33 (fun yw38 yh39 yf40 => ?_)
  refine G.aload_n 0 rfl rfl dX0_init_36 ?_
  refine G.bipush (v := nI 60) dX0_init_37 (by decide +kernel) ?_
  refine G.newa (atype := .boolean) (ty := .boolean) (a0 := (60, .inl (fun _ => 0))) 2 60 rfl tb_78 rfl (fun _ => rfl) rfl (Nat.le_of_ble_eq_true rfl) (Nat.le_of_ble_eq_true rfl) (Nat.le_of_ble_eq_true rfl) (Nat.le_of_ble_eq_true rfl) dX0_init_39 (fun yq41 ya42 yw43 yhq44 yha45 yhn46 yhw47 => ?_)
  refine G.st2 (k0 := k) ((yha45 k (by omega)).trans ((yha35 k (by omega)).trans ((yha25 k (by omega)).trans ((yha15 k (by omega)).trans (yha5 k (by omega)))))) ?_
  refine G.putF k (by omega) ((yhw47 k (by omega)).trans (yh39)) rfl twX0 4 (by decide) tyX0 tyX0_ok nmX0 tb_62 rfl rfl hin rfl (tyX0_ok 4 (by decide)) rfl rfl (Nat.le_of_ble_eq_true rfl) dX0_init_41 (fun yw48 yh49 yf50 => ?_)
  refine G.aload_n 0 rfl rfl dX0_init_44 ?_
  refine G.iconst (v := nI 0) dX0_init_45 (by decide +kernel) ?_
  refine G.st2 (k0 := k) ((yha45 k (by omega)).trans ((yha35 k (by omega)).trans ((yha25 k (by omega)).trans ((yha15 k (by omega)).trans (yha5 k (by omega)))))) ?_
  refine G.put k (by omega) (yh49) rfl twX0 5 (by decide) tyX0 tyX0_ok nmX0 tb_63 rfl rfl (tyX0_ok 5 (by decide)) rfl rfl (Nat.le_of_ble_eq_true rfl) dX0_init_46 (fun yw51 yh52 yf53 => ?_)
  have za1 : ya42 (k + 1) = yq1 := ((yha45 (k + 1) (by omega)).trans ((yha35 (k + 1) (by omega)).trans ((yha25 (k + 1) (by omega)).trans ((yha15 (k + 1) (by omega)).trans (yhq4)))))
  have za2 : ya42 (k + 2) = yq11 := ((yha45 (k + 2) (by omega)).trans ((yha35 (k + 2) (by omega)).trans ((yha25 (k + 2) (by omega)).trans (yhq14))))
  have za3 : ya42 (k + 3) = yq21 := ((yha45 (k + 3) (by omega)).trans ((yha35 (k + 3) (by omega)).trans (yhq24)))
  have za4 : ya42 (k + 4) = yq31 := ((yha45 (k + 4) (by omega)).trans (yhq34))
  have za5 : ya42 (k + 5) = yq41 := (yhq44)
  have zw0 := (yh52)
  have zw1 := ((yf53 (k + 1) (by omega)).trans ((yf50 (k + 1) (by omega)).trans ((yhw47 (k + 1) (by omega)).trans ((yf40 (k + 1) (by omega)).trans ((yhw37 (k + 1) (by omega)).trans ((yf30 (k + 1) (by omega)).trans ((yhw27 (k + 1) (by omega)).trans ((yf20 (k + 1) (by omega)).trans ((yhw17 (k + 1) (by omega)).trans ((yf10 (k + 1) (by omega)).trans (yhn6)))))))))))
  have zw2 := ((yf53 (k + 2) (by omega)).trans ((yf50 (k + 2) (by omega)).trans ((yhw47 (k + 2) (by omega)).trans ((yf40 (k + 2) (by omega)).trans ((yhw37 (k + 2) (by omega)).trans ((yf30 (k + 2) (by omega)).trans ((yhw27 (k + 2) (by omega)).trans ((yf20 (k + 2) (by omega)).trans (yhn16)))))))))
  have zw3 := ((yf53 (k + 3) (by omega)).trans ((yf50 (k + 3) (by omega)).trans ((yhw47 (k + 3) (by omega)).trans ((yf40 (k + 3) (by omega)).trans ((yhw37 (k + 3) (by omega)).trans ((yf30 (k + 3) (by omega)).trans (yhn26)))))))
  have zw4 := ((yf53 (k + 4) (by omega)).trans ((yf50 (k + 4) (by omega)).trans ((yhw47 (k + 4) (by omega)).trans ((yf40 (k + 4) (by omega)).trans (yhn36)))))
  have zw5 := ((yf53 (k + 5) (by omega)).trans ((yf50 (k + 5) (by omega)).trans (yhn46)))
  have zA : ∀ i, i ≤ k → ya42 i = ad i := fun i hi => (yha45 i (by omega)).trans ((yha35 i (by omega)).trans ((yha25 i (by omega)).trans ((yha15 i (by omega)).trans (yha5 i (by omega)))))
  have zW : ∀ i, i < k → yw51 i = w i := fun i hi => (yf53 i (by omega)).trans ((yf50 i (by omega)).trans ((yhw47 i (by omega)).trans ((yf40 i (by omega)).trans ((yhw37 i (by omega)).trans ((yf30 i (by omega)).trans ((yhw27 i (by omega)).trans ((yf20 i (by omega)).trans ((yhw17 i (by omega)).trans ((yf10 i (by omega)).trans (yhw7 i (by omega)))))))))))
  refine G.vret rfl rfl rfl dX0_init_49 ?_
  refine hret _ _ _ _ ⟨rfl, rfl, fun i hi => zA i (by omega), fun i hi => zW i (by omega), ?_⟩
  exact ⟨fun _ => 0, fun _ => 0, fun _ => 0, fun _ => 0, fun _ => 0, 0, by rw [za1, za2, za3, za4, za5]; exact zw0, zw1, zw2, zw3, zw4, zw5, Nat.zero_le _, rfl⟩
set_option maxHeartbeats 1000000 in
theorem c_X6_init (h0 : w k = .inr (6, [.null])) :
    KA l t yX6_init cX6_init 1 none (rC 1 1 8) (k + 1) ad w [.ref (ad k)] 1 8 (fun res N' ad' w' => res = none ∧ N' = k + 2 ∧ (∀ i, i < k + 1 → ad' i = ad i) ∧ (∀ i, i < k → w' i = w i) ∧ isTab t ad' w' k (fun _ => 0)) := by
  refine KA.ofI (own := RX6) (lv := [(0, .ref (ad k))]) (by decide +kernel) rfl rfl (Nat.le_of_ble_eq_true rfl) rfl (fun P post hin hret => ?_)
  refine G.aload_n 0 rfl rfl dX6_init_0 ?_
  refine G.objInit tb_84 (Nat.le_of_ble_eq_true rfl) (Nat.le_of_ble_eq_true rfl) dX6_init_1 ?_
  refine G.aload_n 0 rfl rfl dX6_init_4 ?_
  refine G.bipush (v := nI 8) dX6_init_5 (by decide +kernel) ?_
  refine G.newa (atype := .int) (ty := .int) (a0 := (8, .inl (fun _ => 0))) 0 8 rfl tb_77 rfl (fun _ => rfl) rfl (Nat.le_of_ble_eq_true rfl) (Nat.le_of_ble_eq_true rfl) (Nat.le_of_ble_eq_true rfl) (Nat.le_of_ble_eq_true rfl) dX6_init_7 (fun yq1 ya2 yw3 yhq4 yha5 yhn6 yhw7 => ?_)
  refine G.st2 (k0 := k) (yha5 k (by omega)) ?_
  refine G.putF k (by omega) ((yhw7 k (by omega)).trans (h0)) rfl twX6 0 (by decide) tyX6 tyX6_ok nmX6 tb_85 rfl rfl hin rfl (tyX6_ok 0 (by decide)) rfl rfl (Nat.le_of_ble_eq_true rfl) dX6_init_9 (fun yw8 yh9 yf10 => ?_)
  have za1 : ya2 (k + 1) = yq1 := (yhq4)
  have zw0 := (yh9)
  have zw1 := ((yf10 (k + 1) (by omega)).trans (yhn6))
  have zA : ∀ i, i ≤ k → ya2 i = ad i := fun i hi => yha5 i (by omega)
  have zW : ∀ i, i < k → yw8 i = w i := fun i hi => (yf10 i (by omega)).trans (yhw7 i (by omega))
  refine G.vret rfl rfl rfl dX6_init_12 ?_
  refine hret _ _ _ _ ⟨rfl, rfl, fun i hi => zA i (by omega), fun i hi => zW i (by omega), ?_⟩
  exact ⟨fun _ => 0, by rw [za1]; exact zw0, zw1, fun _ _ => rfl⟩
set_option maxHeartbeats 1000000 in
theorem c_X5_init (h0 : w k = .inr (5, [.null, .null])) :
    KA l t yX5_init cX5_init 1 none (rC 1 2 12) (k + 1) ad w [.ref (ad k)] 2 12 (fun res N' ad' w' => res = none ∧ N' = k + 3 ∧ (∀ i, i < k + 1 → ad' i = ad i) ∧ (∀ i, i < k → w' i = w i) ∧ isSpan t ad' w' k (fun _ => 0) (fun _ => 0)) := by
  refine KA.ofI (own := RX5) (lv := [(0, .ref (ad k))]) (by decide +kernel) rfl rfl (Nat.le_of_ble_eq_true rfl) rfl (fun P post hin hret => ?_)
  refine G.aload_n 0 rfl rfl dX5_init_0 ?_
  refine G.objInit tb_102 (Nat.le_of_ble_eq_true rfl) (Nat.le_of_ble_eq_true rfl) dX5_init_1 ?_
  refine G.aload_n 0 rfl rfl dX5_init_4 ?_
  refine G.bipush (v := nI 6) dX5_init_5 (by decide +kernel) ?_
  refine G.newa (atype := .int) (ty := .int) (a0 := (6, .inl (fun _ => 0))) 0 6 rfl tb_77 rfl (fun _ => rfl) rfl (Nat.le_of_ble_eq_true rfl) (Nat.le_of_ble_eq_true rfl) (Nat.le_of_ble_eq_true rfl) (Nat.le_of_ble_eq_true rfl) dX5_init_7 (fun yq1 ya2 yw3 yhq4 yha5 yhn6 yhw7 => ?_)
  refine G.st2 (k0 := k) (yha5 k (by omega)) ?_
  refine G.putF k (by omega) ((yhw7 k (by omega)).trans (h0)) rfl twX5 0 (by decide) tyX5 tyX5_ok nmX5 tb_103 rfl rfl hin rfl (tyX5_ok 0 (by decide)) rfl rfl (Nat.le_of_ble_eq_true rfl) dX5_init_9 (fun yw8 yh9 yf10 => ?_)
  refine G.aload_n 0 rfl rfl dX5_init_12 ?_
  refine G.bipush (v := nI 6) dX5_init_13 (by decide +kernel) ?_
  refine G.newa (atype := .long) (ty := .long) (a0 := (6, .inr (.inl (fun _ => 0)))) 1 6 rfl tb_110 rfl (fun _ => rfl) rfl (Nat.le_of_ble_eq_true rfl) (Nat.le_of_ble_eq_true rfl) (Nat.le_of_ble_eq_true rfl) (Nat.le_of_ble_eq_true rfl) dX5_init_15 (fun yq11 ya12 yw13 yhq14 yha15 yhn16 yhw17 => ?_)
  refine G.st2 (k0 := k) ((yha15 k (by omega)).trans (yha5 k (by omega))) ?_
  refine G.putF k (by omega) ((yhw17 k (by omega)).trans (yh9)) rfl twX5 1 (by decide) tyX5 tyX5_ok nmX5 tb_104 rfl rfl hin rfl (tyX5_ok 1 (by decide)) rfl rfl (Nat.le_of_ble_eq_true rfl) dX5_init_17 (fun yw18 yh19 yf20 => ?_)
  have za1 : ya12 (k + 1) = yq1 := ((yha15 (k + 1) (by omega)).trans (yhq4))
  have za2 : ya12 (k + 2) = yq11 := (yhq14)
  have zw0 := (yh19)
  have zw1 := ((yf20 (k + 1) (by omega)).trans ((yhw17 (k + 1) (by omega)).trans ((yf10 (k + 1) (by omega)).trans (yhn6))))
  have zw2 := ((yf20 (k + 2) (by omega)).trans (yhn16))
  have zA : ∀ i, i ≤ k → ya12 i = ad i := fun i hi => (yha15 i (by omega)).trans (yha5 i (by omega))
  have zW : ∀ i, i < k → yw18 i = w i := fun i hi => (yf20 i (by omega)).trans ((yhw17 i (by omega)).trans ((yf10 i (by omega)).trans (yhw7 i (by omega))))
  refine G.vret rfl rfl rfl dX5_init_20 ?_
  refine hret _ _ _ _ ⟨rfl, rfl, fun i hi => zA i (by omega), fun i hi => zW i (by omega), ?_⟩
  exact ⟨fun _ => 0, fun _ => 0, by rw [za1, za2]; exact zw0, zw1, zw2, fun _ _ => ⟨nI_0.symm, rfl⟩⟩
set_option maxHeartbeats 1000000 in
theorem c_X3_init (h0 : w k = .inr (3, [.null, .null])) :
    KA l t yX3_init cX3_init 1 none (rC 2 4 20) (k + 1) ad w [.ref (ad k)] 4 20 (fun res N' ad' w' => res = none ∧ N' = k + 5 ∧ (∀ i, i < k + 1 → ad' i = ad i) ∧ (∀ i, i < k → w' i = w i) ∧ w' k = .inr (3, [.ref (ad' (k + 1)), .ref (ad' (k + 4))]) ∧ isSpan t ad' w' (k + 1) (fun _ => 0) (fun _ => 0) ∧ w' (k + 4) = .inl (t.2.1, 6, .inl (fun _ => 0))) := by
  refine KA.ofI (own := RX3) (lv := [(0, .ref (ad k))]) (by decide +kernel) rfl rfl (Nat.le_of_ble_eq_true rfl) rfl (fun P post hin hret => ?_)
  refine G.aload_n 0 rfl rfl dX3_init_0 ?_
  refine G.objInit tb_96 (Nat.le_of_ble_eq_true rfl) (Nat.le_of_ble_eq_true rfl) dX3_init_1 ?_
  refine G.aload_n 0 rfl rfl dX3_init_4 ?_
  refine G.newo twX5 tyX5 tyX5_ok tb_97 tb_98 tb_37 (ci := 5) rfl (fs := [.null, .null]) dfX5 (Nat.le_of_ble_eq_true rfl) (Nat.le_of_ble_eq_true rfl) dX3_init_5 (fun yq1 ya2 yw3 yhq4 yha5 yhn6 yhw7 => ?_)
  refine G.dup rfl dX3_init_8 ?_
  refine G.st1 (k0 := (k + 1)) (yhq4) ?_
  refine G.callINA (n := 0) (k + 1) (c_X5_init (k := (k + 1)) (yhn6)) rfl _ (List.mem_of_getElem? (i := 3) rfl) rfl tb_100 rfl tb_37 tb_101 (by decide +kernel) rfl ⟨rfl, rfl, (Nat.le_of_ble_eq_true rfl), (Nat.le_of_ble_eq_true rfl)⟩ (Nat.le_of_ble_eq_true rfl) ⟨(Nat.le_of_ble_eq_true rfl), (Nat.le_of_ble_eq_true rfl)⟩ dX3_init_9 (fun yr8 yN9 ya10 yw11 hp => ?_)
  obtain ⟨rfl, rfl, yha12, yhw13, yhp14⟩ := hp
  refine G.st2 (k0 := k) ((yha12 k (by omega)).trans (yha5 k (by omega))) ?_
  refine G.putF k (by omega) ((yhw13 k (by omega)).trans ((yhw7 k (by omega)).trans (h0))) rfl twX3 0 (by decide) tyX3 tyX3_ok nmX3 tb_111 rfl rfl hin rfl (tyX3_ok 0 (by decide)) rfl rfl (Nat.le_of_ble_eq_true rfl) dX3_init_12 (fun yw15 yh16 yf17 => ?_)
  refine G.aload_n 0 rfl rfl dX3_init_15 ?_
  refine G.bipush (v := nI 6) dX3_init_16 (by decide +kernel) ?_
  refine G.newa (atype := .int) (ty := .int) (a0 := (6, .inl (fun _ => 0))) 0 6 rfl tb_77 rfl (fun _ => rfl) rfl (Nat.le_of_ble_eq_true rfl) (Nat.le_of_ble_eq_true rfl) (Nat.le_of_ble_eq_true rfl) (Nat.le_of_ble_eq_true rfl) dX3_init_18 (fun yq18 ya19 yw20 yhq21 yha22 yhn23 yhw24 => ?_)
  refine G.st2 (k0 := k) ((yha22 k (by omega)).trans ((yha12 k (by omega)).trans (yha5 k (by omega)))) ?_
  refine G.putF k (by omega) ((yhw24 k (by omega)).trans (yh16)) rfl twX3 1 (by decide) tyX3 tyX3_ok nmX3 tb_112 rfl rfl hin rfl (tyX3_ok 1 (by decide)) rfl rfl (Nat.le_of_ble_eq_true rfl) dX3_init_20 (fun yw25 yh26 yf27 => ?_)
  have za1 : ya19 (k + 1) = yq1 := ((yha22 (k + 1) (by omega)).trans ((yha12 (k + 1) (by omega)).trans (yhq4)))
  have za4 : ya19 (k + 4) = yq18 := (yhq21)
  have zw0 := (yh26)
  have zw4 := ((yf27 (k + 4) (by omega)).trans (yhn23))
  have zpa0 : ∀ i, i < (k + 1) + 3 → ya19 i = _ := fun i hi => yha22 i (by omega)
  have zpw0 : ∀ i, (k + 1) ≤ i → i < (k + 1) + 3 → yw25 i = _ := fun i h1 h2 => (yf27 i (by omega)).trans ((yhw24 i (by omega)).trans (yf17 i (by omega)))
  have zA : ∀ i, i ≤ k → ya19 i = ad i := fun i hi => (yha22 i (by omega)).trans ((yha12 i (by omega)).trans (yha5 i (by omega)))
  have zW : ∀ i, i < k → yw25 i = w i := fun i hi => (yf27 i (by omega)).trans ((yhw24 i (by omega)).trans ((yf17 i (by omega)).trans ((yhw13 i (by omega)).trans (yhw7 i (by omega)))))
  refine G.vret rfl rfl rfl dX3_init_23 ?_
  refine hret _ _ _ _ ⟨rfl, rfl, fun i hi => zA i (by omega), fun i hi => zW i (by omega), ?_⟩
  exact ⟨by rw [za1, za4]; exact zw0, yhp14.mv (fun i h1 h2 => zpa0 i (by omega)) (fun i h1 h2 => zpw0 i (by omega) (by omega)), zw4⟩
set_option maxHeartbeats 1000000 in
theorem c_X1_init (h0 : w k = .inr (1, [.null, .null, .int 0, .int 0, .int 0, .int 0])) :
    KA l t yX1_init cX1_init 1 none (rC 2 8 728) (k + 1) ad w [.ref (ad k)] 8 728 (fun res N' ad' w' => res = none ∧ N' = k + 9 ∧ (∀ i, i < k + 1 → ad' i = ad i) ∧ (∀ i, i < k → w' i = w i) ∧ isCmp t ad' w' k none ∧ isCR t ad' w' k) := by
  refine KA.ofI (own := RX1) (lv := [(0, .ref (ad k))]) (by decide +kernel) rfl rfl (Nat.le_of_ble_eq_true rfl) rfl (fun P post hin hret => ?_)
  refine G.aload_n 0 rfl rfl dX1_init_0 ?_
  refine G.objInit tb_123 (Nat.le_of_ble_eq_true rfl) (Nat.le_of_ble_eq_true rfl) dX1_init_1 ?_
  refine G.aload_n 0 rfl rfl dX1_init_4 ?_
  refine G.newo twX4 tyX4 tyX4_ok tb_124 tb_125 tb_39 (ci := 4) rfl (fs := [.null, .null, .null, .int 0]) dfX4 (Nat.le_of_ble_eq_true rfl) (Nat.le_of_ble_eq_true rfl) dX1_init_5 (fun yq1 ya2 yw3 yhq4 yha5 yhn6 yhw7 => ?_)
  refine G.dup rfl dX1_init_8 ?_
  refine G.sipush (v := nI 200) dX1_init_9 (by decide +kernel) ?_
  refine G.st2 (k0 := (k + 1)) (yhq4) ?_
  refine G.callIA (n := 1) (k + 1) (c_X4_init (k := (k + 1)) (cap := 200) (yhn6) (by omega)) rfl tb_126 tb_127 rfl tb_39 tb_128 (by decide +kernel) rfl ⟨rfl, rfl, (Nat.le_of_ble_eq_true rfl), (Nat.le_of_ble_eq_true rfl)⟩ (Nat.le_of_ble_eq_true rfl) ⟨(Nat.le_of_ble_eq_true rfl), (Nat.le_of_ble_eq_true rfl)⟩ dX1_init_12 (fun yr8 yN9 ya10 yw11 hp => ?_)
  obtain ⟨rfl, rfl, yha12, yhw13, yhp14⟩ := hp
  refine G.st2 (k0 := k) ((yha12 k (by omega)).trans (yha5 k (by omega))) ?_
  refine G.putF k (by omega) ((yhw13 k (by omega)).trans ((yhw7 k (by omega)).trans (h0))) rfl twX1 0 (by decide) tyX1 tyX1_ok nmX1 tb_146 rfl rfl hin rfl (tyX1_ok 0 (by decide)) rfl rfl (Nat.le_of_ble_eq_true rfl) dX1_init_15 (fun yw15 yh16 yf17 => ?_)
  refine G.aload_n 0 rfl rfl dX1_init_18 ?_
  refine G.newo twX4 tyX4 tyX4_ok tb_124 tb_125 tb_39 (ci := 4) rfl (fs := [.null, .null, .null, .int 0]) dfX4 (Nat.le_of_ble_eq_true rfl) (Nat.le_of_ble_eq_true rfl) dX1_init_19 (fun yq18 ya19 yw20 yhq21 yha22 yhn23 yhw24 => ?_)
  refine G.dup rfl dX1_init_22 ?_
  refine G.bipush (v := nI 40) dX1_init_23 (by decide +kernel) ?_
  refine G.st2 (k0 := (k + 5)) (yhq21) ?_
  refine G.callIA (n := 1) (k + 5) (c_X4_init (k := (k + 5)) (cap := 40) (yhn23) (by omega)) rfl tb_126 tb_127 rfl tb_39 tb_128 (by decide +kernel) rfl ⟨rfl, rfl, (Nat.le_of_ble_eq_true rfl), (Nat.le_of_ble_eq_true rfl)⟩ (Nat.le_of_ble_eq_true rfl) ⟨(Nat.le_of_ble_eq_true rfl), (Nat.le_of_ble_eq_true rfl)⟩ dX1_init_25 (fun yr25 yN26 ya27 yw28 hp => ?_)
  obtain ⟨rfl, rfl, yha29, yhw30, yhp31⟩ := hp
  refine G.st2 (k0 := k) ((yha29 k (by omega)).trans ((yha22 k (by omega)).trans ((yha12 k (by omega)).trans (yha5 k (by omega))))) ?_
  refine G.putF k (by omega) ((yhw30 k (by omega)).trans ((yhw24 k (by omega)).trans (yh16))) rfl twX1 1 (by decide) tyX1 tyX1_ok nmX1 tb_147 rfl rfl hin rfl (tyX1_ok 1 (by decide)) rfl rfl (Nat.le_of_ble_eq_true rfl) dX1_init_28 (fun yw32 yh33 yf34 => ?_)
  refine G.aload_n 0 rfl rfl dX1_init_31 ?_
  refine G.iconst (v := nI 0) dX1_init_32 (by decide +kernel) ?_
  refine G.st2 (k0 := k) ((yha29 k (by omega)).trans ((yha22 k (by omega)).trans ((yha12 k (by omega)).trans (yha5 k (by omega))))) ?_
  refine G.put k (by omega) (yh33) rfl twX1 2 (by decide) tyX1 tyX1_ok nmX1 tb_148 rfl rfl (tyX1_ok 2 (by decide)) (nb_n (Or.inl rfl)) (nb_f (Or.inl rfl)) (Nat.le_of_ble_eq_true rfl) dX1_init_33 (fun yw35 yh36 yf37 => ?_)
  refine G.aload_n 0 rfl rfl dX1_init_36 ?_
  refine G.iconst (v := nI 0) dX1_init_37 (by decide +kernel) ?_
  refine G.st2 (k0 := k) ((yha29 k (by omega)).trans ((yha22 k (by omega)).trans ((yha12 k (by omega)).trans (yha5 k (by omega))))) ?_
  refine G.put k (by omega) (yh36) rfl twX1 3 (by decide) tyX1 tyX1_ok nmX1 tb_149 rfl rfl (tyX1_ok 3 (by decide)) rfl rfl (Nat.le_of_ble_eq_true rfl) dX1_init_38 (fun yw38 yh39 yf40 => ?_)
  refine G.aload_n 0 rfl rfl dX1_init_41 ?_
  refine G.iconst (v := nI 0) dX1_init_42 (by decide +kernel) ?_
  refine G.st2 (k0 := k) ((yha29 k (by omega)).trans ((yha22 k (by omega)).trans ((yha12 k (by omega)).trans (yha5 k (by omega))))) ?_
  refine G.put k (by omega) (yh39) rfl twX1 4 (by decide) tyX1 tyX1_ok nmX1 tb_150 rfl rfl (tyX1_ok 4 (by decide)) rfl rfl (Nat.le_of_ble_eq_true rfl) dX1_init_43 (fun yw41 yh42 yf43 => ?_)
  refine G.aload_n 0 rfl rfl dX1_init_46 ?_
  refine G.iconst (v := nI 0) dX1_init_47 (by decide +kernel) ?_
  refine G.st2 (k0 := k) ((yha29 k (by omega)).trans ((yha22 k (by omega)).trans ((yha12 k (by omega)).trans (yha5 k (by omega))))) ?_
  refine G.put k (by omega) (yh42) rfl twX1 5 (by decide) tyX1 tyX1_ok nmX1 tb_151 rfl rfl (tyX1_ok 5 (by decide)) rfl rfl (Nat.le_of_ble_eq_true rfl) dX1_init_48 (fun yw44 yh45 yf46 => ?_)
  have za1 : ya27 (k + 1) = yq1 := ((yha29 (k + 1) (by omega)).trans ((yha22 (k + 1) (by omega)).trans ((yha12 (k + 1) (by omega)).trans (yhq4))))
  have za5 : ya27 (k + 5) = yq18 := ((yha29 (k + 5) (by omega)).trans (yhq21))
  have zw0 := (yh45)
  have zpa0 : ∀ i, i < (k + 1) + 4 → ya27 i = _ := fun i hi => (yha29 i (by omega)).trans (yha22 i (by omega))
  have zpw0 : ∀ i, (k + 1) ≤ i → i < (k + 1) + 4 → yw44 i = _ := fun i h1 h2 => (yf46 i (by omega)).trans ((yf43 i (by omega)).trans ((yf40 i (by omega)).trans ((yf37 i (by omega)).trans ((yf34 i (by omega)).trans ((yhw30 i (by omega)).trans ((yhw24 i (by omega)).trans (yf17 i (by omega))))))))
  have zpa1 : ∀ i, i < (k + 5) + 4 → ya27 i = _ := fun i hi => rfl
  have zpw1 : ∀ i, (k + 5) ≤ i → i < (k + 5) + 4 → yw44 i = _ := fun i h1 h2 => (yf46 i (by omega)).trans ((yf43 i (by omega)).trans ((yf40 i (by omega)).trans ((yf37 i (by omega)).trans (yf34 i (by omega)))))
  have zA : ∀ i, i ≤ k → ya27 i = ad i := fun i hi => (yha29 i (by omega)).trans ((yha22 i (by omega)).trans ((yha12 i (by omega)).trans (yha5 i (by omega))))
  have zW : ∀ i, i < k → yw44 i = w i := fun i hi => (yf46 i (by omega)).trans ((yf43 i (by omega)).trans ((yf40 i (by omega)).trans ((yf37 i (by omega)).trans ((yf34 i (by omega)).trans ((yhw30 i (by omega)).trans ((yhw24 i (by omega)).trans ((yf17 i (by omega)).trans ((yhw13 i (by omega)).trans (yhw7 i (by omega))))))))))
  refine G.vret rfl rfl rfl dX1_init_51 ?_
  refine hret _ _ _ _ ⟨rfl, rfl, fun i hi => zA i (by omega), fun i hi => zW i (by omega), ?_⟩
  refine ⟨isCmp.none (a := nI 0) (b := nI 0) (c := nI 0) (by rw [cmF, za1, za5]; exact zw0), ⟨[], yhp14.mv (fun i h1 h2 => zpa0 i (by omega)) (fun i h1 h2 => zpw0 i (by omega) (by omega))⟩, [], yhp31.mv (fun i h1 h2 => zpa1 i (by omega)) (fun i h1 h2 => zpw1 i (by omega) (by omega))⟩
set_option maxHeartbeats 1000000 in
theorem c_X2_init (h0 : w k = .inr (2, [.null, .null, .int 0, .int 0, .int 0, .int 0, .int 0, .int 0, .int 0, .int 0])) :
    KA l t yX2_init cX2_init 1 none (rC 2 8 728) (k + 1) ad w [.ref (ad k)] 8 728 (fun res N' ad' w' => res = none ∧ N' = k + 9 ∧ (∀ i, i < k + 1 → ad' i = ad i) ∧ (∀ i, i < k → w' i = w i) ∧ w' k = .inr (2, opF ad' k (nI 0) (-1) (-1) (nI 0) (nI 0) (nI 0) (nI 0) (nI 0)) ∧ isRows t ad' w' (k + 1) 200 [] ∧ isRows t ad' w' (k + 5) 40 []) := by
  refine KA.ofI (own := RX2) (lv := [(0, .ref (ad k))]) (by decide +kernel) rfl rfl (Nat.le_of_ble_eq_true rfl) rfl (fun P post hin hret => ?_)
  refine G.aload_n 0 rfl rfl dX2_init_0 ?_
  refine G.objInit tb_169 (Nat.le_of_ble_eq_true rfl) (Nat.le_of_ble_eq_true rfl) dX2_init_1 ?_
  refine G.aload_n 0 rfl rfl dX2_init_4 ?_
  refine G.newo twX4 tyX4 tyX4_ok tb_170 tb_125 tb_39 (ci := 4) rfl (fs := [.null, .null, .null, .int 0]) dfX4 (Nat.le_of_ble_eq_true rfl) (Nat.le_of_ble_eq_true rfl) dX2_init_5 (fun yq1 ya2 yw3 yhq4 yha5 yhn6 yhw7 => ?_)
  refine G.dup rfl dX2_init_8 ?_
  refine G.sipush (v := nI 200) dX2_init_9 (by decide +kernel) ?_
  refine G.st2 (k0 := (k + 1)) (yhq4) ?_
  refine G.callIA (n := 1) (k + 1) (c_X4_init (k := (k + 1)) (cap := 200) (yhn6) (by omega)) rfl tb_171 tb_127 rfl tb_39 tb_128 (by decide +kernel) rfl ⟨rfl, rfl, (Nat.le_of_ble_eq_true rfl), (Nat.le_of_ble_eq_true rfl)⟩ (Nat.le_of_ble_eq_true rfl) ⟨(Nat.le_of_ble_eq_true rfl), (Nat.le_of_ble_eq_true rfl)⟩ dX2_init_12 (fun yr8 yN9 ya10 yw11 hp => ?_)
  obtain ⟨rfl, rfl, yha12, yhw13, yhp14⟩ := hp
  refine G.st2 (k0 := k) ((yha12 k (by omega)).trans (yha5 k (by omega))) ?_
  refine G.putF k (by omega) ((yhw13 k (by omega)).trans ((yhw7 k (by omega)).trans (h0))) rfl twX2 0 (by decide) tyX2 tyX2_ok nmX2 tb_172 rfl rfl hin rfl (tyX2_ok 0 (by decide)) rfl rfl (Nat.le_of_ble_eq_true rfl) dX2_init_15 (fun yw15 yh16 yf17 => ?_)
  refine G.aload_n 0 rfl rfl dX2_init_18 ?_
  refine G.newo twX4 tyX4 tyX4_ok tb_170 tb_125 tb_39 (ci := 4) rfl (fs := [.null, .null, .null, .int 0]) dfX4 (Nat.le_of_ble_eq_true rfl) (Nat.le_of_ble_eq_true rfl) dX2_init_19 (fun yq18 ya19 yw20 yhq21 yha22 yhn23 yhw24 => ?_)
  refine G.dup rfl dX2_init_22 ?_
  refine G.bipush (v := nI 40) dX2_init_23 (by decide +kernel) ?_
  refine G.st2 (k0 := (k + 5)) (yhq21) ?_
  refine G.callIA (n := 1) (k + 5) (c_X4_init (k := (k + 5)) (cap := 40) (yhn23) (by omega)) rfl tb_171 tb_127 rfl tb_39 tb_128 (by decide +kernel) rfl ⟨rfl, rfl, (Nat.le_of_ble_eq_true rfl), (Nat.le_of_ble_eq_true rfl)⟩ (Nat.le_of_ble_eq_true rfl) ⟨(Nat.le_of_ble_eq_true rfl), (Nat.le_of_ble_eq_true rfl)⟩ dX2_init_25 (fun yr25 yN26 ya27 yw28 hp => ?_)
  obtain ⟨rfl, rfl, yha29, yhw30, yhp31⟩ := hp
  refine G.st2 (k0 := k) ((yha29 k (by omega)).trans ((yha22 k (by omega)).trans ((yha12 k (by omega)).trans (yha5 k (by omega))))) ?_
  refine G.putF k (by omega) ((yhw30 k (by omega)).trans ((yhw24 k (by omega)).trans (yh16))) rfl twX2 1 (by decide) tyX2 tyX2_ok nmX2 tb_175 rfl rfl hin rfl (tyX2_ok 1 (by decide)) rfl rfl (Nat.le_of_ble_eq_true rfl) dX2_init_28 (fun yw32 yh33 yf34 => ?_)
  refine G.aload_n 0 rfl rfl dX2_init_31 ?_
  refine G.iconst (v := nI 0) dX2_init_32 (by decide +kernel) ?_
  refine G.st2 (k0 := k) ((yha29 k (by omega)).trans ((yha22 k (by omega)).trans ((yha12 k (by omega)).trans (yha5 k (by omega))))) ?_
  refine G.put k (by omega) (yh33) rfl twX2 2 (by decide) tyX2 tyX2_ok nmX2 tb_177 rfl rfl (tyX2_ok 2 (by decide)) rfl rfl (Nat.le_of_ble_eq_true rfl) dX2_init_33 (fun yw35 yh36 yf37 => ?_)
  refine G.aload_n 0 rfl rfl dX2_init_36 ?_
  refine G.iconst (v := -1) dX2_init_37 (by decide +kernel) ?_
  refine G.st2 (k0 := k) ((yha29 k (by omega)).trans ((yha22 k (by omega)).trans ((yha12 k (by omega)).trans (yha5 k (by omega))))) ?_
  refine G.put k (by omega) (yh36) rfl twX2 3 (by decide) tyX2 tyX2_ok nmX2 tb_180 rfl rfl (tyX2_ok 3 (by decide)) rfl rfl (Nat.le_of_ble_eq_true rfl) dX2_init_38 (fun yw38 yh39 yf40 => ?_)
  refine G.aload_n 0 rfl rfl dX2_init_41 ?_
  refine G.iconst (v := -1) dX2_init_42 (by decide +kernel) ?_
  refine G.st2 (k0 := k) ((yha29 k (by omega)).trans ((yha22 k (by omega)).trans ((yha12 k (by omega)).trans (yha5 k (by omega))))) ?_
  refine G.put k (by omega) (yh39) rfl twX2 4 (by decide) tyX2 tyX2_ok nmX2 tb_182 rfl rfl (tyX2_ok 4 (by decide)) rfl rfl (Nat.le_of_ble_eq_true rfl) dX2_init_43 (fun yw41 yh42 yf43 => ?_)
  refine G.aload_n 0 rfl rfl dX2_init_46 ?_
  refine G.iconst (v := nI 0) dX2_init_47 (by decide +kernel) ?_
  refine G.st2 (k0 := k) ((yha29 k (by omega)).trans ((yha22 k (by omega)).trans ((yha12 k (by omega)).trans (yha5 k (by omega))))) ?_
  refine G.put k (by omega) (yh42) rfl twX2 5 (by decide) tyX2 tyX2_ok nmX2 tb_184 rfl rfl (tyX2_ok 5 (by decide)) rfl rfl (Nat.le_of_ble_eq_true rfl) dX2_init_48 (fun yw44 yh45 yf46 => ?_)
  refine G.aload_n 0 rfl rfl dX2_init_51 ?_
  refine G.iconst (v := nI 0) dX2_init_52 (by decide +kernel) ?_
  refine G.st2 (k0 := k) ((yha29 k (by omega)).trans ((yha22 k (by omega)).trans ((yha12 k (by omega)).trans (yha5 k (by omega))))) ?_
  refine G.put k (by omega) (yh45) rfl twX2 6 (by decide) tyX2 tyX2_ok nmX2 tb_187 rfl rfl (tyX2_ok 6 (by decide)) rfl rfl (Nat.le_of_ble_eq_true rfl) dX2_init_53 (fun yw47 yh48 yf49 => ?_)
  refine G.aload_n 0 rfl rfl dX2_init_56 ?_
  refine G.iconst (v := nI 0) dX2_init_57 (by decide +kernel) ?_
  refine G.st2 (k0 := k) ((yha29 k (by omega)).trans ((yha22 k (by omega)).trans ((yha12 k (by omega)).trans (yha5 k (by omega))))) ?_
  refine G.put k (by omega) (yh48) rfl twX2 7 (by decide) tyX2 tyX2_ok nmX2 tb_189 rfl rfl (tyX2_ok 7 (by decide)) (nb_n (Or.inl rfl)) (nb_f (Or.inl rfl)) (Nat.le_of_ble_eq_true rfl) dX2_init_58 (fun yw50 yh51 yf52 => ?_)
  refine G.aload_n 0 rfl rfl dX2_init_61 ?_
  refine G.iconst (v := nI 0) dX2_init_62 (by decide +kernel) ?_
  refine G.st2 (k0 := k) ((yha29 k (by omega)).trans ((yha22 k (by omega)).trans ((yha12 k (by omega)).trans (yha5 k (by omega))))) ?_
  refine G.put k (by omega) (yh51) rfl twX2 8 (by decide) tyX2 tyX2_ok nmX2 tb_191 rfl rfl (tyX2_ok 8 (by decide)) rfl rfl (Nat.le_of_ble_eq_true rfl) dX2_init_63 (fun yw53 yh54 yf55 => ?_)
  refine G.aload_n 0 rfl rfl dX2_init_66 ?_
  refine G.iconst (v := nI 0) dX2_init_67 (by decide +kernel) ?_
  refine G.st2 (k0 := k) ((yha29 k (by omega)).trans ((yha22 k (by omega)).trans ((yha12 k (by omega)).trans (yha5 k (by omega))))) ?_
  refine G.put k (by omega) (yh54) rfl twX2 9 (by decide) tyX2 tyX2_ok nmX2 tb_192 rfl rfl (tyX2_ok 9 (by decide)) rfl rfl (Nat.le_of_ble_eq_true rfl) dX2_init_68 (fun yw56 yh57 yf58 => ?_)
  have za1 : ya27 (k + 1) = yq1 := ((yha29 (k + 1) (by omega)).trans ((yha22 (k + 1) (by omega)).trans ((yha12 (k + 1) (by omega)).trans (yhq4))))
  have za5 : ya27 (k + 5) = yq18 := ((yha29 (k + 5) (by omega)).trans (yhq21))
  have zw0 := (yh57)
  have zpa0 : ∀ i, i < (k + 1) + 4 → ya27 i = _ := fun i hi => (yha29 i (by omega)).trans (yha22 i (by omega))
  have zpw0 : ∀ i, (k + 1) ≤ i → i < (k + 1) + 4 → yw56 i = _ := fun i h1 h2 => (yf58 i (by omega)).trans ((yf55 i (by omega)).trans ((yf52 i (by omega)).trans ((yf49 i (by omega)).trans ((yf46 i (by omega)).trans ((yf43 i (by omega)).trans ((yf40 i (by omega)).trans ((yf37 i (by omega)).trans ((yf34 i (by omega)).trans ((yhw30 i (by omega)).trans ((yhw24 i (by omega)).trans (yf17 i (by omega))))))))))))
  have zpa1 : ∀ i, i < (k + 5) + 4 → ya27 i = _ := fun i hi => rfl
  have zpw1 : ∀ i, (k + 5) ≤ i → i < (k + 5) + 4 → yw56 i = _ := fun i h1 h2 => (yf58 i (by omega)).trans ((yf55 i (by omega)).trans ((yf52 i (by omega)).trans ((yf49 i (by omega)).trans ((yf46 i (by omega)).trans ((yf43 i (by omega)).trans ((yf40 i (by omega)).trans ((yf37 i (by omega)).trans (yf34 i (by omega)))))))))
  have zA : ∀ i, i ≤ k → ya27 i = ad i := fun i hi => (yha29 i (by omega)).trans ((yha22 i (by omega)).trans ((yha12 i (by omega)).trans (yha5 i (by omega))))
  have zW : ∀ i, i < k → yw56 i = w i := fun i hi => (yf58 i (by omega)).trans ((yf55 i (by omega)).trans ((yf52 i (by omega)).trans ((yf49 i (by omega)).trans ((yf46 i (by omega)).trans ((yf43 i (by omega)).trans ((yf40 i (by omega)).trans ((yf37 i (by omega)).trans ((yf34 i (by omega)).trans ((yhw30 i (by omega)).trans ((yhw24 i (by omega)).trans ((yf17 i (by omega)).trans ((yhw13 i (by omega)).trans (yhw7 i (by omega))))))))))))))
  refine G.vret rfl rfl rfl dX2_init_71 ?_
  refine hret _ _ _ _ ⟨rfl, rfl, fun i hi => zA i (by omega), fun i hi => zW i (by omega), ?_⟩
  refine ⟨by rw [opF, za1, za5]; exact zw0, yhp14.mv (fun i h1 h2 => zpa0 i (by omega)) (fun i h1 h2 => zpw0 i (by omega) (by omega)), yhp31.mv (fun i h1 h2 => zpa1 i (by omega)) (fun i h1 h2 => zpw1 i (by omega) (by omega))⟩
end Ctor

