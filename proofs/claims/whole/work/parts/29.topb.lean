/-! OnePassJudge: late, item, wipe, operators that come -/
def cl (x : Int32) : Nat := x.toNatClampNeg
theorem cl_n {j : Nat} (h : j < 2 ^ 31) : cl (nI j) = j := nI_clamp h
def addO (O : List OD) (o : OD) : List OD := if O.length < 12 then O ++ [o] else O
def addB (O : List OD) (jd : Bool) : Bool := if O.length < 12 then false else jd
def addD (O : List OD) (df : DF) : DF := if O.length < 12 then none else df
def addR (O : List OD) : Int32 := if O.length < 12 then nI O.length else -2
theorem getD_snoc {α : Type} (L : List α) (x d : α) : (L ++ [x]).getD L.length d = x := by simp [List.getD_eq_getElem?_getD]
theorem getD_app {α : Type} {L : List α} {x d : α} {i : Nat} (h : i < L.length) : (L ++ [x]).getD i d = L.getD i d := by simp [List.getD_eq_getElem?_getD, List.getElem?_append_left h]
section TopB
variable {l : Launch} {t : TT} {N : Nat} {ad : Nat → Nat} {w : Nat → va_E} {A : List AR} {I : Nat → Int32} {O : List OD} {Td : Nat → List RW} {jd : Bool} {J : Nat → JR} {fc : Nat} {df : DF}
theorem c_X7_late (hC : isC t ad w A I O Td jd J fc df) (hN : 132 ≤ N) (i z : Int32) (hz : z = 0 ∨ z = 1) :
    K l t yX7_late cX7_late 3 (some .int) (rD 1) N ad w [.ref (ad 0), .int i, .int z]
      (fun res w' => res = some (.int (match ix A.length i with | none => -1 | some j => (A.getD j a0).2.2.2.2)) ∧ isC t ad w' (match ix A.length i with | none => A | some j => A.set j (setLate (A.getD j a0) z)) I O Td jd J fc df ∧ ∀ i, 132 ≤ i → w' i = w i) := by
  have zC := hC
  obtain ⟨c0, cA, cT, cOA, cP, cC, cCR, cO, cw, cd⟩ := hC
  have zA := cw.1
  refine K.of (own := RX7) (lv := [(0, .ref (ad 0)), (1, .int i), (2, .int z)]) (by decide +kernel) rfl (Nat.le_of_ble_eq_true rfl) rfl (fun P post hret => ?_)
  refine G.iload_n 1 rfl rfl dX7_late_0 ?_
  refine G.iconst (v := nI 0) dX7_late_1 (by decide +kernel) ?_
  refine G.aload_n 0 rfl rfl dX7_late_2 ?_
  refine G.get 0 (by omega) c0 rfl twX7 0 (by decide) tb_214 rfl rfl dX7_late_3 ?_
  refine G.callV (n := 0) 1 (c_X0_size (k := 1) cA (by omega)) rfl (by omega) cA.obj.1 rfl tb_252 tb_253 tb_254 tb_34 tb_255 (by decide +kernel) rfl ⟨(Nat.le_of_ble_eq_true rfl), (Nat.le_of_ble_eq_true rfl)⟩ ⟨rfl, rfl⟩ (Nat.le_of_ble_eq_true rfl) ⟨Nat.zero_le _, Nat.zero_le _⟩ dX7_late_6 (fun gr2 gw1 hp => ?_)
  obtain ⟨rfl, rfl⟩ := hp
  refine G.iconst (v := nI 1) dX7_late_9 (by decide +kernel) ?_
  refine G.isub dX7_late_10 ?_
  refine G.callS (n := 3) (c_X7_within i (nI 0) (nI A.length - nI 1)) rfl tb_243 tb_244 tb_33 tb_245 (by decide +kernel) rfl ⟨(Nat.le_of_ble_eq_true rfl), (Nat.le_of_ble_eq_true rfl)⟩ ⟨rfl, rfl⟩ (Nat.le_of_ble_eq_true rfl) ⟨Nat.zero_le _, Nat.zero_le _⟩ dX7_late_11 (fun gr4 gw3 hp => ?_)
  obtain ⟨rfl, rfl⟩ := hp
  rw [wi_ix (by omega)]
  cases zi : ix A.length i with
  | none =>
    refine G.nif_ne 19 dX7_late_14 rfl (by decide) (fun zz => absurd zz (by decide)) (fun _ => ?_)
    refine G.iconst (v := -1) dX7_late_17 (by decide +kernel) ?_
    refine G.iret rfl rfl rfl dX7_late_18 ?_
    rw [zi] at hret
    exact hret _ _ ⟨rfl, zC, fun _ _ => rfl⟩
  | some j =>
    rw [show (some j).isSome = true from rfl]
    obtain ⟨j1, j2, rfl⟩ := ix_some zi
    rw [zi] at hret
    dsimp only at hret
    refine G.nif_ne 19 dX7_late_14 rfl (by decide) (fun _ => ?_) (fun zz => absurd zz (by decide))
    refine G.aload_n 0 rfl rfl dX7_late_19 ?_
    refine G.get 0 (by omega) c0 rfl twX7 0 (by decide) tb_214 rfl rfl dX7_late_20 ?_
    refine G.iload_n 1 rfl rfl dX7_late_23 ?_
    refine G.iload_n 2 rfl rfl dX7_late_24 ?_
    refine G.callV (n := 2) 1 (c_X0_swapLate (k := 1) cA (by omega) j1 (cw.2.2.2.2 j j1).1 z hz) rfl (by omega) cA.obj.1 rfl tb_260 tb_261 tb_262 tb_34 tb_263 (by decide +kernel) rfl ⟨(Nat.le_of_ble_eq_true rfl), (Nat.le_of_ble_eq_true rfl)⟩ ⟨rfl, rfl⟩ (Nat.le_of_ble_eq_true rfl) ⟨Nat.zero_le _, Nat.zero_le _⟩ dX7_late_25 (fun gr5 zw hp => ?_)
    obtain ⟨rfl, hA2, hf⟩ := hp
    have mk : isC t ad zw (A.set j (setLate (A.getD j a0) z)) I O Td jd J fc df := ⟨(hf 0 (by omega)).trans c0, hA2, cT.keep (fun i i1 i2 => hf i (by omega)), cOA.keep (hf 9 (by omega)), cP.keep (fun i i1 i2 => hf i (by omega)), cC.keep (hf 15 (by omega)), cCR.keep (fun i i1 i2 => hf i (by omega)), cO.keep (fun i i1 i2 => hf i (by omega)), ⟨by rw [List.length_set]; exact cw.1, cw.2.1, cw.2.2.1, cw.2.2.2.1, fun i hi => by
      rw [List.length_set] at hi
      have hold := cw.2.2.2.2 i hi
      by_cases q : i = j
      · subst q
        rw [List.getD_eq_getElem?_getD, List.getElem?_set_self hi]
        exact ⟨hz, hold.2⟩
      · rw [List.getD_eq_getElem?_getD, List.getElem?_set_ne (Ne.symm q), ← List.getD_eq_getElem?_getD]
        exact hold⟩, cd⟩
    refine G.if_eq 35 dX7_late_28 rfl (fun c28 => ?_) (fun c28 => ?_)
    · skip
      refine G.iconst (v := nI 0) dX7_late_35 (by decide +kernel) ?_
      refine G.iret rfl rfl rfl dX7_late_36 ?_
      exact hret _ _ ⟨by rw [c28]; rfl, mk, fun i hi => hf i (by omega)⟩
    · skip
      refine G.iconst (v := nI 1) dX7_late_31 (by decide +kernel) ?_
      refine G.goto 36 dX7_late_32 rfl ?_
      refine G.iret rfl rfl rfl dX7_late_36 ?_
      have z1 : (A.getD j a0).2.2.2.2 = 1 := by
        rcases (cw.2.2.2.2 j j1).1 with q | q
        · exact absurd q c28
        · exact q
      exact hret _ _ ⟨by rw [z1]; rfl, mk, fun i hi => hf i (by omega)⟩
theorem c_X7_item (hC : isC t ad w A I O Td jd J fc df) (hN : 132 ≤ N) (i v : Int32) :
    K l t yX7_item cX7_item 3 (some .int) (rD 1) N ad w [.ref (ad 0), .int i, .int v]
      (fun res w' => res = some (.int (match ix 8 i with | none => -1 | some j => I j)) ∧ isC t ad w' A (match ix 8 i with | none => I | some j => upd I j v) O Td jd J fc df ∧ ∀ i, 132 ≤ i → w' i = w i) := by
  have zC := hC
  obtain ⟨c0, cA, cT, cOA, cP, cC, cCR, cO, cw, cd⟩ := hC
  obtain ⟨I', t0, t1, t2⟩ := id cT
  refine K.of (own := RX7) (lv := [(0, .ref (ad 0)), (1, .int i), (2, .int v)]) (by decide +kernel) rfl (Nat.le_of_ble_eq_true rfl) rfl (fun P post hret => ?_)
  refine G.iload_n 1 rfl rfl dX7_item_0 ?_
  refine G.iconst (v := nI 0) dX7_item_1 (by decide +kernel) ?_
  refine G.bipush (v := nI 7) dX7_item_2 (by decide +kernel) ?_
  refine G.callS (n := 3) (c_X7_within i (nI 0) (nI 7)) rfl tb_243 tb_244 tb_33 tb_245 (by decide +kernel) rfl ⟨(Nat.le_of_ble_eq_true rfl), (Nat.le_of_ble_eq_true rfl)⟩ ⟨rfl, rfl⟩ (Nat.le_of_ble_eq_true rfl) ⟨Nat.zero_le _, Nat.zero_le _⟩ dX7_item_4 (fun gr2 gw1 hp => ?_)
  obtain ⟨rfl, rfl⟩ := hp
  rw [wi_n (by omega)]
  cases zi : ix 8 i with
  | none =>
    refine G.nif_eq 22 dX7_item_7 rfl (by decide) (fun _ => ?_) (fun zz => absurd zz (by decide))
    refine G.iconst (v := -1) dX7_item_22 (by decide +kernel) ?_
    refine G.iret rfl rfl rfl dX7_item_23 ?_
    rw [zi] at hret
    exact hret _ _ ⟨rfl, zC, fun _ _ => rfl⟩
  | some j =>
    rw [show (some j).isSome = true from rfl]
    obtain ⟨j1, j2, rfl⟩ := ix_some zi
    rw [zi] at hret
    dsimp only at hret
    refine G.nif_eq 22 dX7_item_7 rfl (by decide) (fun zz => absurd zz (by decide)) (fun _ => ?_)
    refine G.aload_n 0 rfl rfl dX7_item_10 ?_
    refine G.get 0 (by omega) c0 rfl twX7 1 (by decide) tb_215 rfl rfl dX7_item_11 ?_
    refine G.iload_n 1 rfl rfl dX7_item_14 ?_
    refine G.iload_n 2 rfl rfl dX7_item_15 ?_
    refine G.callV (n := 2) 7 (c_X6_swap (k := 7) cT (by omega) j1 v) rfl (by omega) t0 rfl tb_268 tb_269 tb_270 tb_35 tb_271 (by decide +kernel) rfl ⟨(Nat.le_of_ble_eq_true rfl), (Nat.le_of_ble_eq_true rfl)⟩ ⟨rfl, rfl⟩ (Nat.le_of_ble_eq_true rfl) ⟨Nat.zero_le _, Nat.zero_le _⟩ dX7_item_16 (fun gr3 zw hp => ?_)
    obtain ⟨rfl, hT2, hf⟩ := hp
    refine G.goto 23 dX7_item_19 rfl ?_
    refine G.iret rfl rfl rfl dX7_item_23 ?_
    exact hret _ _ ⟨rfl, ⟨(hf 0 (by omega)).trans c0, cA.keep (fun i i1 i2 => hf i (by omega)), hT2, cOA.keep (hf 9 (by omega)), cP.keep (fun i i1 i2 => hf i (by omega)), cC.keep (hf 15 (by omega)), cCR.keep (fun i i1 i2 => hf i (by omega)), cO.keep (fun i i1 i2 => hf i (by omega)), cw, cd⟩, fun i hi => hf i (by omega)⟩
theorem c_X7_wipe (hC : isC t ad w A I O Td jd J fc df) (hN : 132 ≤ N) :
    K l t yX7_wipe cX7_wipe 2 (some .int) (rD 1) N ad w [.ref (ad 0)]
      (fun res w' => res = some (.int (nI A.length)) ∧ isC t ad w' [] I O Td jd J fc df ∧ ∀ i, 132 ≤ i → w' i = w i) := by
  have zC := hC
  obtain ⟨c0, cA, cT, cOA, cP, cC, cCR, cO, cw, cd⟩ := hC
  refine K.of (own := RX7) (lv := [(0, .ref (ad 0))]) (by decide +kernel) rfl (Nat.le_of_ble_eq_true rfl) rfl (fun P post hret => ?_)
  refine G.aload_n 0 rfl rfl dX7_wipe_0 ?_
  refine G.get 0 (by omega) c0 rfl twX7 0 (by decide) tb_214 rfl rfl dX7_wipe_1 ?_
  refine G.callV (n := 0) 1 (c_X0_size (k := 1) cA (by omega)) rfl (by omega) cA.obj.1 rfl tb_252 tb_253 tb_254 tb_34 tb_255 (by decide +kernel) rfl ⟨(Nat.le_of_ble_eq_true rfl), (Nat.le_of_ble_eq_true rfl)⟩ ⟨rfl, rfl⟩ (Nat.le_of_ble_eq_true rfl) ⟨Nat.zero_le _, Nat.zero_le _⟩ dX7_wipe_4 (fun gr2 gw1 hp => ?_)
  obtain ⟨rfl, rfl⟩ := hp
  refine G.istore_n [(1, .int (nI A.length)), (0, .ref (ad 0))] dX7_wipe_7 rfl (by decide) rfl ?_
  refine G.aload_n 1 rfl rfl dX7_wipe_8 ?_
  refine G.get 0 (by omega) c0 rfl twX7 0 (by decide) tb_214 rfl rfl dX7_wipe_9 ?_
  refine G.callV (n := 0) 1 (c_X0_empty (k := 1) cA (by omega)) rfl (by omega) cA.obj.1 rfl tb_276 tb_277 tb_278 tb_34 tb_279 (by decide +kernel) rfl ⟨(Nat.le_of_ble_eq_true rfl), (Nat.le_of_ble_eq_true rfl)⟩ ⟨rfl, rfl⟩ (Nat.le_of_ble_eq_true rfl) ⟨Nat.zero_le _, Nat.zero_le _⟩ dX7_wipe_12 (fun gr3 zw hp => ?_)
  obtain ⟨rfl, hA2, hf⟩ := hp
  refine G.iload_n 0 rfl rfl dX7_wipe_15 ?_
  refine G.iret rfl rfl rfl dX7_wipe_16 ?_
  exact hret _ _ ⟨rfl, ⟨(hf 0 (by omega)).trans c0, hA2, cT.keep (fun i i1 i2 => hf i (by omega)), cOA.keep (hf 9 (by omega)), cP.keep (fun i i1 i2 => hf i (by omega)), cC.keep (hf 15 (by omega)), cCR.keep (fun i i1 i2 => hf i (by omega)), cO.keep (fun i i1 i2 => hf i (by omega)), ⟨by simp, cw.2.1, cw.2.2.1, cw.2.2.2.1, fun i hi => by simp at hi⟩, cd⟩, fun i hi => hf i (by omega)⟩
theorem c_X7_addOperator (hC : isC t ad w A I O Td jd J fc df) (hN : 132 ≤ N) {o : OD} {kd p q a b : Int32} (e1 : kd = nI o.1) (e2 : 1 ≤ o.1 → p = nI o.2.1 ∧ q = nI o.2.2.1) (e3 : a = nI o.2.2.2.1) (e4 : b = o.2.2.2.2) (hW : opW o O.length) :
    K l t yX7_addOperator cX7_addOperator 7 (some .int) (rD 2) N ad w [.ref (ad 0), .int kd, .int p, .int q, .int a, .int b]
      (fun res w' => res = some (.int (addR O)) ∧ isC t ad w' A I (addO O o) Td (addB O jd) J fc (addD O df) ∧ ∀ i, 132 ≤ i → w' i = w i) := by
  have zC := hC
  obtain ⟨c0, cA, cT, cOA, cP, cC, cCR, cO, cw, cd⟩ := hC
  obtain ⟨f, f0, f1⟩ := id cOA
  have zn := cw.2.1
  refine K.of (own := RX7) (lv := [(0, .ref (ad 0)), (1, .int kd), (2, .int p), (3, .int q), (4, .int a), (5, .int b)]) (by decide +kernel) rfl (Nat.le_of_ble_eq_true rfl) rfl (fun P post hret => ?_)
  refine G.aload_n 0 rfl rfl dX7_addOperator_0 ?_
  refine G.get 0 (by omega) c0 rfl twX7 5 (by decide) tb_219 rfl rfl dX7_addOperator_1 ?_
  refine G.aload_n 0 rfl rfl dX7_addOperator_4 ?_
  refine G.get 0 (by omega) c0 rfl twX7 2 (by decide) tb_216 rfl rfl dX7_addOperator_5 ?_
  refine G.alen 9 (by omega) 3 f0 rfl (v := nI 12) rfl dX7_addOperator_8 ?_
  refine G.ncmp_lt 15 dX7_addOperator_9 rfl (by omega) (by omega) (fun c9 => ?_) (fun c9 => ?_)
  · skip
    obtain ⟨kd0, p0, q0, a9, b0, u0, z0, x0, G0, ⟨g0, g1, g2⟩, g3⟩ := cO O.length c9
    refine G.aload_n 0 rfl rfl dX7_addOperator_15 ?_
    refine G.get 0 (by omega) c0 rfl twX7 2 (by decide) tb_216 rfl rfl dX7_addOperator_16 ?_
    refine G.aload_n 0 rfl rfl dX7_addOperator_19 ?_
    refine G.get 0 (by omega) c0 rfl twX7 5 (by decide) tb_219 rfl rfl dX7_addOperator_20 ?_
    refine G.aldq 9 (by omega) f0 O.length (rfl) (by omega) (by omega) dX7_addOperator_23 ?_
    rw [f1 _ c9]
    refine G.astore [(6, .ref (ad (24 + 9 * O.length))), (0, .ref (ad 0)), (1, .int kd), (2, .int p), (3, .int q), (4, .int a), (5, .int b)] dX7_addOperator_24 (by decide) rfl ?_
    refine G.aload 0 rfl dX7_addOperator_26 ?_
    refine G.ifnonnull 34 dX7_addOperator_28 rfl ?_
    refine G.aload 0 rfl dX7_addOperator_34 ?_
    refine G.iload_n 2 rfl rfl dX7_addOperator_36 ?_
    refine G.iload_n 3 rfl rfl dX7_addOperator_37 ?_
    refine G.iload_n 4 rfl rfl dX7_addOperator_38 ?_
    refine G.iload 5 rfl dX7_addOperator_39 ?_
    refine G.iload 6 rfl dX7_addOperator_41 ?_
    refine G.callV (n := 5) (24 + 9 * O.length) (c_X2_become (k := 24 + 9 * O.length) g0 (by omega) kd p q a b) rfl (by omega) g0 rfl tb_288 tb_289 tb_290 tb_41 tb_291 (by decide +kernel) rfl ⟨(Nat.le_of_ble_eq_true rfl), (Nat.le_of_ble_eq_true rfl)⟩ ⟨rfl, rfl⟩ (Nat.le_of_ble_eq_true rfl) ⟨Nat.zero_le _, Nat.zero_le _⟩ dX7_addOperator_43 (fun gr1 zw hp => ?_)
    obtain ⟨rfl, g4, hf⟩ := hp
    refine G.aload_n 1 rfl rfl dX7_addOperator_46 ?_
    refine G.dup rfl dX7_addOperator_47 ?_
    have gh2 := (hf 0 (by omega)).trans c0
    refine G.get 0 (by omega) gh2 rfl twX7 5 (by decide) tb_219 rfl rfl dX7_addOperator_48 ?_
    refine G.iconst (v := nI 1) dX7_addOperator_51 (by decide +kernel) ?_
    refine G.iadd dX7_addOperator_52 ?_
    refine G.topi (nI (O.length + 1)) (nI_add O.length 1) ?_
    refine G.put 0 (by omega) gh2 rfl twX7 5 (by decide) tyX7 tyX7_ok nmX7 tb_219 rfl rfl (tyX7_ok 5 (by decide)) rfl rfl (Nat.le_of_ble_eq_true rfl) dX7_addOperator_53 (fun gw3 gh4 gf5 => ?_)
    refine G.aload_n 1 rfl rfl dX7_addOperator_56 ?_
    have zc0 := gh4
    have hfr : ∀ i, i ≠ 0 → gw3 i = zw i := fun i hi => gf5 i (by omega)
    have zcm : isCmp t ad gw3 15 df := cC.keep ((hfr 15 (by omega)).trans (hf 15 (by omega)))
    refine G.callV (n := 0) 0 (c_X7_forgetJudged zc0 zcm hN) rfl (by omega) gh4 rfl tb_292 tb_294 tb_1 tb_33 tb_295 (by decide +kernel) rfl ⟨(Nat.le_of_ble_eq_true rfl), (Nat.le_of_ble_eq_true rfl)⟩ ⟨rfl, rfl⟩ (Nat.le_of_ble_eq_true rfl) ⟨Nat.zero_le _, Nat.zero_le _⟩ dX7_addOperator_57 (fun gr6 zw2 hp => ?_)
    obtain ⟨rfl, h0, h1, hf2⟩ := hp
    refine G.aload_n 1 rfl rfl dX7_addOperator_60 ?_
    refine G.get 0 (by omega) h0 rfl twX7 5 (by decide) tb_219 rfl rfl dX7_addOperator_61 ?_
    refine G.iconst (v := nI 1) dX7_addOperator_64 (by decide +kernel) ?_
    refine G.isub dX7_addOperator_65 ?_
    refine G.topi (nI O.length) (pk_sub (by omega)) ?_
    refine G.iret rfl rfl rfl dX7_addOperator_66 ?_
    have zf : ∀ i, i ≠ 0 → i ≠ 15 → i ≠ 24 + 9 * O.length → zw2 i = w i := fun i i1 i2 i3 => (hf2 i i1 i2).trans ((hfr i i1).trans (hf i i3))
    have zl : (O ++ [o]).length = O.length + 1 := by simp
    refine hret _ _ ⟨by rw [addR, if_pos c9], ?_, fun i hi => zf i (by omega) (by omega) (by omega)⟩
    rw [addO, if_pos c9, addB, if_pos c9, addD, if_pos c9]
    refine ⟨by rw [zl]; exact h0, cA.keep (fun i i1 i2 => zf i (by omega) (by omega) (by omega)), cT.keep (fun i i1 i2 => zf i (by omega) (by omega) (by omega)), cOA.keep (zf 9 (by omega) (by omega) (by omega)), cP.keep (fun i i1 i2 => zf i (by omega) (by omega) (by omega)), h1, cCR.keep (fun i i1 i2 => zf i (by omega) (by omega) (by omega)), ?_, ⟨cw.1, by rw [zl]; omega, cw.2.2.1, ?_, cw.2.2.2.2⟩, fun i i1 i2 => cd i (by rw [zl] at i1; omega) i2⟩
    · intro i hi
      by_cases q : i = O.length
      · subst q
        refine ⟨_, _, _, _, _, u0, z0, x0, G0, ⟨(hf2 _ (by omega) (by omega)).trans ((hfr _ (by omega)).trans g4), g1.keep (fun j j1 j2 => zf j (by omega) (by omega) (by omega)), g2.keep (fun j j1 j2 => zf j (by omega) (by omega) (by omega))⟩, fun _ => ⟨?_, fun h => by cases h⟩⟩
        rw [getD_snoc]
        exact ⟨e1, e2, e3, e4⟩
      · obtain ⟨kd', p', q', a', b', u', z', x', G', y1, y2⟩ := cO i hi
        refine ⟨kd', p', q', a', b', u', z', x', G', y1.keep (fun j j1 j2 => zf j (by omega) (by omega) (by omega)), fun h => ?_⟩
        rw [zl] at h
        have h2 : i < O.length := by omega
        rw [getD_app h2]
        exact ⟨(y2 h2).1, fun h => by cases h⟩
    · intro i hi
      rw [zl] at hi
      by_cases q : i = O.length
      · subst q; rw [getD_snoc]; exact hW
      · rw [getD_app (by omega)]; exact cw.2.2.2.1 i (by omega)
  · skip
    refine G.bipush (v := -2) dX7_addOperator_12 (by decide +kernel) ?_
    refine G.iret rfl rfl rfl dX7_addOperator_14 ?_
    refine hret _ _ ⟨by rw [addR, if_neg (by omega)], ?_, fun _ _ => rfl⟩
    rw [addO, if_neg (by omega), addB, if_neg (by omega), addD, if_neg (by omega)]
    exact zC
theorem c_X7_read (hC : isC t ad w A I O Td jd J fc df) (hN : 132 ≤ N) (s : Int32) :
    K l t yX7_read cX7_read 2 (some .int) (rD 3) N ad w [.ref (ad 0), .int s]
      (fun res w' => res = some (.int (if wi s (nI 0) (nI 2) = true then addR O else -1)) ∧ isC t ad w' A I (if wi s (nI 0) (nI 2) = true then addO O (0, 0, 0, cl s, 0) else O) Td (if wi s (nI 0) (nI 2) = true then addB O jd else jd) J fc (if wi s (nI 0) (nI 2) = true then addD O df else df) ∧ ∀ i, 132 ≤ i → w' i = w i) := by
  have zC := hC
  obtain ⟨c0, cA, cT, cOA, cP, cC, cCR, cO, cw, cd⟩ := hC
  have zn := cw.2.1
  refine K.of (own := RX7) (lv := [(0, .ref (ad 0)), (1, .int s)]) (by decide +kernel) rfl (Nat.le_of_ble_eq_true rfl) rfl (fun P post hret => ?_)
  have bad : wi s (nI 0) (nI 2) = false → G l t (rD 3) P cX7_read 2 RX7 (some .int) post 0 0 N ad 0 0 21 [(0, .ref (ad 0)), (1, .int s)] [] w := by
    intro zb
    rw [zb] at hret
    refine G.iconst (v := -1) dX7_read_21 (by decide +kernel) ?_
    refine G.iret rfl rfl rfl dX7_read_22 ?_
    exact hret _ _ ⟨rfl, by simpa using zC, fun _ _ => rfl⟩
  refine G.iload_n 1 rfl rfl dX7_read_0 ?_
  refine G.iconst (v := nI 0) dX7_read_1 (by decide +kernel) ?_
  refine G.iconst (v := nI 2) dX7_read_2 (by decide +kernel) ?_
  refine G.callS (n := 3) (c_X7_within s (nI 0) (nI 2)) rfl tb_243 tb_244 tb_33 tb_245 (by decide +kernel) rfl ⟨(Nat.le_of_ble_eq_true rfl), (Nat.le_of_ble_eq_true rfl)⟩ ⟨rfl, rfl⟩ (Nat.le_of_ble_eq_true rfl) ⟨Nat.zero_le _, Nat.zero_le _⟩ dX7_read_3 (fun gr2 gw1 hp => ?_)
  obtain ⟨rfl, rfl⟩ := hp
  cases z1 : wi s (nI 0) (nI 2)
  · skip
    refine G.nif_eq 21 dX7_read_6 rfl (by decide) (fun _ => ?_) (fun zz => absurd zz (by decide))
    exact bad (by rw [z1])
  · skip
    have zok : wi s (nI 0) (nI 2) = true := by rw [z1]
    rw [zok] at hret
    obtain ⟨sn, sn1, rfl⟩ := wi_so (m := 2) (by omega) z1
    rw [cl_n (show sn < 2 ^ 31 by omega)] at hret
    refine G.nif_eq 21 dX7_read_6 rfl (by decide) (fun zz => absurd zz (by decide)) (fun _ => ?_)
    refine G.aload_n 0 rfl rfl dX7_read_9 ?_
    refine G.iconst (v := nI 0) dX7_read_10 (by decide +kernel) ?_
    refine G.iconst (v := -1) dX7_read_11 (by decide +kernel) ?_
    refine G.iconst (v := -1) dX7_read_12 (by decide +kernel) ?_
    refine G.iload_n 1 rfl rfl dX7_read_13 ?_
    refine G.iconst (v := nI 0) dX7_read_14 (by decide +kernel) ?_
    refine G.callV (n := 5) 0 (c_X7_addOperator zC hN (o := (0, 0, 0, sn, 0)) rfl (fun h => (by simp at h)) rfl rfl ⟨by show 0 ≤ 8; omega, by show sn ≤ 1000; omega, fun h => (by simp at h), fun h => (by simp at h), fun h => (by simp at h)⟩) rfl (by omega) c0 rfl tb_284 tb_286 tb_0 tb_33 tb_287 (by decide +kernel) rfl ⟨(Nat.le_of_ble_eq_true rfl), (Nat.le_of_ble_eq_true rfl)⟩ ⟨rfl, rfl⟩ (Nat.le_of_ble_eq_true rfl) ⟨Nat.zero_le _, Nat.zero_le _⟩ dX7_read_15 (fun gr3 zw hp => ?_)
    obtain ⟨rfl, hC2, hf⟩ := hp
    refine G.goto 22 dX7_read_18 rfl ?_
    refine G.iret rfl rfl rfl dX7_read_22 ?_
    exact hret _ _ ⟨rfl, hC2, hf⟩
theorem c_X7_each (hC : isC t ad w A I O Td jd J fc df) (hN : 132 ≤ N) (wh p f c : Int32) :
    K l t yX7_each cX7_each 5 (some .int) (rD 3) N ad w [.ref (ad 0), .int wh, .int p, .int f, .int c]
      (fun res w' => res = some (.int (if (wi wh (nI 0) (nI 2) && ((ix O.length p).isSome && wi f (nI 0) (nI 6))) = true then addR O else -1)) ∧ isC t ad w' A I (if (wi wh (nI 0) (nI 2) && ((ix O.length p).isSome && wi f (nI 0) (nI 6))) = true then addO O (1 + cl wh, cl p, cl p, cl f, c) else O) Td (if (wi wh (nI 0) (nI 2) && ((ix O.length p).isSome && wi f (nI 0) (nI 6))) = true then addB O jd else jd) J fc (if (wi wh (nI 0) (nI 2) && ((ix O.length p).isSome && wi f (nI 0) (nI 6))) = true then addD O df else df) ∧ ∀ i, 132 ≤ i → w' i = w i) := by
  have zC := hC
  obtain ⟨c0, cA, cT, cOA, cP, cC, cCR, cO, cw, cd⟩ := hC
  have zn := cw.2.1
  refine K.of (own := RX7) (lv := [(0, .ref (ad 0)), (1, .int wh), (2, .int p), (3, .int f), (4, .int c)]) (by decide +kernel) rfl (Nat.le_of_ble_eq_true rfl) rfl (fun P post hret => ?_)
  have bad : (wi wh (nI 0) (nI 2) && ((ix O.length p).isSome && wi f (nI 0) (nI 6))) = false → G l t (rD 3) P cX7_each 5 RX7 (some .int) post 0 0 N ad 0 0 27 [(0, .ref (ad 0)), (1, .int wh), (2, .int p), (3, .int f), (4, .int c)] [] w := by
    intro zb
    rw [zb] at hret
    refine G.iconst (v := -1) dX7_each_27 (by decide +kernel) ?_
    refine G.iret rfl rfl rfl dX7_each_28 ?_
    exact hret _ _ ⟨rfl, by simpa using zC, fun _ _ => rfl⟩
  refine G.iload_n 1 rfl rfl dX7_each_0 ?_
  refine G.iconst (v := nI 0) dX7_each_1 (by decide +kernel) ?_
  refine G.iconst (v := nI 2) dX7_each_2 (by decide +kernel) ?_
  refine G.callS (n := 3) (c_X7_within wh (nI 0) (nI 2)) rfl tb_243 tb_244 tb_33 tb_245 (by decide +kernel) rfl ⟨(Nat.le_of_ble_eq_true rfl), (Nat.le_of_ble_eq_true rfl)⟩ ⟨rfl, rfl⟩ (Nat.le_of_ble_eq_true rfl) ⟨Nat.zero_le _, Nat.zero_le _⟩ dX7_each_3 (fun gr2 gw1 hp => ?_)
  obtain ⟨rfl, rfl⟩ := hp
  cases z1 : wi wh (nI 0) (nI 2)
  · skip
    refine G.nif_eq 27 dX7_each_6 rfl (by decide) (fun _ => ?_) (fun zz => absurd zz (by decide))
    exact bad (by rw [z1]; rfl)
  · skip
    refine G.nif_eq 27 dX7_each_6 rfl (by decide) (fun zz => absurd zz (by decide)) (fun _ => ?_)
    refine G.aload_n 0 rfl rfl dX7_each_9 ?_
    refine G.iload_n 2 rfl rfl dX7_each_10 ?_
    refine G.callV (n := 1) 0 (c_X7_isOperator c0 cOA cw.2.1 hN p) rfl (by omega) c0 rfl tb_304 tb_306 tb_2 tb_33 tb_307 (by decide +kernel) rfl ⟨(Nat.le_of_ble_eq_true rfl), (Nat.le_of_ble_eq_true rfl)⟩ ⟨rfl, rfl⟩ (Nat.le_of_ble_eq_true rfl) ⟨Nat.zero_le _, Nat.zero_le _⟩ dX7_each_11 (fun gr4 gw3 hp => ?_)
    obtain ⟨rfl, rfl⟩ := hp
    cases z2 : (ix O.length p).isSome
    · skip
      refine G.nif_eq 27 dX7_each_14 rfl (by decide) (fun _ => ?_) (fun zz => absurd zz (by decide))
      exact bad (by rw [z1, z2]; rfl)
    · skip
      refine G.nif_eq 27 dX7_each_14 rfl (by decide) (fun zz => absurd zz (by decide)) (fun _ => ?_)
      refine G.iload_n 3 rfl rfl dX7_each_17 ?_
      refine G.iconst (v := nI 0) dX7_each_18 (by decide +kernel) ?_
      refine G.bipush (v := nI 6) dX7_each_19 (by decide +kernel) ?_
      refine G.callS (n := 3) (c_X7_within f (nI 0) (nI 6)) rfl tb_243 tb_244 tb_33 tb_245 (by decide +kernel) rfl ⟨(Nat.le_of_ble_eq_true rfl), (Nat.le_of_ble_eq_true rfl)⟩ ⟨rfl, rfl⟩ (Nat.le_of_ble_eq_true rfl) ⟨Nat.zero_le _, Nat.zero_le _⟩ dX7_each_21 (fun gr6 gw5 hp => ?_)
      obtain ⟨rfl, rfl⟩ := hp
      cases z3 : wi f (nI 0) (nI 6)
      · skip
        refine G.nif_ne 29 dX7_each_24 rfl (by decide) (fun zz => absurd zz (by decide)) (fun _ => ?_)
        exact bad (by rw [z1, z2, z3]; rfl)
      · skip
        have zok : (wi wh (nI 0) (nI 2) && ((ix O.length p).isSome && wi f (nI 0) (nI 6))) = true := by rw [z1, z2, z3]; rfl
        rw [zok] at hret
        obtain ⟨wn, wn1, rfl⟩ := wi_so (m := 2) (by omega) z1
        obtain ⟨pn, pn1, pn2, rfl⟩ : ∃ j, j < O.length ∧ j < 2 ^ 31 ∧ p = nI j := by
          cases zz : ix O.length p with
          | none => rw [zz] at z2; cases z2
          | some j => exact ⟨j, ix_some zz⟩
        obtain ⟨fn, fn1, rfl⟩ := wi_so (m := 6) (by omega) z3
        rw [cl_n (show wn < 2 ^ 31 by omega), cl_n (show pn < 2 ^ 31 by omega), cl_n (show fn < 2 ^ 31 by omega)] at hret
        refine G.nif_ne 29 dX7_each_24 rfl (by decide) (fun _ => ?_) (fun zz => absurd zz (by decide))
        refine G.aload_n 0 rfl rfl dX7_each_29 ?_
        refine G.iconst (v := nI 1) dX7_each_30 (by decide +kernel) ?_
        refine G.iload_n 1 rfl rfl dX7_each_31 ?_
        refine G.iadd dX7_each_32 ?_
        refine G.topi (nI (1 + wn)) (nI_add 1 wn) ?_
        refine G.iload_n 2 rfl rfl dX7_each_33 ?_
        refine G.iload_n 2 rfl rfl dX7_each_34 ?_
        refine G.iload_n 3 rfl rfl dX7_each_35 ?_
        refine G.iload 4 rfl dX7_each_36 ?_
        refine G.callV (n := 5) 0 (c_X7_addOperator zC hN (o := (1 + wn, pn, pn, fn, c)) rfl (fun _ => ⟨rfl, rfl⟩) rfl rfl ⟨by show 1 + wn ≤ 8; omega, by show fn ≤ 1000; omega, fun _ => ⟨pn1, pn1⟩, fun _ _ => fn1, fun h => by have h2 : 1 + wn = 4 := h; omega⟩) rfl (by omega) c0 rfl tb_284 tb_286 tb_0 tb_33 tb_287 (by decide +kernel) rfl ⟨(Nat.le_of_ble_eq_true rfl), (Nat.le_of_ble_eq_true rfl)⟩ ⟨rfl, rfl⟩ (Nat.le_of_ble_eq_true rfl) ⟨Nat.zero_le _, Nat.zero_le _⟩ dX7_each_38 (fun gr7 zw hp => ?_)
        obtain ⟨rfl, hC2, hf⟩ := hp
        refine G.iret rfl rfl rfl dX7_each_41 ?_
        exact hret _ _ ⟨rfl, hC2, hf⟩
theorem c_X7_spans (hC : isC t ad w A I O Td jd J fc df) (hN : 132 ≤ N) (p sz how : Int32) :
    K l t yX7_spans cX7_spans 4 (some .int) (rD 3) N ad w [.ref (ad 0), .int p, .int sz, .int how]
      (fun res w' => res = some (.int (if ((ix O.length p).isSome && (wi sz (nI 1) (nI 1000) && wi how (nI 0) (nI 4))) = true then addR O else -1)) ∧ isC t ad w' A I (if ((ix O.length p).isSome && (wi sz (nI 1) (nI 1000) && wi how (nI 0) (nI 4))) = true then addO O (4, cl p, cl p, cl sz, how) else O) Td (if ((ix O.length p).isSome && (wi sz (nI 1) (nI 1000) && wi how (nI 0) (nI 4))) = true then addB O jd else jd) J fc (if ((ix O.length p).isSome && (wi sz (nI 1) (nI 1000) && wi how (nI 0) (nI 4))) = true then addD O df else df) ∧ ∀ i, 132 ≤ i → w' i = w i) := by
  have zC := hC
  obtain ⟨c0, cA, cT, cOA, cP, cC, cCR, cO, cw, cd⟩ := hC
  have zn := cw.2.1
  refine K.of (own := RX7) (lv := [(0, .ref (ad 0)), (1, .int p), (2, .int sz), (3, .int how)]) (by decide +kernel) rfl (Nat.le_of_ble_eq_true rfl) rfl (fun P post hret => ?_)
  have bad : ((ix O.length p).isSome && (wi sz (nI 1) (nI 1000) && wi how (nI 0) (nI 4))) = false → G l t (rD 3) P cX7_spans 4 RX7 (some .int) post 0 0 N ad 0 0 28 [(0, .ref (ad 0)), (1, .int p), (2, .int sz), (3, .int how)] [] w := by
    intro zb
    rw [zb] at hret
    refine G.iconst (v := -1) dX7_spans_28 (by decide +kernel) ?_
    refine G.iret rfl rfl rfl dX7_spans_29 ?_
    exact hret _ _ ⟨rfl, by simpa using zC, fun _ _ => rfl⟩
  refine G.aload_n 0 rfl rfl dX7_spans_0 ?_
  refine G.iload_n 1 rfl rfl dX7_spans_1 ?_
  refine G.callV (n := 1) 0 (c_X7_isOperator c0 cOA cw.2.1 hN p) rfl (by omega) c0 rfl tb_304 tb_306 tb_2 tb_33 tb_307 (by decide +kernel) rfl ⟨(Nat.le_of_ble_eq_true rfl), (Nat.le_of_ble_eq_true rfl)⟩ ⟨rfl, rfl⟩ (Nat.le_of_ble_eq_true rfl) ⟨Nat.zero_le _, Nat.zero_le _⟩ dX7_spans_2 (fun gr2 gw1 hp => ?_)
  obtain ⟨rfl, rfl⟩ := hp
  cases z1 : (ix O.length p).isSome
  · skip
    refine G.nif_eq 28 dX7_spans_5 rfl (by decide) (fun _ => ?_) (fun zz => absurd zz (by decide))
    exact bad (by rw [z1]; rfl)
  · skip
    refine G.nif_eq 28 dX7_spans_5 rfl (by decide) (fun zz => absurd zz (by decide)) (fun _ => ?_)
    refine G.iload_n 2 rfl rfl dX7_spans_8 ?_
    refine G.iconst (v := nI 1) dX7_spans_9 (by decide +kernel) ?_
    refine G.sipush (v := nI 1000) dX7_spans_10 (by decide +kernel) ?_
    refine G.callS (n := 3) (c_X7_within sz (nI 1) (nI 1000)) rfl tb_243 tb_244 tb_33 tb_245 (by decide +kernel) rfl ⟨(Nat.le_of_ble_eq_true rfl), (Nat.le_of_ble_eq_true rfl)⟩ ⟨rfl, rfl⟩ (Nat.le_of_ble_eq_true rfl) ⟨Nat.zero_le _, Nat.zero_le _⟩ dX7_spans_13 (fun gr4 gw3 hp => ?_)
    obtain ⟨rfl, rfl⟩ := hp
    cases z2 : wi sz (nI 1) (nI 1000)
    · skip
      refine G.nif_eq 28 dX7_spans_16 rfl (by decide) (fun _ => ?_) (fun zz => absurd zz (by decide))
      exact bad (by rw [z1, z2]; rfl)
    · skip
      refine G.nif_eq 28 dX7_spans_16 rfl (by decide) (fun zz => absurd zz (by decide)) (fun _ => ?_)
      refine G.iload_n 3 rfl rfl dX7_spans_19 ?_
      refine G.iconst (v := nI 0) dX7_spans_20 (by decide +kernel) ?_
      refine G.iconst (v := nI 4) dX7_spans_21 (by decide +kernel) ?_
      refine G.callS (n := 3) (c_X7_within how (nI 0) (nI 4)) rfl tb_243 tb_244 tb_33 tb_245 (by decide +kernel) rfl ⟨(Nat.le_of_ble_eq_true rfl), (Nat.le_of_ble_eq_true rfl)⟩ ⟨rfl, rfl⟩ (Nat.le_of_ble_eq_true rfl) ⟨Nat.zero_le _, Nat.zero_le _⟩ dX7_spans_22 (fun gr6 gw5 hp => ?_)
      obtain ⟨rfl, rfl⟩ := hp
      cases z3 : wi how (nI 0) (nI 4)
      · skip
        refine G.nif_ne 30 dX7_spans_25 rfl (by decide) (fun zz => absurd zz (by decide)) (fun _ => ?_)
        exact bad (by rw [z1, z2, z3]; rfl)
      · skip
        have zok : ((ix O.length p).isSome && (wi sz (nI 1) (nI 1000) && wi how (nI 0) (nI 4))) = true := by rw [z1, z2, z3]; rfl
        rw [zok] at hret
        obtain ⟨pn, pn1, pn2, rfl⟩ : ∃ j, j < O.length ∧ j < 2 ^ 31 ∧ p = nI j := by
          cases zz : ix O.length p with
          | none => rw [zz] at z1; cases z1
          | some j => exact ⟨j, ix_some zz⟩
        obtain ⟨sn, sn0, sn1, rfl⟩ : ∃ j, 1 ≤ j ∧ j ≤ 1000 ∧ sz = nI j := by
          have z9 : wi sz (nI 0) (nI 1000) = true := by
            simp only [wi, Bool.and_eq_true, decide_eq_true_eq] at z2 ⊢
            exact ⟨Int32.le_trans (by decide +kernel) z2.1, z2.2⟩
          obtain ⟨j, j1, rfl⟩ := wi_so (m := 1000) (by omega) z9
          simp only [wi, Bool.and_eq_true, decide_eq_true_eq] at z2
          exact ⟨j, (nI_leI (by omega) (by omega)).mp z2.1, j1, rfl⟩
        obtain ⟨hn, hn1, rfl⟩ := wi_so (m := 4) (by omega) z3
        rw [cl_n (show pn < 2 ^ 31 by omega), cl_n (show sn < 2 ^ 31 by omega)] at hret
        refine G.nif_ne 30 dX7_spans_25 rfl (by decide) (fun _ => ?_) (fun zz => absurd zz (by decide))
        refine G.aload_n 0 rfl rfl dX7_spans_30 ?_
        refine G.iconst (v := nI 4) dX7_spans_31 (by decide +kernel) ?_
        refine G.iload_n 1 rfl rfl dX7_spans_32 ?_
        refine G.iload_n 1 rfl rfl dX7_spans_33 ?_
        refine G.iload_n 2 rfl rfl dX7_spans_34 ?_
        refine G.iload_n 3 rfl rfl dX7_spans_35 ?_
        refine G.callV (n := 5) 0 (c_X7_addOperator zC hN (o := (4, pn, pn, sn, nI hn)) rfl (fun _ => ⟨rfl, rfl⟩) rfl rfl ⟨by show 4 ≤ 8; omega, by show sn ≤ 1000; omega, fun _ => ⟨pn1, pn1⟩, fun _ h => (by simp at h), fun _ => ⟨sn0, hn, hn1, rfl⟩⟩) rfl (by omega) c0 rfl tb_284 tb_286 tb_0 tb_33 tb_287 (by decide +kernel) rfl ⟨(Nat.le_of_ble_eq_true rfl), (Nat.le_of_ble_eq_true rfl)⟩ ⟨rfl, rfl⟩ (Nat.le_of_ble_eq_true rfl) ⟨Nat.zero_le _, Nat.zero_le _⟩ dX7_spans_36 (fun gr7 zw hp => ?_)
        obtain ⟨rfl, hC2, hf⟩ := hp
        refine G.iret rfl rfl rfl dX7_spans_39 ?_
        exact hret _ _ ⟨rfl, hC2, hf⟩
theorem c_X7_join (hC : isC t ad w A I O Td jd J fc df) (hN : 132 ≤ N) (p q W : Int32) :
    K l t yX7_join cX7_join 4 (some .int) (rD 3) N ad w [.ref (ad 0), .int p, .int q, .int W]
      (fun res w' => res = some (.int (if ((ix O.length p).isSome && ((ix O.length q).isSome && wi W (nI 0) (nI 1000))) = true then addR O else -1)) ∧ isC t ad w' A I (if ((ix O.length p).isSome && ((ix O.length q).isSome && wi W (nI 0) (nI 1000))) = true then addO O (5, cl p, cl q, cl W, 0) else O) Td (if ((ix O.length p).isSome && ((ix O.length q).isSome && wi W (nI 0) (nI 1000))) = true then addB O jd else jd) J fc (if ((ix O.length p).isSome && ((ix O.length q).isSome && wi W (nI 0) (nI 1000))) = true then addD O df else df) ∧ ∀ i, 132 ≤ i → w' i = w i) := by
  have zC := hC
  obtain ⟨c0, cA, cT, cOA, cP, cC, cCR, cO, cw, cd⟩ := hC
  have zn := cw.2.1
  refine K.of (own := RX7) (lv := [(0, .ref (ad 0)), (1, .int p), (2, .int q), (3, .int W)]) (by decide +kernel) rfl (Nat.le_of_ble_eq_true rfl) rfl (fun P post hret => ?_)
  have bad : ((ix O.length p).isSome && ((ix O.length q).isSome && wi W (nI 0) (nI 1000))) = false → G l t (rD 3) P cX7_join 4 RX7 (some .int) post 0 0 N ad 0 0 27 [(0, .ref (ad 0)), (1, .int p), (2, .int q), (3, .int W)] [] w := by
    intro zb
    rw [zb] at hret
    refine G.iconst (v := -1) dX7_join_27 (by decide +kernel) ?_
    refine G.iret rfl rfl rfl dX7_join_28 ?_
    exact hret _ _ ⟨rfl, by simpa using zC, fun _ _ => rfl⟩
  refine G.aload_n 0 rfl rfl dX7_join_0 ?_
  refine G.iload_n 1 rfl rfl dX7_join_1 ?_
  refine G.callV (n := 1) 0 (c_X7_isOperator c0 cOA cw.2.1 hN p) rfl (by omega) c0 rfl tb_304 tb_306 tb_2 tb_33 tb_307 (by decide +kernel) rfl ⟨(Nat.le_of_ble_eq_true rfl), (Nat.le_of_ble_eq_true rfl)⟩ ⟨rfl, rfl⟩ (Nat.le_of_ble_eq_true rfl) ⟨Nat.zero_le _, Nat.zero_le _⟩ dX7_join_2 (fun gr2 gw1 hp => ?_)
  obtain ⟨rfl, rfl⟩ := hp
  cases z1 : (ix O.length p).isSome
  · skip
    refine G.nif_eq 27 dX7_join_5 rfl (by decide) (fun _ => ?_) (fun zz => absurd zz (by decide))
    exact bad (by rw [z1]; rfl)
  · skip
    refine G.nif_eq 27 dX7_join_5 rfl (by decide) (fun zz => absurd zz (by decide)) (fun _ => ?_)
    refine G.aload_n 0 rfl rfl dX7_join_8 ?_
    refine G.iload_n 2 rfl rfl dX7_join_9 ?_
    refine G.callV (n := 1) 0 (c_X7_isOperator c0 cOA cw.2.1 hN q) rfl (by omega) c0 rfl tb_304 tb_306 tb_2 tb_33 tb_307 (by decide +kernel) rfl ⟨(Nat.le_of_ble_eq_true rfl), (Nat.le_of_ble_eq_true rfl)⟩ ⟨rfl, rfl⟩ (Nat.le_of_ble_eq_true rfl) ⟨Nat.zero_le _, Nat.zero_le _⟩ dX7_join_10 (fun gr4 gw3 hp => ?_)
    obtain ⟨rfl, rfl⟩ := hp
    cases z2 : (ix O.length q).isSome
    · skip
      refine G.nif_eq 27 dX7_join_13 rfl (by decide) (fun _ => ?_) (fun zz => absurd zz (by decide))
      exact bad (by rw [z1, z2]; rfl)
    · skip
      refine G.nif_eq 27 dX7_join_13 rfl (by decide) (fun zz => absurd zz (by decide)) (fun _ => ?_)
      refine G.iload_n 3 rfl rfl dX7_join_16 ?_
      refine G.iconst (v := nI 0) dX7_join_17 (by decide +kernel) ?_
      refine G.sipush (v := nI 1000) dX7_join_18 (by decide +kernel) ?_
      refine G.callS (n := 3) (c_X7_within W (nI 0) (nI 1000)) rfl tb_243 tb_244 tb_33 tb_245 (by decide +kernel) rfl ⟨(Nat.le_of_ble_eq_true rfl), (Nat.le_of_ble_eq_true rfl)⟩ ⟨rfl, rfl⟩ (Nat.le_of_ble_eq_true rfl) ⟨Nat.zero_le _, Nat.zero_le _⟩ dX7_join_21 (fun gr6 gw5 hp => ?_)
      obtain ⟨rfl, rfl⟩ := hp
      cases z3 : wi W (nI 0) (nI 1000)
      · skip
        refine G.nif_ne 29 dX7_join_24 rfl (by decide) (fun zz => absurd zz (by decide)) (fun _ => ?_)
        exact bad (by rw [z1, z2, z3]; rfl)
      · skip
        have zok : ((ix O.length p).isSome && ((ix O.length q).isSome && wi W (nI 0) (nI 1000))) = true := by rw [z1, z2, z3]; rfl
        rw [zok] at hret
        obtain ⟨pn, pn1, pn2, rfl⟩ : ∃ j, j < O.length ∧ j < 2 ^ 31 ∧ p = nI j := by
          cases zz : ix O.length p with
          | none => rw [zz] at z1; cases z1
          | some j => exact ⟨j, ix_some zz⟩
        obtain ⟨qn, qn1, qn2, rfl⟩ : ∃ j, j < O.length ∧ j < 2 ^ 31 ∧ q = nI j := by
          cases zz : ix O.length q with
          | none => rw [zz] at z2; cases z2
          | some j => exact ⟨j, ix_some zz⟩
        obtain ⟨wn, wn1, rfl⟩ := wi_so (m := 1000) (by omega) z3
        rw [cl_n (show pn < 2 ^ 31 by omega), cl_n (show qn < 2 ^ 31 by omega), cl_n (show wn < 2 ^ 31 by omega)] at hret
        refine G.nif_ne 29 dX7_join_24 rfl (by decide) (fun _ => ?_) (fun zz => absurd zz (by decide))
        refine G.aload_n 0 rfl rfl dX7_join_29 ?_
        refine G.iconst (v := nI 5) dX7_join_30 (by decide +kernel) ?_
        refine G.iload_n 1 rfl rfl dX7_join_31 ?_
        refine G.iload_n 2 rfl rfl dX7_join_32 ?_
        refine G.iload_n 3 rfl rfl dX7_join_33 ?_
        refine G.iconst (v := nI 0) dX7_join_34 (by decide +kernel) ?_
        refine G.callV (n := 5) 0 (c_X7_addOperator zC hN (o := (5, pn, qn, wn, 0)) rfl (fun _ => ⟨rfl, rfl⟩) rfl rfl ⟨by show 5 ≤ 8; omega, by show wn ≤ 1000; omega, fun _ => ⟨pn1, qn1⟩, fun _ h => (by simp at h), fun h => (by simp at h)⟩) rfl (by omega) c0 rfl tb_284 tb_286 tb_0 tb_33 tb_287 (by decide +kernel) rfl ⟨(Nat.le_of_ble_eq_true rfl), (Nat.le_of_ble_eq_true rfl)⟩ ⟨rfl, rfl⟩ (Nat.le_of_ble_eq_true rfl) ⟨Nat.zero_le _, Nat.zero_le _⟩ dX7_join_35 (fun gr7 zw hp => ?_)
        obtain ⟨rfl, hC2, hf⟩ := hp
        refine G.iret rfl rfl rfl dX7_join_38 ?_
        exact hret _ _ ⟨rfl, hC2, hf⟩
theorem c_X7_meet (hC : isC t ad w A I O Td jd J fc df) (hN : 132 ≤ N) (p q : Int32) :
    K l t yX7_meet cX7_meet 3 (some .int) (rD 3) N ad w [.ref (ad 0), .int p, .int q]
      (fun res w' => res = some (.int (if ((ix O.length p).isSome && (ix O.length q).isSome) = true then addR O else -1)) ∧ isC t ad w' A I (if ((ix O.length p).isSome && (ix O.length q).isSome) = true then addO O (6, cl p, cl q, 0, 0) else O) Td (if ((ix O.length p).isSome && (ix O.length q).isSome) = true then addB O jd else jd) J fc (if ((ix O.length p).isSome && (ix O.length q).isSome) = true then addD O df else df) ∧ ∀ i, 132 ≤ i → w' i = w i) := by
  have zC := hC
  obtain ⟨c0, cA, cT, cOA, cP, cC, cCR, cO, cw, cd⟩ := hC
  have zn := cw.2.1
  refine K.of (own := RX7) (lv := [(0, .ref (ad 0)), (1, .int p), (2, .int q)]) (by decide +kernel) rfl (Nat.le_of_ble_eq_true rfl) rfl (fun P post hret => ?_)
  have bad : ((ix O.length p).isSome && (ix O.length q).isSome) = false → G l t (rD 3) P cX7_meet 3 RX7 (some .int) post 0 0 N ad 0 0 29 [(0, .ref (ad 0)), (1, .int p), (2, .int q)] [] w := by
    intro zb
    rw [zb] at hret
    refine G.iconst (v := -1) dX7_meet_29 (by decide +kernel) ?_
    refine G.iret rfl rfl rfl dX7_meet_30 ?_
    exact hret _ _ ⟨rfl, by simpa using zC, fun _ _ => rfl⟩
  refine G.aload_n 0 rfl rfl dX7_meet_0 ?_
  refine G.iload_n 1 rfl rfl dX7_meet_1 ?_
  refine G.callV (n := 1) 0 (c_X7_isOperator c0 cOA cw.2.1 hN p) rfl (by omega) c0 rfl tb_304 tb_306 tb_2 tb_33 tb_307 (by decide +kernel) rfl ⟨(Nat.le_of_ble_eq_true rfl), (Nat.le_of_ble_eq_true rfl)⟩ ⟨rfl, rfl⟩ (Nat.le_of_ble_eq_true rfl) ⟨Nat.zero_le _, Nat.zero_le _⟩ dX7_meet_2 (fun gr2 gw1 hp => ?_)
  obtain ⟨rfl, rfl⟩ := hp
  cases z1 : (ix O.length p).isSome
  · skip
    refine G.nif_eq 29 dX7_meet_5 rfl (by decide) (fun _ => ?_) (fun zz => absurd zz (by decide))
    exact bad (by rw [z1]; rfl)
  · skip
    refine G.nif_eq 29 dX7_meet_5 rfl (by decide) (fun zz => absurd zz (by decide)) (fun _ => ?_)
    refine G.aload_n 0 rfl rfl dX7_meet_8 ?_
    refine G.iload_n 2 rfl rfl dX7_meet_9 ?_
    refine G.callV (n := 1) 0 (c_X7_isOperator c0 cOA cw.2.1 hN q) rfl (by omega) c0 rfl tb_304 tb_306 tb_2 tb_33 tb_307 (by decide +kernel) rfl ⟨(Nat.le_of_ble_eq_true rfl), (Nat.le_of_ble_eq_true rfl)⟩ ⟨rfl, rfl⟩ (Nat.le_of_ble_eq_true rfl) ⟨Nat.zero_le _, Nat.zero_le _⟩ dX7_meet_10 (fun gr4 gw3 hp => ?_)
    obtain ⟨rfl, rfl⟩ := hp
    cases z2 : (ix O.length q).isSome
    · skip
      refine G.nif_eq 29 dX7_meet_13 rfl (by decide) (fun _ => ?_) (fun zz => absurd zz (by decide))
      exact bad (by rw [z1, z2]; rfl)
    · skip
      have zok : ((ix O.length p).isSome && (ix O.length q).isSome) = true := by rw [z1, z2]; rfl
      rw [zok] at hret
      obtain ⟨pn, pn1, pn2, rfl⟩ : ∃ j, j < O.length ∧ j < 2 ^ 31 ∧ p = nI j := by
        cases zz : ix O.length p with
        | none => rw [zz] at z1; cases z1
        | some j => exact ⟨j, ix_some zz⟩
      obtain ⟨qn, qn1, qn2, rfl⟩ : ∃ j, j < O.length ∧ j < 2 ^ 31 ∧ q = nI j := by
        cases zz : ix O.length q with
        | none => rw [zz] at z2; cases z2
        | some j => exact ⟨j, ix_some zz⟩
      rw [cl_n (show pn < 2 ^ 31 by omega), cl_n (show qn < 2 ^ 31 by omega)] at hret
      refine G.nif_eq 29 dX7_meet_13 rfl (by decide) (fun zz => absurd zz (by decide)) (fun _ => ?_)
      refine G.aload_n 0 rfl rfl dX7_meet_16 ?_
      refine G.bipush (v := nI 6) dX7_meet_17 (by decide +kernel) ?_
      refine G.iload_n 1 rfl rfl dX7_meet_19 ?_
      refine G.iload_n 2 rfl rfl dX7_meet_20 ?_
      refine G.iconst (v := nI 0) dX7_meet_21 (by decide +kernel) ?_
      refine G.iconst (v := nI 0) dX7_meet_22 (by decide +kernel) ?_
      refine G.callV (n := 5) 0 (c_X7_addOperator zC hN (o := (6, pn, qn, 0, 0)) rfl (fun _ => ⟨rfl, rfl⟩) rfl rfl ⟨by show 6 ≤ 8; omega, by show 0 ≤ 1000; omega, fun _ => ⟨pn1, qn1⟩, fun _ h => (by simp at h), fun h => (by simp at h)⟩) rfl (by omega) c0 rfl tb_284 tb_286 tb_0 tb_33 tb_287 (by decide +kernel) rfl ⟨(Nat.le_of_ble_eq_true rfl), (Nat.le_of_ble_eq_true rfl)⟩ ⟨rfl, rfl⟩ (Nat.le_of_ble_eq_true rfl) ⟨Nat.zero_le _, Nat.zero_le _⟩ dX7_meet_23 (fun gr5 zw hp => ?_)
      obtain ⟨rfl, hC2, hf⟩ := hp
      refine G.goto 30 dX7_meet_26 rfl ?_
      refine G.iret rfl rfl rfl dX7_meet_30 ?_
      exact hret _ _ ⟨rfl, hC2, hf⟩
theorem c_X7_falls (hC : isC t ad w A I O Td jd J fc df) (hN : 132 ≤ N) (p W : Int32) :
    K l t yX7_falls cX7_falls 3 (some .int) (rD 3) N ad w [.ref (ad 0), .int p, .int W]
      (fun res w' => res = some (.int (if ((ix O.length p).isSome && wi W (nI 0) (nI 1000)) = true then addR O else -1)) ∧ isC t ad w' A I (if ((ix O.length p).isSome && wi W (nI 0) (nI 1000)) = true then addO O (7, cl p, cl p, cl W, 0) else O) Td (if ((ix O.length p).isSome && wi W (nI 0) (nI 1000)) = true then addB O jd else jd) J fc (if ((ix O.length p).isSome && wi W (nI 0) (nI 1000)) = true then addD O df else df) ∧ ∀ i, 132 ≤ i → w' i = w i) := by
  have zC := hC
  obtain ⟨c0, cA, cT, cOA, cP, cC, cCR, cO, cw, cd⟩ := hC
  have zn := cw.2.1
  refine K.of (own := RX7) (lv := [(0, .ref (ad 0)), (1, .int p), (2, .int W)]) (by decide +kernel) rfl (Nat.le_of_ble_eq_true rfl) rfl (fun P post hret => ?_)
  have bad : ((ix O.length p).isSome && wi W (nI 0) (nI 1000)) = false → G l t (rD 3) P cX7_falls 3 RX7 (some .int) post 0 0 N ad 0 0 32 [(0, .ref (ad 0)), (1, .int p), (2, .int W)] [] w := by
    intro zb
    rw [zb] at hret
    refine G.iconst (v := -1) dX7_falls_32 (by decide +kernel) ?_
    refine G.iret rfl rfl rfl dX7_falls_33 ?_
    exact hret _ _ ⟨rfl, by simpa using zC, fun _ _ => rfl⟩
  refine G.aload_n 0 rfl rfl dX7_falls_0 ?_
  refine G.iload_n 1 rfl rfl dX7_falls_1 ?_
  refine G.callV (n := 1) 0 (c_X7_isOperator c0 cOA cw.2.1 hN p) rfl (by omega) c0 rfl tb_304 tb_306 tb_2 tb_33 tb_307 (by decide +kernel) rfl ⟨(Nat.le_of_ble_eq_true rfl), (Nat.le_of_ble_eq_true rfl)⟩ ⟨rfl, rfl⟩ (Nat.le_of_ble_eq_true rfl) ⟨Nat.zero_le _, Nat.zero_le _⟩ dX7_falls_2 (fun gr2 gw1 hp => ?_)
  obtain ⟨rfl, rfl⟩ := hp
  cases z1 : (ix O.length p).isSome
  · skip
    refine G.nif_eq 32 dX7_falls_5 rfl (by decide) (fun _ => ?_) (fun zz => absurd zz (by decide))
    exact bad (by rw [z1]; rfl)
  · skip
    refine G.nif_eq 32 dX7_falls_5 rfl (by decide) (fun zz => absurd zz (by decide)) (fun _ => ?_)
    refine G.iload_n 2 rfl rfl dX7_falls_8 ?_
    refine G.iconst (v := nI 0) dX7_falls_9 (by decide +kernel) ?_
    refine G.sipush (v := nI 1000) dX7_falls_10 (by decide +kernel) ?_
    refine G.callS (n := 3) (c_X7_within W (nI 0) (nI 1000)) rfl tb_243 tb_244 tb_33 tb_245 (by decide +kernel) rfl ⟨(Nat.le_of_ble_eq_true rfl), (Nat.le_of_ble_eq_true rfl)⟩ ⟨rfl, rfl⟩ (Nat.le_of_ble_eq_true rfl) ⟨Nat.zero_le _, Nat.zero_le _⟩ dX7_falls_13 (fun gr4 gw3 hp => ?_)
    obtain ⟨rfl, rfl⟩ := hp
    cases z2 : wi W (nI 0) (nI 1000)
    · skip
      refine G.nif_eq 32 dX7_falls_16 rfl (by decide) (fun _ => ?_) (fun zz => absurd zz (by decide))
      exact bad (by rw [z1, z2]; rfl)
    · skip
      have zok : ((ix O.length p).isSome && wi W (nI 0) (nI 1000)) = true := by rw [z1, z2]; rfl
      rw [zok] at hret
      obtain ⟨pn, pn1, pn2, rfl⟩ : ∃ j, j < O.length ∧ j < 2 ^ 31 ∧ p = nI j := by
        cases zz : ix O.length p with
        | none => rw [zz] at z1; cases z1
        | some j => exact ⟨j, ix_some zz⟩
      obtain ⟨wn, wn1, rfl⟩ := wi_so (m := 1000) (by omega) z2
      rw [cl_n (show pn < 2 ^ 31 by omega), cl_n (show wn < 2 ^ 31 by omega)] at hret
      refine G.nif_eq 32 dX7_falls_16 rfl (by decide) (fun zz => absurd zz (by decide)) (fun _ => ?_)
      refine G.aload_n 0 rfl rfl dX7_falls_19 ?_
      refine G.bipush (v := nI 7) dX7_falls_20 (by decide +kernel) ?_
      refine G.iload_n 1 rfl rfl dX7_falls_22 ?_
      refine G.iload_n 1 rfl rfl dX7_falls_23 ?_
      refine G.iload_n 2 rfl rfl dX7_falls_24 ?_
      refine G.iconst (v := nI 0) dX7_falls_25 (by decide +kernel) ?_
      refine G.callV (n := 5) 0 (c_X7_addOperator zC hN (o := (7, pn, pn, wn, 0)) rfl (fun _ => ⟨rfl, rfl⟩) rfl rfl ⟨by show 7 ≤ 8; omega, by show wn ≤ 1000; omega, fun _ => ⟨pn1, pn1⟩, fun _ h => (by simp at h), fun h => (by simp at h)⟩) rfl (by omega) c0 rfl tb_284 tb_286 tb_0 tb_33 tb_287 (by decide +kernel) rfl ⟨(Nat.le_of_ble_eq_true rfl), (Nat.le_of_ble_eq_true rfl)⟩ ⟨rfl, rfl⟩ (Nat.le_of_ble_eq_true rfl) ⟨Nat.zero_le _, Nat.zero_le _⟩ dX7_falls_26 (fun gr5 zw hp => ?_)
      obtain ⟨rfl, hC2, hf⟩ := hp
      refine G.goto 33 dX7_falls_29 rfl ?_
      refine G.iret rfl rfl rfl dX7_falls_33 ?_
      exact hret _ _ ⟨rfl, hC2, hf⟩
theorem c_X7_first (hC : isC t ad w A I O Td jd J fc df) (hN : 132 ≤ N) (p n : Int32) :
    K l t yX7_first cX7_first 3 (some .int) (rD 3) N ad w [.ref (ad 0), .int p, .int n]
      (fun res w' => res = some (.int (if ((ix O.length p).isSome && wi n (nI 0) (nI 200)) = true then addR O else -1)) ∧ isC t ad w' A I (if ((ix O.length p).isSome && wi n (nI 0) (nI 200)) = true then addO O (8, cl p, cl p, cl n, 0) else O) Td (if ((ix O.length p).isSome && wi n (nI 0) (nI 200)) = true then addB O jd else jd) J fc (if ((ix O.length p).isSome && wi n (nI 0) (nI 200)) = true then addD O df else df) ∧ ∀ i, 132 ≤ i → w' i = w i) := by
  have zC := hC
  obtain ⟨c0, cA, cT, cOA, cP, cC, cCR, cO, cw, cd⟩ := hC
  have zn := cw.2.1
  refine K.of (own := RX7) (lv := [(0, .ref (ad 0)), (1, .int p), (2, .int n)]) (by decide +kernel) rfl (Nat.le_of_ble_eq_true rfl) rfl (fun P post hret => ?_)
  have bad : ((ix O.length p).isSome && wi n (nI 0) (nI 200)) = false → G l t (rD 3) P cX7_first 3 RX7 (some .int) post 0 0 N ad 0 0 32 [(0, .ref (ad 0)), (1, .int p), (2, .int n)] [] w := by
    intro zb
    rw [zb] at hret
    refine G.iconst (v := -1) dX7_first_32 (by decide +kernel) ?_
    refine G.iret rfl rfl rfl dX7_first_33 ?_
    exact hret _ _ ⟨rfl, by simpa using zC, fun _ _ => rfl⟩
  refine G.aload_n 0 rfl rfl dX7_first_0 ?_
  refine G.iload_n 1 rfl rfl dX7_first_1 ?_
  refine G.callV (n := 1) 0 (c_X7_isOperator c0 cOA cw.2.1 hN p) rfl (by omega) c0 rfl tb_304 tb_306 tb_2 tb_33 tb_307 (by decide +kernel) rfl ⟨(Nat.le_of_ble_eq_true rfl), (Nat.le_of_ble_eq_true rfl)⟩ ⟨rfl, rfl⟩ (Nat.le_of_ble_eq_true rfl) ⟨Nat.zero_le _, Nat.zero_le _⟩ dX7_first_2 (fun gr2 gw1 hp => ?_)
  obtain ⟨rfl, rfl⟩ := hp
  cases z1 : (ix O.length p).isSome
  · skip
    refine G.nif_eq 32 dX7_first_5 rfl (by decide) (fun _ => ?_) (fun zz => absurd zz (by decide))
    exact bad (by rw [z1]; rfl)
  · skip
    refine G.nif_eq 32 dX7_first_5 rfl (by decide) (fun zz => absurd zz (by decide)) (fun _ => ?_)
    refine G.iload_n 2 rfl rfl dX7_first_8 ?_
    refine G.iconst (v := nI 0) dX7_first_9 (by decide +kernel) ?_
    refine G.sipush (v := nI 200) dX7_first_10 (by decide +kernel) ?_
    refine G.callS (n := 3) (c_X7_within n (nI 0) (nI 200)) rfl tb_243 tb_244 tb_33 tb_245 (by decide +kernel) rfl ⟨(Nat.le_of_ble_eq_true rfl), (Nat.le_of_ble_eq_true rfl)⟩ ⟨rfl, rfl⟩ (Nat.le_of_ble_eq_true rfl) ⟨Nat.zero_le _, Nat.zero_le _⟩ dX7_first_13 (fun gr4 gw3 hp => ?_)
    obtain ⟨rfl, rfl⟩ := hp
    cases z2 : wi n (nI 0) (nI 200)
    · skip
      refine G.nif_eq 32 dX7_first_16 rfl (by decide) (fun _ => ?_) (fun zz => absurd zz (by decide))
      exact bad (by rw [z1, z2]; rfl)
    · skip
      have zok : ((ix O.length p).isSome && wi n (nI 0) (nI 200)) = true := by rw [z1, z2]; rfl
      rw [zok] at hret
      obtain ⟨pn, pn1, pn2, rfl⟩ : ∃ j, j < O.length ∧ j < 2 ^ 31 ∧ p = nI j := by
        cases zz : ix O.length p with
        | none => rw [zz] at z1; cases z1
        | some j => exact ⟨j, ix_some zz⟩
      obtain ⟨nn, nn1, rfl⟩ := wi_so (m := 200) (by omega) z2
      rw [cl_n (show pn < 2 ^ 31 by omega), cl_n (show nn < 2 ^ 31 by omega)] at hret
      refine G.nif_eq 32 dX7_first_16 rfl (by decide) (fun zz => absurd zz (by decide)) (fun _ => ?_)
      refine G.aload_n 0 rfl rfl dX7_first_19 ?_
      refine G.bipush (v := nI 8) dX7_first_20 (by decide +kernel) ?_
      refine G.iload_n 1 rfl rfl dX7_first_22 ?_
      refine G.iload_n 1 rfl rfl dX7_first_23 ?_
      refine G.iload_n 2 rfl rfl dX7_first_24 ?_
      refine G.iconst (v := nI 0) dX7_first_25 (by decide +kernel) ?_
      refine G.callV (n := 5) 0 (c_X7_addOperator zC hN (o := (8, pn, pn, nn, 0)) rfl (fun _ => ⟨rfl, rfl⟩) rfl rfl ⟨by show 8 ≤ 8; omega, by show nn ≤ 1000; omega, fun _ => ⟨pn1, pn1⟩, fun _ h => (by simp at h), fun h => (by simp at h)⟩) rfl (by omega) c0 rfl tb_284 tb_286 tb_0 tb_33 tb_287 (by decide +kernel) rfl ⟨(Nat.le_of_ble_eq_true rfl), (Nat.le_of_ble_eq_true rfl)⟩ ⟨rfl, rfl⟩ (Nat.le_of_ble_eq_true rfl) ⟨Nat.zero_le _, Nat.zero_le _⟩ dX7_first_26 (fun gr5 zw hp => ?_)
      obtain ⟨rfl, hC2, hf⟩ := hp
      refine G.goto 33 dX7_first_29 rfl ?_
      refine G.iret rfl rfl rfl dX7_first_33 ?_
      exact hret _ _ ⟨rfl, hC2, hf⟩
end TopB

