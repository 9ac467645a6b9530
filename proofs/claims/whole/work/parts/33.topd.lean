/-! OnePassJudge: judging -/
section TopD
variable {l : Launch} {t : TT} {N : Nat} {ad : Nat → Nat} {w : Nat → va_E} {A : List AR} {I : Nat → Int32} {O : List OD} {Td : Nat → List RW} {jd : Bool} {J : Nat → JR} {fc : Nat} {df : DF}
set_option maxHeartbeats 2000000 in
theorem c_X7_judgeOne {jb i : Nat} (c0 : w 0 = .inr (7, jF ad O.length fc jb)) (cA : isArr t ad w 1 A) (cT : isTab t ad w 7 I) (cOA : isOA t ad w) (cP : isPass t ad w) (cOps : isOpsP t ad w O Td (fun k => decide (k < i)) J) (hi : i < O.length) (cw : okS A O fc) (hJ : ∀ k, k < i → jOK (J k)) (hN : 132 ≤ N) :
    K l t yX7_judgeOne cX7_judgeOne 5 (some .boolean) (rD 5) N ad w [.ref (ad 0), .ref (ad (24 + 9 * i))]
      (fun res w' => res = some (.int (nI (bN (!(jOne A I O J i).1)))) ∧ w' 0 = .inr (7, jF ad O.length (fc + ((jOne A I O J i).2.2.1 + (jOne A I O J i).2.2.2)) jb) ∧ isPass t ad w' ∧ isOpsP t ad w' O Td (fun k => decide (k < i + 1)) (va_up J i (jOne A I O J i)) ∧ ∀ k, k ≠ 0 → (k < 10 ∨ 15 ≤ k) → (k < 24 ∨ 132 ≤ k) → w' k = w k) := by
  have z12 := cw.2.1
  obtain ⟨kd, p, q, a, b, u, z, x, G0, ⟨g0, g1, g2⟩, g3⟩ := cOps i (by omega)
  obtain ⟨⟨s1, s2, s3, s4⟩, -⟩ := g3 hi
  have hW := cw.2.2.2.1 i hi
  obtain ⟨o1, o2, o3, o4, o5⟩ := hW
  have hj : jOne A I O J i = jDef A I (O.getD i o0) J := rfl
  rw [hj]
  generalize hoo : O.getD i o0 = o at s1 s2 s3 s4 o1 o2 o3 o4 o5 ⊢
  obtain ⟨kn, pn, qn, an, bv⟩ := o
  dsimp only at s1 s2 s3 s4 o1 o2 o3 o4 o5
  subst s1
  subst s3
  obtain rfl := s4.symm
  generalize hjr : jDef A I (kn, pn, qn, an, bv) J = jr
  clear hj
  refine K.of (own := RX7) (lv := [(0, .ref (ad 0)), (1, .ref (ad (24 + 9 * i)))]) (by decide +kernel) rfl (Nat.le_of_ble_eq_true rfl) rfl (fun P post hret => ?_)
  have tail : ∀ (zw : Nat → va_E) (un zn xn : Nat) (G1 : List RW), un < 2 → zn < 1000 → xn < 1000 → zw 0 = .inr (7, jF ad O.length fc jb) → zw (24 + 9 * i) = .inr (2, opF ad (24 + 9 * i) (nI kn) p q (nI an) bv (nI un) (nI zn) (nI xn)) → isRows t ad zw (24 + 9 * i + 1) 200 G1 → jr = (decide (un = 1), G1, zn, xn) → isPass t ad zw → (∀ k, k ≠ 0 → (k < 10 ∨ 15 ≤ k) → (k < 24 + 9 * i ∨ 24 + 9 * i + 5 ≤ k) → zw k = w k) → G l t (rD 5) P cX7_judgeOne 5 RX7 (some .boolean) post 0 0 N ad 0 0 117 [(0, .ref (ad 0)), (1, .ref (ad (24 + 9 * i)))] [] zw := by
    intro zw un zn xn G1 hu hz hx e0 e1 e2 hjr2 hPs hf
    have z6k := cw.2.2.1
    refine G.aload_n 0 rfl rfl dX7_judgeOne_117 ?_
    refine G.dup rfl dX7_judgeOne_118 ?_
    refine G.get 0 (by omega) e0 rfl twX7 6 (by decide) tb_220 rfl rfl dX7_judgeOne_119 ?_
    refine G.aload_n 1 rfl rfl dX7_judgeOne_122 ?_
    refine G.iconst (v := nI 0) dX7_judgeOne_123 (by decide +kernel) ?_
    refine G.callV (n := 1) (24 + 9 * i) (c_X2_failuresBy (k := 24 + 9 * i) e1 (by omega) 0 (by omega)) rfl (by omega) e1 rfl tb_480 tb_481 tb_482 tb_41 tb_483 (by decide +kernel) rfl ⟨(Nat.le_of_ble_eq_true rfl), (Nat.le_of_ble_eq_true rfl)⟩ ⟨rfl, rfl⟩ (Nat.le_of_ble_eq_true rfl) ⟨Nat.zero_le _, Nat.zero_le _⟩ dX7_judgeOne_124 (fun gr2 gw1 hp => ?_)
    obtain ⟨rfl, rfl⟩ := hp
    refine G.aload_n 1 rfl rfl dX7_judgeOne_127 ?_
    refine G.iconst (v := nI 1) dX7_judgeOne_128 (by decide +kernel) ?_
    refine G.callV (n := 1) (24 + 9 * i) (c_X2_failuresBy (k := 24 + 9 * i) e1 (by omega) 1 (by omega)) rfl (by omega) e1 rfl tb_480 tb_481 tb_482 tb_41 tb_483 (by decide +kernel) rfl ⟨(Nat.le_of_ble_eq_true rfl), (Nat.le_of_ble_eq_true rfl)⟩ ⟨rfl, rfl⟩ (Nat.le_of_ble_eq_true rfl) ⟨Nat.zero_le _, Nat.zero_le _⟩ dX7_judgeOne_129 (fun gr4 gw3 hp => ?_)
    obtain ⟨rfl, rfl⟩ := hp
    refine G.iadd dX7_judgeOne_132 ?_
    refine G.topi (nI (zn + xn)) (nI_add zn xn) ?_
    refine G.iadd dX7_judgeOne_133 ?_
    refine G.topi (nI (fc + (zn + xn))) (nI_add fc ((zn + xn))) ?_
    refine G.put 0 (by omega) e0 rfl twX7 6 (by decide) tyX7 tyX7_ok nmX7 tb_220 rfl rfl (tyX7_ok 6 (by decide)) rfl rfl (Nat.le_of_ble_eq_true rfl) dX7_judgeOne_134 (fun gw5 gh6 gf7 => ?_)
    refine G.aload_n 1 rfl rfl dX7_judgeOne_137 ?_
    have e3 := gh6
    have gh8 := (gf7 (24 + 9 * i) (by omega)).trans e1
    have e4 := gh8
    have hfr : ∀ i, i ≠ 0 → gw5 i = zw i := fun i hi => gf7 i (by omega)
    have fin : ∀ r, r = nI (bN (!jr.1)) → post (some (.int r)) N ad gw5 := fun r hr => by
      subst hr
      refine hret _ _ ⟨rfl, by rw [hjr2]; exact e3, hPs.keep (fun k k1 k2 => hfr k (by omega)), fun k hk => ?_, fun k k1 k2 k3 => (hfr k k1).trans (hf k k1 k2 (by omega))⟩
      by_cases hki : k = i
      · subst hki
        refine ⟨_, _, _, _, _, _, _, _, G1, ⟨e4, e2.keep (fun j j1 j2 => hfr j (by omega)), g2.keep (fun j j1 j2 => (hfr j (by omega)).trans (hf j (by omega) (by omega) (by omega)))⟩, fun hk2 => ⟨⟨by rw [hoo], fun h => by rw [hoo] at h ⊢; exact s2 h, by rw [hoo], by rw [hoo]⟩, fun _ => ?_⟩⟩
        rw [va_up_self, hjr2]
        refine ⟨?_, rfl, rfl, rfl⟩
        rcases (show un = 0 ∨ un = 1 by omega) with rfl | rfl
        · rfl
        · rfl
      · obtain ⟨kd', p', q', a', b', u', z', x', G', y1, y2⟩ := cOps k hk
        refine ⟨kd', p', q', a', b', u', z', x', G', y1.keep (fun j j1 j2 => (hfr j (by omega)).trans (hf j (by omega) (by omega) (by omega))), fun hk2 => ⟨(y2 hk2).1, fun hk3 => ?_⟩⟩
        rw [va_up_ne _ _ hki]
        refine (y2 hk2).2 ?_
        simp only [decide_eq_true_eq] at hk3 ⊢
        omega
    refine G.getN (24 + 9 * i) (by omega) gh8 rfl twX2 7 (by decide) _ (List.mem_of_getElem? (i := 10) rfl) rfl rfl rfl dX7_judgeOne_138 ?_
    refine G.nif_ne 148 dX7_judgeOne_141 rfl (by omega) (fun c141 => ?_) (fun c141 => ?_)
    · skip
      refine G.iconst (v := nI 0) dX7_judgeOne_148 (by decide +kernel) ?_
      refine G.zret rfl (by decide) rfl rfl dX7_judgeOne_149 ?_
      exact fin _ (by rw [hjr2, show un = 1 by omega]; rfl)
    · skip
      refine G.iconst (v := nI 1) dX7_judgeOne_144 (by decide +kernel) ?_
      refine G.goto 149 dX7_judgeOne_145 rfl ?_
      refine G.zret rfl (by decide) rfl rfl dX7_judgeOne_149 ?_
      exact fin _ (by rw [hjr2, c141]; rfl)
  refine G.aload_n 1 rfl rfl dX7_judgeOne_0 ?_
  refine G.callV (n := 0) (24 + 9 * i) (c_X2_startAgain (k := 24 + 9 * i) g0 g1 (by omega)) rfl (by omega) g0 rfl tb_348 tb_349 tb_350 tb_41 tb_351 (by decide +kernel) rfl ⟨(Nat.le_of_ble_eq_true rfl), (Nat.le_of_ble_eq_true rfl)⟩ ⟨rfl, rfl⟩ (Nat.le_of_ble_eq_true rfl) ⟨Nat.zero_le _, Nat.zero_le _⟩ dX7_judgeOne_1 (fun gr9 zw1 hp => ?_)
  obtain ⟨rfl, e1, e2, hf1⟩ := hp
  have cA1 : isArr t ad zw1 1 A := cA.keep (fun k k1 k2 => hf1 k (by omega))
  have cT1 : isTab t ad zw1 7 I := cT.keep (fun k k1 k2 => hf1 k (by omega))
  have cOA1 : isOA t ad zw1 := cOA.keep (hf1 9 (by omega))
  have cP1 : isPass t ad zw1 := cP.keep (fun k k1 k2 => hf1 k (by omega))
  have gh10 := (hf1 0 (by omega)).trans c0
  have d0 := gh10
  refine G.aload_n 1 rfl rfl dX7_judgeOne_4 ?_
  refine G.getN (24 + 9 * i) (by omega) e1 rfl twX2 2 (by decide) _ (List.mem_of_getElem? (i := 4) rfl) rfl rfl rfl dX7_judgeOne_5 ?_
  refine G.nif_ne 33 dX7_judgeOne_8 rfl (by omega) (fun c8 => ?_) (fun c8 => ?_)
  · skip
    obtain ⟨rfl, rfl⟩ := s2 c8
    obtain ⟨pni, qni⟩ := o3 c8
    obtain ⟨kp, pp, qp, ap, bp, up, zp, xp, Gp, ⟨p0, p1, p2⟩, p3⟩ := cOps pn (by omega)
    obtain ⟨-, p4⟩ := p3 (by omega)
    obtain ⟨p5, p6, -, -⟩ := p4 (by simpa using pni)
    obtain ⟨kq, pq, qq, aq, bq, uq, zq, xq, Gq, ⟨q0, q1, q2⟩, q3⟩ := cOps qn (by omega)
    obtain ⟨-, q4⟩ := q3 (by omega)
    obtain ⟨q5, q6, -, -⟩ := q4 (by simpa using qni)
    subst p6 q6
    have p0' := (hf1 _ (by omega)).trans p0
    have q0' := (hf1 _ (by omega)).trans q0
    have p1' : isRows t ad zw1 (24 + 9 * pn + 1) 200 (J pn).2.1 := p1.keep (fun k k1 k2 => hf1 k (by omega))
    have q1' : isRows t ad zw1 (24 + 9 * qn + 1) 200 (J qn).2.1 := q1.keep (fun k k1 k2 => hf1 k (by omega))
    have zpl := p1.le
    refine G.aload_n 0 rfl rfl dX7_judgeOne_33 ?_
    refine G.aload_n 1 rfl rfl dX7_judgeOne_34 ?_
    refine G.getN (24 + 9 * i) (by omega) e1 rfl twX2 3 (by decide) _ (List.mem_of_getElem? (i := 5) rfl) rfl rfl rfl dX7_judgeOne_35 ?_
    refine G.callV (n := 1) 0 (c_X7_operatorAt d0 cOA1 (by omega) hN (nI pn)) rfl (by omega) gh10 rfl tb_308 tb_310 tb_3 tb_33 tb_311 (by decide +kernel) rfl ⟨(Nat.le_of_ble_eq_true rfl), (Nat.le_of_ble_eq_true rfl)⟩ ⟨rfl, rfl⟩ (Nat.le_of_ble_eq_true rfl) ⟨Nat.zero_le _, Nat.zero_le _⟩ dX7_judgeOne_38 (fun gr12 gw11 hp => ?_)
    obtain ⟨rfl, zc⟩ := hp
    rcases zc with ⟨j, zj, rfl⟩ | ⟨zj, -⟩
    rotate_left
    · rw [ix_n (by omega), if_pos (by omega)] at zj; cases zj
    obtain rfl : pn = j := by rw [ix_n (by omega), if_pos (by omega)] at zj; cases zj; rfl
    refine G.astore_n [(2, .ref (ad (24 + 9 * pn))), (0, .ref (ad 0)), (1, .ref (ad (24 + 9 * i)))] dX7_judgeOne_41 rfl (by decide) rfl ?_
    refine G.aload_n 1 rfl rfl dX7_judgeOne_42 ?_
    refine G.aload_n 2 rfl rfl dX7_judgeOne_43 ?_
    refine G.getN (24 + 9 * i) (by omega) e1 rfl twX2 4 (by decide) _ (List.mem_of_getElem? (i := 6) rfl) rfl rfl rfl dX7_judgeOne_44 ?_
    refine G.callV (n := 1) 0 (c_X7_operatorAt d0 cOA1 (by omega) hN (nI qn)) rfl (by omega) gh10 rfl tb_308 tb_310 tb_3 tb_33 tb_311 (by decide +kernel) rfl ⟨(Nat.le_of_ble_eq_true rfl), (Nat.le_of_ble_eq_true rfl)⟩ ⟨rfl, rfl⟩ (Nat.le_of_ble_eq_true rfl) ⟨Nat.zero_le _, Nat.zero_le _⟩ dX7_judgeOne_47 (fun gr14 gw13 hp => ?_)
    obtain ⟨rfl, zc⟩ := hp
    rcases zc with ⟨j, zj2, rfl⟩ | ⟨zj2, -⟩
    rotate_left
    · rw [ix_n (by omega), if_pos (by omega)] at zj2; cases zj2
    obtain rfl : qn = j := by rw [ix_n (by omega), if_pos (by omega)] at zj2; cases zj2; rfl
    refine G.astore_n [(3, .ref (ad (24 + 9 * qn))), (2, .ref (ad (24 + 9 * pn))), (0, .ref (ad 0)), (1, .ref (ad (24 + 9 * i)))] dX7_judgeOne_50 rfl (by decide) rfl ?_
    refine G.pick [2, 3, 1, 0] [(0, .ref (ad 0)), (1, .ref (ad (24 + 9 * i))), (2, .ref (ad (24 + 9 * pn))), (3, .ref (ad (24 + 9 * qn)))] rfl ?_
    have bad : ((J pn).1 = true ∨ (J qn).1 = true) → G l t (rD 5) P cX7_judgeOne 5 RX7 (some .boolean) post 0 0 N ad 0 0 77 [(0, .ref (ad 0)), (1, .ref (ad (24 + 9 * i))), (2, .ref (ad (24 + 9 * pn))), (3, .ref (ad (24 + 9 * qn)))] [] zw1 := by
      intro hb
      have hjr3 : jr = (true, [], 0, 0) := by rw [← hjr, jDef, if_neg (by show ¬ kn = 0; omega), if_pos hb]
      refine G.iconst (v := nI 0) dX7_judgeOne_77 (by decide +kernel) ?_
      refine G.istore [(4, .int (nI 0)), (0, .ref (ad 0)), (1, .ref (ad (24 + 9 * i))), (2, .ref (ad (24 + 9 * pn))), (3, .ref (ad (24 + 9 * qn)))] dX7_judgeOne_78 (by decide) rfl ?_
      refine G.aload_n 2 rfl rfl dX7_judgeOne_80 ?_
      refine G.iload 0 rfl dX7_judgeOne_81 ?_
      refine G.nif_eq 113 dX7_judgeOne_83 rfl (by decide) (fun _ => ?_) (fun zz => absurd zz (by decide))
      refine G.iconst (v := nI 0) dX7_judgeOne_113 (by decide +kernel) ?_
      refine G.callV (n := 1) (24 + 9 * i) (c_X2_end (k := 24 + 9 * i) e1 e2 (by omega) (nI 0)) rfl (by omega) e1 rfl tb_365 tb_366 tb_367 tb_41 tb_368 (by decide +kernel) rfl ⟨(Nat.le_of_ble_eq_true rfl), (Nat.le_of_ble_eq_true rfl)⟩ ⟨rfl, rfl⟩ (Nat.le_of_ble_eq_true rfl) ⟨Nat.zero_le _, Nat.zero_le _⟩ dX7_judgeOne_114 (fun gr15 zw2 hp => ?_)
      obtain ⟨rfl, e3, e4, hf2⟩ := hp
      refine G.pick [1, 2] [(0, .ref (ad 0)), (1, .ref (ad (24 + 9 * i)))] rfl ?_
      rw [if_pos nI_0] at e3 e4
      exact tail zw2 1 0 0 [] (by omega) (by omega) (by omega) ((hf2 0 (by omega)).trans d0) e3 e4 hjr3 (cP1.keep (fun k k1 k2 => hf2 k (by omega))) (fun k k1 k2 k3 => (hf2 k (by omega)).trans (hf1 k (by omega)))
    refine G.aload_n 2 rfl rfl dX7_judgeOne_51 ?_
    refine G.ifnull dX7_judgeOne_52 ?_
    refine G.aload_n 3 rfl rfl dX7_judgeOne_55 ?_
    refine G.ifnull dX7_judgeOne_56 ?_
    refine G.aload_n 2 rfl rfl dX7_judgeOne_59 ?_
    refine G.getN (24 + 9 * pn) (by omega) p0' rfl twX2 7 (by decide) _ (List.mem_of_getElem? (i := 10) rfl) rfl rfl rfl dX7_judgeOne_60 ?_
    refine G.if_ne 77 dX7_judgeOne_63 rfl (fun c63 => ?_) (fun c63 => ?_)
    · skip
      refine bad (Or.inl ?_)
      cases hb : (J pn).1 with
      | true => rfl
      | false => rw [hb, if_neg (by decide)] at p5; rw [p5] at c63; exact absurd nI_0 c63
    · skip
      have hb1 : (J pn).1 = false := by
        cases hb : (J pn).1 with
        | false => rfl
        | true => rw [hb, if_pos rfl] at p5; rw [p5] at c63; exact absurd c63 (by decide)
      refine G.aload_n 3 rfl rfl dX7_judgeOne_66 ?_
      refine G.getN (24 + 9 * qn) (by omega) q0' rfl twX2 7 (by decide) _ (List.mem_of_getElem? (i := 10) rfl) rfl rfl rfl dX7_judgeOne_67 ?_
      refine G.if_ne 77 dX7_judgeOne_70 rfl (fun c70 => ?_) (fun c70 => ?_)
      · skip
        refine bad (Or.inr ?_)
        cases hb : (J qn).1 with
        | true => rfl
        | false => rw [hb, if_neg (by decide)] at q5; rw [q5] at c70; exact absurd nI_0 c70
      · skip
        have hb2 : (J qn).1 = false := by
          cases hb : (J qn).1 with
          | false => rfl
          | true => rw [hb, if_pos rfl] at q5; rw [q5] at c70; exact absurd c70 (by decide)
        obtain ⟨s0, ⟨C9, R9, s1⟩, S9, s3⟩ := id cP1
        refine G.iconst (v := nI 1) dX7_judgeOne_73 (by decide +kernel) ?_
        refine G.goto 78 dX7_judgeOne_74 rfl ?_
        refine G.istore [(4, .int (nI 1)), (0, .ref (ad 0)), (1, .ref (ad (24 + 9 * i))), (2, .ref (ad (24 + 9 * pn))), (3, .ref (ad (24 + 9 * qn)))] dX7_judgeOne_78 (by decide) rfl ?_
        refine G.aload_n 2 rfl rfl dX7_judgeOne_80 ?_
        refine G.iload 0 rfl dX7_judgeOne_81 ?_
        refine G.nif_eq 113 dX7_judgeOne_83 rfl (by decide) (fun zz => absurd zz (by decide)) (fun _ => ?_)
        refine G.aload_n 1 rfl rfl dX7_judgeOne_86 ?_
        refine G.get 0 (by omega) gh10 rfl twX7 3 (by decide) tb_217 rfl rfl dX7_judgeOne_87 ?_
        refine G.aload_n 2 rfl rfl dX7_judgeOne_90 ?_
        refine G.aload_n 3 rfl rfl dX7_judgeOne_91 ?_
        refine G.getN (24 + 9 * pn) (by omega) p0' rfl twX2 0 (by decide) _ (List.mem_of_getElem? (i := 1) rfl) rfl rfl rfl dX7_judgeOne_92 ?_
        refine G.aload_n 4 rfl rfl dX7_judgeOne_95 ?_
        refine G.getN (24 + 9 * qn) (by omega) q0' rfl twX2 0 (by decide) _ (List.mem_of_getElem? (i := 1) rfl) rfl rfl rfl dX7_judgeOne_96 ?_
        refine G.aload_n 1 rfl rfl dX7_judgeOne_99 ?_
        refine G.get 0 (by omega) gh10 rfl twX7 1 (by decide) tb_215 rfl rfl dX7_judgeOne_100 ?_
        refine G.callV (n := 4) 10 (c_X3_giveFrom (kp := 10) (k := 24 + 9 * i) (kt := 7) s0 s1 s3 e1 e2 p1' q1' cT1 (by omega) (by omega) (by omega) (by omega) (by omega) (by omega) (by omega) (by omega) (by omega) (hJ pn pni).1 (hJ qn qni).1 (hJ pn pni).2 (hJ qn qni).2 c8 o1 o2 (o4 c8) o5) rfl (by omega) s0 rfl tb_369 tb_370 tb_371 tb_36 tb_372 (by decide +kernel) rfl ⟨(Nat.le_of_ble_eq_true rfl), (Nat.le_of_ble_eq_true rfl)⟩ ⟨rfl, rfl⟩ (Nat.le_of_ble_eq_true rfl) ⟨Nat.zero_le _, Nat.zero_le _⟩ dX7_judgeOne_103 (fun gr16 zw2 hp => ?_)
        obtain ⟨L', h1, rfl, h2, h3, h4, h5, hf2⟩ := hp
        have d2 : zw2 0 = .inr (7, jF ad O.length fc jb) := (hf2 0 (by omega) (by omega)).trans d0
        have cP2 : isPass t ad zw2 := ⟨(hf2 10 (by omega) (by omega)).trans s0, h4, h5⟩
        by_cases zl : (gv I kn an bv (J pn).2.1 (J qn).2.1).length ≤ 200
        · skip
          rw [if_pos zl]
          have hjr3 : jr = (false, gv I kn an bv (J pn).2.1 (J qn).2.1, (if kn ≤ 3 then failN 0 an bv (J pn).2.1 else 0), (if kn ≤ 3 then failN 1 an bv (J pn).2.1 else 0)) := by
            rw [← hjr, jDef, if_neg (by show ¬ kn = 0; omega), if_neg (by rintro (q | q); exact absurd q (by rw [hb1]; decide); exact absurd q (by rw [hb2]; decide)), if_pos zl]
          have hb3 : ∀ k, (if kn ≤ 3 then failN k an bv (J pn).2.1 else 0) < 1000 := fun k => by
            split
            · have := failN_le k an bv (J pn).2.1; omega
            · omega
          rw [h2 zl] at h1
          refine G.if_eq 113 dX7_judgeOne_106 rfl (fun c106 => ?_) (fun c106 => ?_)
          · skip
            exact absurd c106 (by decide)
          · skip
            refine G.iconst (v := nI 1) dX7_judgeOne_109 (by decide +kernel) ?_
            refine G.goto 114 dX7_judgeOne_110 rfl ?_
            refine G.callV (n := 1) (24 + 9 * i) (c_X2_end (k := 24 + 9 * i) h3 h1 (by omega) (nI 1)) rfl (by omega) h3 rfl tb_365 tb_366 tb_367 tb_41 tb_368 (by decide +kernel) rfl ⟨(Nat.le_of_ble_eq_true rfl), (Nat.le_of_ble_eq_true rfl)⟩ ⟨rfl, rfl⟩ (Nat.le_of_ble_eq_true rfl) ⟨Nat.zero_le _, Nat.zero_le _⟩ dX7_judgeOne_114 (fun gr17 zw3 hp => ?_)
            obtain ⟨rfl, e3, e4, hf3⟩ := hp
            refine G.pick [1, 2] [(0, .ref (ad 0)), (1, .ref (ad (24 + 9 * i)))] rfl ?_
            rw [if_neg (by decide)] at e3 e4
            exact tail zw3 0 _ _ _ (by omega) (hb3 0) (hb3 1) ((hf3 0 (by omega)).trans d2) e3 e4 hjr3 (cP2.keep (fun k k1 k2 => hf3 k (by omega))) (fun k k1 k2 k3 => (hf3 k (by omega)).trans ((hf2 k (by omega) (by omega)).trans (hf1 k (by omega))))
        · skip
          rw [if_neg zl]
          have hk3 : ¬ kn ≤ 3 := fun q => zl (each_200 q zpl)
          rw [if_neg hk3, if_neg hk3] at h3
          have hjr3 : jr = (true, [], 0, 0) := by
            rw [← hjr, jDef, if_neg (by show ¬ kn = 0; omega), if_neg (by rintro (q | q); exact absurd q (by rw [hb1]; decide); exact absurd q (by rw [hb2]; decide)), if_neg zl]
          refine G.if_eq 113 dX7_judgeOne_106 rfl (fun c106 => ?_) (fun c106 => ?_)
          · skip
            refine G.iconst (v := nI 0) dX7_judgeOne_113 (by decide +kernel) ?_
            refine G.callV (n := 1) (24 + 9 * i) (c_X2_end (k := 24 + 9 * i) h3 h1 (by omega) (nI 0)) rfl (by omega) h3 rfl tb_365 tb_366 tb_367 tb_41 tb_368 (by decide +kernel) rfl ⟨(Nat.le_of_ble_eq_true rfl), (Nat.le_of_ble_eq_true rfl)⟩ ⟨rfl, rfl⟩ (Nat.le_of_ble_eq_true rfl) ⟨Nat.zero_le _, Nat.zero_le _⟩ dX7_judgeOne_114 (fun gr18 zw3 hp => ?_)
            obtain ⟨rfl, e3, e4, hf3⟩ := hp
            refine G.pick [1, 2] [(0, .ref (ad 0)), (1, .ref (ad (24 + 9 * i)))] rfl ?_
            rw [if_pos nI_0] at e3 e4
            exact tail zw3 1 0 0 [] (by omega) (by omega) (by omega) ((hf3 0 (by omega)).trans d2) e3 e4 hjr3 (cP2.keep (fun k k1 k2 => hf3 k (by omega))) (fun k k1 k2 k3 => (hf3 k (by omega)).trans ((hf2 k (by omega) (by omega)).trans (hf1 k (by omega))))
          · skip
            exact absurd rfl c106
  · skip
    subst c8
    refine G.aload_n 1 rfl rfl dX7_judgeOne_11 ?_
    refine G.aload_n 0 rfl rfl dX7_judgeOne_12 ?_
    refine G.get 0 (by omega) gh10 rfl twX7 0 (by decide) tb_214 rfl rfl dX7_judgeOne_13 ?_
    refine G.aload_n 1 rfl rfl dX7_judgeOne_16 ?_
    refine G.getN (24 + 9 * i) (by omega) e1 rfl twX2 5 (by decide) _ (List.mem_of_getElem? (i := 8) rfl) rfl rfl rfl dX7_judgeOne_17 ?_
    refine G.aload_n 1 rfl rfl dX7_judgeOne_20 ?_
    refine G.getN (24 + 9 * i) (by omega) e1 rfl twX2 0 (by decide) _ (List.mem_of_getElem? (i := 1) rfl) rfl rfl rfl dX7_judgeOne_21 ?_
    refine G.callV (n := 2) 1 (c_X0_giveInTime (k := 1) (r := 24 + 9 * i + 1) cA1 e2 (by omega) (by omega) (by omega) (by decide) (by decide) (nI an)) rfl (by omega) cA1.obj.1 rfl tb_353 tb_354 tb_355 tb_34 tb_356 (by decide +kernel) rfl ⟨(Nat.le_of_ble_eq_true rfl), (Nat.le_of_ble_eq_true rfl)⟩ ⟨rfl, rfl⟩ (Nat.le_of_ble_eq_true rfl) ⟨Nat.zero_le _, Nat.zero_le _⟩ dX7_judgeOne_24 (fun gr19 zw2 hp => ?_)
    obtain ⟨rfl, h1, hf2⟩ := hp
    have gh20 := (hf2 (24 + 9 * i) (by omega)).trans e1
    have e3 := gh20
    refine G.callV (n := 1) (24 + 9 * i) (c_X2_end (k := 24 + 9 * i) e3 h1 (by omega) 1) rfl (by omega) gh20 rfl tb_365 tb_366 tb_367 tb_41 tb_368 (by decide +kernel) rfl ⟨(Nat.le_of_ble_eq_true rfl), (Nat.le_of_ble_eq_true rfl)⟩ ⟨rfl, rfl⟩ (Nat.le_of_ble_eq_true rfl) ⟨Nat.zero_le _, Nat.zero_le _⟩ dX7_judgeOne_27 (fun gr21 zw3 hp => ?_)
    obtain ⟨rfl, e4, e5, hf3⟩ := hp
    refine G.goto 117 dX7_judgeOne_30 rfl ?_
    refine G.pick [0, 1] [(0, .ref (ad 0)), (1, .ref (ad (24 + 9 * i)))] rfl ?_
    rw [if_neg (by decide)] at e4 e5
    exact tail zw3 0 0 0 _ (by omega) (by omega) (by omega) ((hf3 0 (by omega)).trans ((hf2 0 (by omega)).trans d0)) e4 e5 (by rw [← hjr, jDef, if_pos rfl]; rfl) (cP1.keep (fun k k1 k2 => (hf3 k (by omega)).trans (hf2 k (by omega)))) (fun k k1 k2 k3 => (hf3 k (by omega)).trans ((hf2 k (by omega)).trans (hf1 k (by omega))))
end TopD

