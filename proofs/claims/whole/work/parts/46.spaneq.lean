/-! spans: the two ways give one list -/
def spV (B size : Nat) (s : SP) (D : List RW) : Prop := spK B size s ∧ (∀ z, z ∈ spE size s ↔ z ∈ D) ∧ D.Pairwise (fun a b => ¬ (a.1 = b.1 ∧ a.2.1 = b.2.1)) ∧ s.2.2.2.Pairwise ltK
theorem nI_inj {a b : Nat} (ha : a < 2 ^ 31) (hb : b < 2 ^ 31) (h : nI a = nI b) : a = b := by
  have := congrArg Int32.toInt h
  rw [nI_toInt ha, nI_toInt hb] at this
  omega
theorem clo_ss {C : Nat → Nat} {R : Nat → Int64} {tm : Int32} : (clo C R tm 6).Pairwise ltK := by
  unfold clo
  rw [List.pairwise_flatMap]
  refine ⟨fun a ha => ?_, ?_⟩
  · split
    · exact List.pairwise_singleton _ _
    · exact List.Pairwise.nil
  · refine List.Pairwise.imp_of_mem ?_ List.pairwise_lt_range
    intro a b ha hb hab x hx y hy
    have ha2 := List.mem_range.mp ha
    have hb2 := List.mem_range.mp hb
    split at hx
    · split at hy
      · rw [List.mem_singleton] at hx hy
        subst hx hy
        refine Or.inr ⟨rfl, ?_⟩
        show (nI a).toNatClampNeg < (nI b).toNatClampNeg
        rw [nI_clamp (by omega), nI_clamp (by omega)]; exact hab
      · cases hy
    · cases hx
theorem clo_empty {C : Nat → Nat} {R : Nat → Int64} {tm : Int32} (h : C = fun _ => 0) : clo C R tm 6 = [] := by rw [h]; exact clo_zero R tm 6
theorem spE_ss {B size : Nat} {s : SP} (hB : B + 1000 ≤ 100000) (h1 : 1 ≤ size) (h2 : size ≤ 1000) (h : spK B size s) (hp : s.2.2.2.Pairwise ltK) : (spE size s).Pairwise ltK := by
  obtain ⟨k1, k2, k3, k4⟩ := h
  unfold spE
  rcases k4 with ⟨k5, k6⟩ | ⟨k5, k6⟩
  · rw [clo_empty k6, List.append_nil]; exact hp
  · rw [List.pairwise_append]
    refine ⟨hp, clo_ss, fun a ha b hb => ?_⟩
    obtain ⟨k, hk, hc, rfl⟩ := clo_mem hb
    have h3 := k3 a ha
    have hsz : size ≤ s.1 * size := by
      have := Nat.mul_le_mul_right size k5; omega
    have hub : s.1 * size < B + size := by
      have e : s.1 = (s.1 - 1) + 1 := by omega
      rw [e, Nat.succ_mul]; omega
    refine Or.inl ?_
    show tN a < (nI (s.1 * size) - 1).toNatClampNeg
    rw [clo_time (by omega), nI_clamp (by omega)]
    omega
theorem sp_step {B size how : Nat} {s : SP} {D : List RW} {x : RW} (hB : B + 1000 ≤ 100000) (h1 : 1 ≤ size) (h2 : size ≤ 1000) (h : spV B size s D) (hx : okB B x) (hle : s.1 ≤ tN x / size + 1) : spV B size (spF size how s x) (spR size how D x) := by
  obtain ⟨hK, hm, hd, hp⟩ := h
  obtain ⟨hK2, -⟩ := spF_ok (how := how) hB h1 h2 hK hx hle
  obtain ⟨x1, x2, x3, x4⟩ := okB_n hx (by omega)
  obtain ⟨q1, q2, q3⟩ := spE_ok hB h1 h2 hK
  have hE := spE_ss hB h1 h2 hK hp
  have hla := lastT_n hx (by omega) h1 h2
  have hdm : tN x / size * size ≤ tN x := Nat.div_mul_le_self _ _
  refine ⟨hK2, fun z => ?_, spS_ds hd, ?_⟩
  · unfold spR
    rw [spS_mem hd, hla]
    by_cases hc : tN x / size + 1 = s.1
    · obtain ⟨k1, k2, k3, k4⟩ := id hK
      have hs1 : 1 ≤ s.1 := by rw [← hc]; exact Nat.succ_pos _
      have hsz : size ≤ s.1 * size := by
        have := Nat.mul_le_mul_right size hs1; omega
      have hub : s.1 * size ≤ tN x + size := by rw [← hc, Nat.succ_mul]; omega
      have hE2 : spE size (spF size how s x) = s.2.2.2 ++ clo (va_up s.2.1 (kN x) (s.2.1 (kN x) + 1)) (va_up s.2.2.1 (kN x) (if s.2.1 (kN x) = 0 then sStart how x.2.2 else sNext how (s.2.2.1 (kN x)) x.2.2)) (nI (s.1 * size) - 1) 6 := by
        unfold spE spF
        simp only [hc, if_true]
      have hE1 : ∀ r, r ∈ D ↔ r ∈ s.2.2.2 ∨ r ∈ clo s.2.1 s.2.2.1 (nI (s.1 * size) - 1) 6 := fun r => by
        rw [← hm r]; unfold spE; exact List.mem_append
      have hg : ∀ r ∈ s.2.2.2, ¬ r.1 = nI (s.1 * size) - 1 := fun r hr q => by
        have h3 := k3 r hr
        obtain ⟨b1, b2, -, -⟩ := okB_n (k1 r hr) hB
        rw [clo_time (by omega), b1] at q
        have := nI_inj (by omega) (by omega) q
        omega
      rw [hc, hE2, List.mem_append]
      generalize htm : nI (s.1 * size) - 1 = tm at hE1 hg ⊢
      have hmat : ∀ r ∈ D, (r.1 = tm ∧ r.2.1 = x.2.1) → 0 < s.2.1 (kN x) ∧ r = (tm, x.2.1, s.2.2.1 (kN x)) := fun r hr hrm => by
        rcases (hE1 r).mp hr with e | e
        · exact absurd hrm.1 (hg r e)
        · obtain ⟨j, hj, hcj, rfl⟩ := clo_mem e
          have : j = kN x := by
            have h9 := hrm.2
            rw [x3] at h9
            exact nI_inj (by omega) (by omega) h9
          subst this
          exact ⟨hcj, by rw [← hrm.2]⟩
      constructor
      · rintro (e | e)
        · exact Or.inl ⟨(hE1 z).mpr (Or.inl e), fun q => hg z e q.1⟩
        · obtain ⟨j, hj, hcj, rfl⟩ := clo_mem e
          by_cases hjk : j = kN x
          · subst hjk
            rw [va_up_self]
            by_cases h0 : s.2.1 (kN x) = 0
            · refine Or.inr (Or.inr ⟨fun r hr hrm => ?_, ?_⟩)
              · have := (hmat r hr hrm).1; omega
              · rw [if_pos h0, ← x3]
            · refine Or.inr (Or.inl ⟨(tm, nI (kN x), s.2.2.1 (kN x)), (hE1 _).mpr (Or.inr (clo_memI hj (by omega))), ⟨rfl, x3.symm⟩, ?_⟩)
              rw [if_neg h0, ← x3]
          · rw [va_up_ne _ _ hjk] at hcj
            rw [va_up_ne _ _ hjk]
            refine Or.inl ⟨(hE1 _).mpr (Or.inr (clo_memI hj hcj)), fun q => hjk ?_⟩
            have h9 : nI j = x.2.1 := q.2
            rw [x3] at h9
            exact nI_inj (by omega) (by omega) h9
      · rintro (⟨e1, e2⟩ | ⟨r, hr, hrm, e⟩ | ⟨hno, e⟩)
        · rcases (hE1 z).mp e1 with e | e
          · exact Or.inl e
          · obtain ⟨j, hj, hcj, rfl⟩ := clo_mem e
            have hjk : ¬ j = kN x := fun q => e2 ⟨rfl, by rw [q]; exact x3.symm⟩
            refine Or.inr ?_
            have h9 := clo_memI (C := va_up s.2.1 (kN x) (s.2.1 (kN x) + 1)) (R := va_up s.2.2.1 (kN x) (if s.2.1 (kN x) = 0 then sStart how x.2.2 else sNext how (s.2.2.1 (kN x)) x.2.2)) (tm := tm) hj (by rw [va_up_ne _ _ hjk]; exact hcj)
            rw [va_up_ne _ _ hjk] at h9
            exact h9
        · obtain ⟨h8, rfl⟩ := hmat r hr hrm
          refine Or.inr ?_
          have h9 := clo_memI (C := va_up s.2.1 (kN x) (s.2.1 (kN x) + 1)) (R := va_up s.2.2.1 (kN x) (if s.2.1 (kN x) = 0 then sStart how x.2.2 else sNext how (s.2.2.1 (kN x)) x.2.2)) (tm := tm) x4 (by rw [va_up_self]; omega)
          have hv : va_up s.2.2.1 (kN x) (if s.2.1 (kN x) = 0 then sStart how x.2.2 else sNext how (s.2.2.1 (kN x)) x.2.2) (kN x) = sNext how (s.2.2.1 (kN x)) x.2.2 := by rw [va_up_self, if_neg (by omega)]
          rw [hv, ← x3] at h9
          rw [e]; exact h9
        · have h0 : s.2.1 (kN x) = 0 := by
            rcases Nat.eq_zero_or_pos (s.2.1 (kN x)) with q | q
            · exact q
            · exact absurd ⟨rfl, x3.symm⟩ (hno (tm, nI (kN x), s.2.2.1 (kN x)) ((hE1 _).mpr (Or.inr (clo_memI x4 q))))
          refine Or.inr ?_
          have h9 := clo_memI (C := va_up s.2.1 (kN x) (s.2.1 (kN x) + 1)) (R := va_up s.2.2.1 (kN x) (if s.2.1 (kN x) = 0 then sStart how x.2.2 else sNext how (s.2.2.1 (kN x)) x.2.2)) (tm := tm) x4 (by rw [va_up_self]; omega)
          have hv : va_up s.2.2.1 (kN x) (if s.2.1 (kN x) = 0 then sStart how x.2.2 else sNext how (s.2.2.1 (kN x)) x.2.2) (kN x) = sStart how x.2.2 := by rw [va_up_self, if_pos h0]
          rw [hv, ← x3] at h9
          rw [e]; exact h9
    · have hE2 : spE size (spF size how s x) = spE size s ++ clo (va_up (fun _ => 0) (kN x) 1) (va_up (fun _ => 0) (kN x) (sStart how x.2.2)) (nI ((tN x / size + 1) * size) - 1) 6 := by
        unfold spE spF
        simp only [hc, if_false]
        rfl
      have hsl : s.1 * size ≤ tN x / size * size := Nat.mul_le_mul_right _ (by omega)
      have hno : ∀ r ∈ D, ¬ (r.1 = nI ((tN x / size + 1) * size) - 1 ∧ r.2.1 = x.2.1) := fun r hr q => by
        have h3 := q3 r ((hm r).mpr hr)
        obtain ⟨b1, b2, -, -⟩ := okB_n (q1 r ((hm r).mpr hr)) hB
        have h9 := q.1
        rw [clo_time (by rw [Nat.succ_mul]; omega), b1] at h9
        rw [Nat.succ_mul] at h9
        have := nI_inj (by omega) (by omega) h9
        omega
      rw [hE2, List.mem_append, hm z]
      constructor
      · rintro (e | e)
        · exact Or.inl ⟨e, hno z e⟩
        · obtain ⟨j, hj, hcj, rfl⟩ := clo_mem e
          have hjk : j = kN x := Classical.byContradiction (fun q => by rw [va_up_ne _ _ q] at hcj; omega)
          subst hjk
          rw [va_up_self]
          exact Or.inr (Or.inr ⟨hno, by rw [← x3]⟩)
      · rintro (⟨e1, e2⟩ | ⟨r, hr, hrm, e⟩ | ⟨hno, e⟩)
        · exact Or.inl e1
        · exact absurd hrm (hno r hr)
        · refine Or.inr ?_
          have h9 := clo_memI (C := va_up (fun _ => 0) (kN x) 1) (R := va_up (fun _ => 0) (kN x) (sStart how x.2.2)) (tm := nI ((tN x / size + 1) * size) - 1) x4 (by rw [va_up_self]; omega)
          rw [va_up_self, ← x3] at h9
          rw [e]; exact h9
  · unfold spF
    by_cases hc : tN x / size + 1 = s.1
    · simp only [hc, if_true]; exact hp
    · simp only [hc, if_false]; exact hE
theorem sp_both {B size how : Nat} (hB : B + 1000 ≤ 100000) (h1 : 1 ≤ size) (h2 : size ≤ 1000) : ∀ (P : List RW) (s : SP) (D : List RW), allB B P → ascP P → spV B size s D → (∀ x ∈ P, s.1 ≤ tN x / size + 1) → spV B size (P.foldl (spF size how) s) (P.foldl (spR size how) D)
  | [], s, D, _, _, h, _ => h
  | x :: P, s, D, ha, hp, h, hle => by
    obtain ⟨p1, p2⟩ := List.pairwise_cons.mp hp
    have hx := ha x List.mem_cons_self
    obtain ⟨-, f2⟩ := spF_ok (how := how) hB h1 h2 h.1 hx (hle x List.mem_cons_self)
    rw [List.foldl_cons, List.foldl_cons]
    refine sp_both hB h1 h2 P _ _ (fun z hz => ha z (List.mem_cons_of_mem _ hz)) p2 (sp_step hB h1 h2 h hx (hle x List.mem_cons_self)) (fun z hz => ?_)
    rw [f2]
    have := Nat.div_le_div_right (c := size) (p1 z hz)
    omega
theorem spans_is {B size how : Nat} {P : List RW} (hB : B + 1000 ≤ 100000) (h1 : 1 ≤ size) (h2 : size ≤ 1000) (ha : allB B P) (hp : ascP P) : srt (gk true) (P.foldl (spR size how) []) = spL size how P := by
  have h0 : spV B size sp0 [] := ⟨⟨fun x hx => (by cases hx), List.Pairwise.nil, fun x hx => (by cases hx), Or.inl ⟨rfl, rfl⟩⟩, fun z => by
    unfold spE
    rw [clo_empty rfl]; exact Iff.rfl, List.Pairwise.nil, List.Pairwise.nil⟩
  obtain ⟨hK, hm, hd, hp2⟩ := sp_both (how := how) hB h1 h2 P sp0 [] ha hp h0 (fun x _ => Nat.zero_le _)
  unfold spL
  generalize P.foldl (spF size how) sp0 = s at hK hm hp2 ⊢
  generalize P.foldl (spR size how) [] = D at hm hd ⊢
  obtain ⟨q1, -, -⟩ := spE_ok hB h1 h2 hK
  have hD : allB (B + 1000) D := fun z hz => q1 z ((hm z).mpr hz)
  refine ss_ext (foldl_ins_ss hB D [] hD (fun x hx => (by cases hx)) ?_ (fun x hx => (by cases hx)) List.Pairwise.nil) (spE_ss hB h1 h2 hK hp2) (fun x => ?_)
  · refine List.Pairwise.imp_of_mem ?_ hd
    intro a b ha hb hab q
    obtain ⟨a1, -, a3, -⟩ := okB_n (hD a ha) hB
    obtain ⟨b1, -, b3, -⟩ := okB_n (hD b hb) hB
    exact hab ⟨by rw [a1, b1, q.1], by rw [a3, b3, q.2]⟩
  · rw [hm x]
    unfold srt
    rw [foldl_ins_mem]
    simp
