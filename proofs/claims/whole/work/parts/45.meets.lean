/-! pure: meeting and spans, the reference's way and the class's way give one list -/
theorem insR_end {f : RW → Bool} {x p : RW} (h : f p = false) : ∀ B : List RW, insR f (B ++ [p]) x = insR f B x ++ [p]
  | [] => by simp [insR, h]
  | b :: B => by
    show insR f (b :: (B ++ [p])) x = _
    rw [insR, insR]
    split
    · rw [insR_end h B]; rfl
    · rfl
theorem ins_cons {g : RW → RW → Bool} {p x : RW} {L : List RW} (h : g p x = false) : ins g (p :: L) x = p :: ins g L x := by
  unfold ins
  rw [List.reverse_cons, insR_end (f := fun y => g y x) h]
  simp
theorem ins_front {g : RW → RW → Bool} {x : RW} {L : List RW} (h : ∀ p ∈ L, g p x = true) : ins g L x = x :: L := by
  have h1 := insR_app (p := fun y => g y x) (x := x) L.reverse [] (fun b hb => h b (List.mem_reverse.mp hb))
  unfold ins
  rw [List.append_nil] at h1
  rw [h1]
  simp [insR]
theorem foldl_ins_cons {g : RW → RW → Bool} {p : RW} : ∀ (Q L : List RW), (∀ q ∈ Q, g p q = false) → Q.foldl (ins g) (p :: L) = p :: Q.foldl (ins g) L
  | [], L, _ => rfl
  | q :: Q, L, h => by
    rw [List.foldl_cons, List.foldl_cons, ins_cons (h q List.mem_cons_self), foldl_ins_cons Q _ (fun z hz => h z (List.mem_cons_of_mem _ hz))]
theorem foldl_ins_asc_id {B : Nat} (hB : B ≤ 100000) : ∀ (Q : List RW), allB B Q → ascP Q → Q.foldl (ins aboveT) [] = Q
  | [], _, _ => rfl
  | q :: Q, h, hp => by
    obtain ⟨p1, p2⟩ := List.pairwise_cons.mp hp
    have hq : ∀ z ∈ Q, aboveT q z = false := fun z hz => by
      have h1 := aboveT_n (h z (List.mem_cons_of_mem _ hz)) (h q List.mem_cons_self) hB
      cases hb : aboveT q z with
      | false => rfl
      | true => have := h1.mp hb; have := p1 z hz; omega
    rw [List.foldl_cons]
    show Q.foldl (ins aboveT) [q] = _
    rw [foldl_ins_cons Q [] hq, foldl_ins_asc_id hB Q (fun z hz => h z (List.mem_cons_of_mem _ hz)) p2]
theorem foldl_ins_mrg {B : Nat} (hB : B ≤ 100000) : ∀ {P Q : List RW}, allB B P → allB B Q → ascP P → ascP Q → Q.foldl (ins aboveT) P = mrg P Q
  | [], Q, _, h2, _, h4 => by rw [mrg]; exact foldl_ins_asc_id hB Q h2 h4
  | p :: ps, [], _, _, _, _ => by rw [mrg]; rfl
  | p :: ps, q :: qs, a1, a2, h1, h2 => by
    have hp := a1 p List.mem_cons_self
    have hq := a2 q List.mem_cons_self
    have a1' : allB B ps := fun z hz => a1 z (List.mem_cons_of_mem _ hz)
    have a2' : allB B qs := fun z hz => a2 z (List.mem_cons_of_mem _ hz)
    obtain ⟨b1, b1', -, -⟩ := okB_n hp hB
    obtain ⟨b2, b2', -, -⟩ := okB_n hq hB
    have hlt : q.1 < p.1 ↔ tN q < tN p := by rw [b1, b2, nI_ltI (by omega) (by omega)]
    obtain ⟨p1, p2⟩ := List.pairwise_cons.mp h1
    obtain ⟨q1, q2⟩ := List.pairwise_cons.mp h2
    rw [mrg]
    split
    · rename_i h
      rw [hlt] at h
      rw [List.foldl_cons, ins_front (fun z hz => ?_), foldl_ins_cons qs _ (fun z hz => ?_), foldl_ins_mrg hB a1 a2' h1 q2]
      · have h3 := aboveT_n (a2' z hz) hq hB
        cases hb : aboveT q z with
        | false => rfl
        | true => have := h3.mp hb; have := q1 z hz; omega
      · refine (aboveT_n hq (a1 z hz) hB).mpr ?_
        rcases List.mem_cons.mp hz with e | e
        · rw [e]; exact h
        · have := p1 z e; omega
    · rename_i h
      rw [hlt] at h
      rw [foldl_ins_cons (q :: qs) ps (fun z hz => ?_), foldl_ins_mrg hB a1' a2 p2 h2]
      have h3 := aboveT_n (a2 z hz) hp hB
      cases hb : aboveT p z with
      | false => rfl
      | true =>
        have h4 := h3.mp hb
        rcases List.mem_cons.mp hz with e | e
        · rw [e] at h4; omega
        · have := q1 z e; omega
theorem meet_is {B : Nat} (hB : B ≤ 100000) {P Q : List RW} (a1 : allB B P) (a2 : allB B Q) (h1 : ascP P) (h2 : ascP Q) : srt aboveT (P ++ Q) = mrg P Q := by
  unfold srt
  rw [List.foldl_append, foldl_ins_asc_id hB P a1 h1, foldl_ins_mrg hB a1 a2 h1 h2]
/-! strictly sorted lists with the same members are one list -/
def ltK (a b : RW) : Prop := tN a < tN b ∨ (tN a = tN b ∧ kN a < kN b)
theorem ltK_asymm {a b : RW} (h : ltK a b) : ¬ ltK b a := by
  unfold ltK at *; omega
theorem ss_ext : ∀ {A B : List RW}, A.Pairwise ltK → B.Pairwise ltK → (∀ x, x ∈ A ↔ x ∈ B) → A = B
  | [], [], _, _, _ => rfl
  | [], b :: B, _, _, h => by have := (h b).mpr List.mem_cons_self; cases this
  | a :: A, [], _, _, h => by have := (h a).mp List.mem_cons_self; cases this
  | a :: A, b :: B, hA, hB, h => by
    obtain ⟨a1, a2⟩ := List.pairwise_cons.mp hA
    obtain ⟨b1, b2⟩ := List.pairwise_cons.mp hB
    have hab : a = b := by
      rcases List.mem_cons.mp ((h a).mp List.mem_cons_self) with e | e
      · exact e
      · rcases List.mem_cons.mp ((h b).mpr List.mem_cons_self) with e2 | e2
        · exact e2.symm
        · exact absurd (a1 b e2) (ltK_asymm (b1 a e))
    subst hab
    rw [ss_ext a2 b2 (fun x => ⟨fun hx => ?_, fun hx => ?_⟩)]
    · rcases List.mem_cons.mp ((h x).mp (List.mem_cons_of_mem _ hx)) with e | e
      · subst e; exact absurd (a1 x hx) (ltK_asymm (a1 x hx))
      · exact e
    · rcases List.mem_cons.mp ((h x).mpr (List.mem_cons_of_mem _ hx)) with e | e
      · subst e; exact absurd (b1 x hx) (ltK_asymm (b1 x hx))
      · exact e
theorem gk_n {B : Nat} {x y : RW} (hx : okB B x) (hy : okB B y) (hB : B ≤ 100000) : gk true y x = true ↔ ltK x y := by
  obtain ⟨a1, a2, a3, a4⟩ := okB_n hx hB
  obtain ⟨b1, b2, b3, b4⟩ := okB_n hy hB
  have e1 : x.1 < y.1 ↔ tN x < tN y := by rw [a1, b1, nI_ltI (by omega) (by omega)]
  have e2 : y.1 = x.1 ↔ tN y = tN x := by
    constructor
    · intro q; unfold tN; rw [q]
    · intro q; rw [a1, b1, q]
  have e3 : x.2.1 < y.2.1 ↔ kN x < kN y := by rw [a3, b3, nI_ltI (by omega) (by omega)]
  unfold gk ltK
  simp only [Bool.true_and, Bool.or_eq_true, Bool.and_eq_true, decide_eq_true_eq]
  rw [e1, e2, e3]
  constructor
  · rintro (h | ⟨h1, h2⟩)
    · exact Or.inl h
    · exact Or.inr ⟨h1.symm, h2⟩
  · rintro (h | ⟨h1, h2⟩)
    · exact Or.inl h
    · exact Or.inr ⟨h1.symm, h2⟩
def dsK (a b : RW) : Prop := ¬ (tN a = tN b ∧ kN a = kN b)
theorem insR_ss {B : Nat} {x : RW} (hx : okB B x) (hB : B ≤ 100000) : ∀ {L : List RW}, allB B L → (∀ y ∈ L, dsK y x) → L.Pairwise (fun a b => ltK b a) → (insR (fun y => gk true y x) L x).Pairwise (fun a b => ltK b a)
  | [], _, _, _ => by simp [insR]
  | y :: ys, ha, hd, hp => by
    have hy := ha y List.mem_cons_self
    have hys : allB B ys := fun z hz => ha z (List.mem_cons_of_mem _ hz)
    obtain ⟨p1, p2⟩ := List.pairwise_cons.mp hp
    rw [insR]
    split
    · rename_i h
      have h1 := (gk_n hx hy hB).mp h
      refine List.pairwise_cons.mpr ⟨fun z hz => ?_, insR_ss hx hB hys (fun z hz => hd z (List.mem_cons_of_mem _ hz)) p2⟩
      rcases insR_mem.mp hz with e | e
      · rw [e]; exact h1
      · exact p1 z e
    · rename_i h
      have h1 : ¬ ltK x y := fun q => h ((gk_n hx hy hB).mpr q)
      have h2 : ltK y x := by have := hd y List.mem_cons_self; unfold ltK dsK at *; omega
      refine List.pairwise_cons.mpr ⟨fun z hz => ?_, hp⟩
      rcases List.mem_cons.mp hz with e | e
      · rw [e]; exact h2
      · have := p1 z e; unfold ltK at *; omega
theorem ins_ss {B : Nat} {x : RW} {L : List RW} (hx : okB B x) (hB : B ≤ 100000) (ha : allB B L) (hd : ∀ y ∈ L, dsK y x) (hp : L.Pairwise ltK) : (ins (gk true) L x).Pairwise ltK := by
  unfold ins
  rw [List.pairwise_reverse]
  refine insR_ss hx hB (fun z hz => ha z (List.mem_reverse.mp hz)) (fun z hz => hd z (List.mem_reverse.mp hz)) ?_
  rw [List.pairwise_reverse]
  exact hp
theorem foldl_ins_ss {B : Nat} (hB : B ≤ 100000) : ∀ (L K : List RW), allB B L → allB B K → L.Pairwise dsK → (∀ x ∈ K, ∀ y ∈ L, dsK x y) → K.Pairwise ltK → (L.foldl (ins (gk true)) K).Pairwise ltK
  | [], K, _, _, _, _, h => h
  | x :: L, K, h0, h1, h2, h3, h4 => by
    have hx := h0 x List.mem_cons_self
    obtain ⟨p1, p2⟩ := List.pairwise_cons.mp h2
    rw [List.foldl_cons]
    refine foldl_ins_ss hB L _ (fun z hz => h0 z (List.mem_cons_of_mem _ hz)) (fun z hz => ?_) p2 (fun z hz y hy => ?_) (ins_ss hx hB h1 (fun y hy => h3 y hy x List.mem_cons_self) h4)
    · rcases ins_mem.mp hz with e | e
      · rw [e]; exact hx
      · exact h1 z e
    · rcases ins_mem.mp hz with e | e
      · rw [e]; exact p1 y hy
      · exact h3 z e y (List.mem_cons_of_mem _ hy)
theorem foldl_ins_mem {g : RW → RW → Bool} {y : RW} : ∀ (L K : List RW), y ∈ L.foldl (ins g) K ↔ y ∈ K ∨ y ∈ L
  | [], K => by simp
  | x :: L, K => by
    rw [List.foldl_cons, foldl_ins_mem L, ins_mem, List.mem_cons]
    constructor
    · rintro ((h | h) | h)
      · exact Or.inr (Or.inl h)
      · exact Or.inl h
      · exact Or.inr (Or.inr h)
    · rintro (h | h | h)
      · exact Or.inl (Or.inr h)
      · exact Or.inl (Or.inl h)
      · exact Or.inr h
/-! spans: the two ways hold the same rows -/
theorem spS_mem {how : Nat} {la y : Int32} {v : Int64} {z : RW} : ∀ {D : List RW}, D.Pairwise (fun a b => ¬ (a.1 = b.1 ∧ a.2.1 = b.2.1)) → (z ∈ spS how la y v D ↔ (z ∈ D ∧ ¬ (z.1 = la ∧ z.2.1 = y)) ∨ (∃ r ∈ D, (r.1 = la ∧ r.2.1 = y) ∧ z = (la, y, sNext how r.2.2 v)) ∨ ((∀ r ∈ D, ¬ (r.1 = la ∧ r.2.1 = y)) ∧ z = (la, y, sStart how v)))
  | [], _ => by simp [spS]
  | r :: D, hp => by
    obtain ⟨p1, p2⟩ := List.pairwise_cons.mp hp
    rw [spS]
    by_cases h : r.1 = la ∧ r.2.1 = y
    · rw [if_pos h]
      have hno : ∀ z ∈ D, ¬ (z.1 = la ∧ z.2.1 = y) := fun z hz q => p1 z hz ⟨h.1.trans q.1.symm, h.2.trans q.2.symm⟩
      constructor
      · intro hz
        rcases List.mem_cons.mp hz with e | e
        · exact Or.inr (Or.inl ⟨r, List.mem_cons_self, h, by rw [e, h.1, h.2]⟩)
        · exact Or.inl ⟨List.mem_cons_of_mem _ e, hno z e⟩
      · rintro (⟨h1, h2⟩ | ⟨q, hq, hq2, e⟩ | ⟨h1, -⟩)
        · rcases List.mem_cons.mp h1 with e | e
          · rw [e] at h2; exact absurd h h2
          · exact List.mem_cons_of_mem _ e
        · rcases List.mem_cons.mp hq with e2 | e2
          · rw [e, e2, h.1, h.2]; exact List.mem_cons_self
          · exact absurd hq2 (hno q e2)
        · exact absurd h (h1 r List.mem_cons_self)
    · rw [if_neg h, List.mem_cons, spS_mem p2]
      constructor
      · rintro (e | ⟨h1, h2⟩ | ⟨q, hq, hq2, e⟩ | ⟨h1, e⟩)
        · rw [e]; exact Or.inl ⟨List.mem_cons_self, h⟩
        · exact Or.inl ⟨List.mem_cons_of_mem _ h1, h2⟩
        · exact Or.inr (Or.inl ⟨q, List.mem_cons_of_mem _ hq, hq2, e⟩)
        · refine Or.inr (Or.inr ⟨fun q hq => ?_, e⟩)
          rcases List.mem_cons.mp hq with e2 | e2
          · rw [e2]; exact h
          · exact h1 q e2
      · rintro (⟨h1, h2⟩ | ⟨q, hq, hq2, e⟩ | ⟨h1, e⟩)
        · rcases List.mem_cons.mp h1 with e | e
          · exact Or.inl e
          · exact Or.inr (Or.inl ⟨e, h2⟩)
        · rcases List.mem_cons.mp hq with e2 | e2
          · rw [e2] at hq2; exact absurd hq2 h
          · exact Or.inr (Or.inr (Or.inl ⟨q, e2, hq2, e⟩))
        · exact Or.inr (Or.inr (Or.inr ⟨fun q hq => h1 q (List.mem_cons_of_mem _ hq), e⟩))
theorem spS_key {how : Nat} {la y : Int32} {v : Int64} {z : RW} : ∀ {D : List RW}, z ∈ spS how la y v D → (∃ r ∈ D, r.1 = z.1 ∧ r.2.1 = z.2.1) ∨ (z.1 = la ∧ z.2.1 = y)
  | [], h => by
    rw [spS, List.mem_singleton] at h
    rw [h]; exact Or.inr ⟨rfl, rfl⟩
  | r :: D, h => by
    rw [spS] at h
    split at h
    · rcases List.mem_cons.mp h with e | e
      · exact Or.inl ⟨r, List.mem_cons_self, by rw [e], by rw [e]⟩
      · exact Or.inl ⟨z, List.mem_cons_of_mem _ e, rfl, rfl⟩
    · rcases List.mem_cons.mp h with e | e
      · exact Or.inl ⟨r, List.mem_cons_self, by rw [e], by rw [e]⟩
      · rcases spS_key e with ⟨q, h1, h2⟩ | h1
        · exact Or.inl ⟨q, List.mem_cons_of_mem _ h1, h2⟩
        · exact Or.inr h1
theorem spS_ds {how : Nat} {la y : Int32} {v : Int64} : ∀ {D : List RW}, D.Pairwise (fun a b => ¬ (a.1 = b.1 ∧ a.2.1 = b.2.1)) → (spS how la y v D).Pairwise (fun a b => ¬ (a.1 = b.1 ∧ a.2.1 = b.2.1))
  | [], _ => by simp [spS]
  | r :: D, hp => by
    obtain ⟨p1, p2⟩ := List.pairwise_cons.mp hp
    rw [spS]
    split
    · exact List.pairwise_cons.mpr ⟨fun z hz => p1 z hz, p2⟩
    · rename_i h
      refine List.pairwise_cons.mpr ⟨fun z hz q => ?_, spS_ds p2⟩
      rcases spS_key hz with ⟨q2, h1, h2, h3⟩ | ⟨h1, h2⟩
      · exact p1 q2 h1 ⟨q.1.trans h2.symm, q.2.trans h3.symm⟩
      · exact h ⟨q.1.trans h1, q.2.trans h2⟩
theorem lastT_n {B size : Nat} {x : RW} (hx : okB B x) (hB : B ≤ 100000) (h1 : 1 ≤ size) (h2 : size ≤ 1000) : lastT x.1 size = nI ((tN x / size + 1) * size) - 1 := by
  obtain ⟨a1, a2, -, -⟩ := okB_n hx hB
  unfold lastT
  have e : x.1 / nI size * nI size + nI size = nI ((tN x / size + 1) * size) := by
    rw [a1, pk_div (by omega) (by omega) (by omega), pk_mul, nI_add, Nat.succ_mul]
  rw [e]; rfl
theorem clo_memI {C : Nat → Nat} {R : Nat → Int64} {tm : Int32} {n k : Nat} (hk : k < n) (hc : 0 < C k) : (tm, nI k, R k) ∈ clo C R tm n := by
  unfold clo
  refine List.mem_flatMap.mpr ⟨k, List.mem_range.mpr hk, ?_⟩
  rw [if_pos hc]; exact List.mem_singleton.mpr rfl
