/-! pure: comparing as sets, the reference's way and the class's way -/
def cnt (L : List RW) (t y : Int32) (v : Int64) (any : Bool) : Nat := L.countP (fun r => decide (r.1 = t) && (decide (r.2.1 = y) && (any || decide (r.2.2 = v))))
def bsD (G T : List RW) (x : RW) : Bool := decide (cnt G x.1 x.2.1 x.2.2 false ≠ cnt T x.1 x.2.1 x.2.2 false)
def bsL (st : Option (Int32 × Int32)) (x : RW) : Bool := match st with
  | none => true
  | some p => decide (x.1 < p.1) || (decide (x.1 = p.1) && decide (x.2.1 < p.2))
def bsF (G T : List RW) (st : Option (Int32 × Int32)) (x : RW) : Option (Int32 × Int32) := if (bsD G T x && bsL st x) = true then some (x.1, x.2.1) else st
def bsR (G T : List RW) : Option (Int32 × Int32) := (G ++ T).foldl (bsF G T) none
def cR (G T : List RW) : Nat × DF := match bsR G T with
  | none => (0, none)
  | some p => (dOf (cnt G p.1 p.2 0 true) (cnt T p.1 p.2 0 true), some (-4, p.1, p.2))
def lx (x y : RW) : Prop := x.1.toInt < y.1.toInt ∨ (x.1.toInt = y.1.toInt ∧ (x.2.1.toInt < y.2.1.toInt ∨ (x.2.1.toInt = y.2.1.toInt ∧ x.2.2.toInt < y.2.2.toInt)))
def le2 (p q : Int32 × Int32) : Prop := p.1.toInt < q.1.toInt ∨ (p.1.toInt = q.1.toInt ∧ p.2.toInt ≤ q.2.toInt)
theorem i32_eq {a b : Int32} : a = b ↔ a.toInt = b.toInt := ⟨fun h => by rw [h], fun h => Int32.toInt_inj.mp h⟩
theorem i64_eq {a b : Int64} : a = b ↔ a.toInt = b.toInt := ⟨fun h => by rw [h], fun h => Int64.toInt_inj.mp h⟩
theorem cmpI_pos {x y : Int32} : 0 < cmpI x y ↔ y.toInt < x.toInt := by
  unfold cmpI
  by_cases h1 : x < y
  · rw [if_pos h1]; rw [Int32.lt_iff_toInt_lt] at h1
    constructor
    · intro h; exact absurd h (by decide)
    · intro h; omega
  · rw [if_neg h1]; rw [Int32.lt_iff_toInt_lt] at h1
    by_cases h2 : x = y
    · rw [if_pos h2]; rw [i32_eq] at h2
      constructor
      · intro h; exact absurd h (by decide)
      · intro h; omega
    · rw [if_neg h2]; rw [i32_eq] at h2
      constructor
      · intro _; omega
      · intro _; decide
theorem ordA_pos {a : RW} {t y : Int32} : 0 < ordA a t y ↔ (t.toInt < a.1.toInt ∨ (a.1.toInt = t.toInt ∧ y.toInt < a.2.1.toInt)) := by
  unfold ordA
  by_cases h : cmpI a.1 t = 0
  · rw [if_pos h, cmpI_pos]
    rw [cmpI_0, i32_eq] at h
    omega
  · rw [if_neg h, cmpI_pos]
    rw [cmpI_0, i32_eq] at h
    omega
theorem aboveS_lx {y x : RW} : aboveS y x = true ↔ lx x y := by
  unfold aboveS lx
  rw [Bool.or_eq_true, Bool.and_eq_true, decide_eq_true_eq, decide_eq_true_eq, decide_eq_true_eq, ordA_pos, ordA_0, i32_eq, i32_eq, Int64.lt_iff_toInt_lt]
  omega
theorem insR_perm {p : RW → Bool} {x : RW} : ∀ L : List RW, (insR p L x).Perm (x :: L)
  | [] => List.Perm.refl _
  | y :: ys => by
    rw [insR]
    split
    · exact ((insR_perm ys).cons y).trans (List.Perm.swap x y ys)
    · exact List.Perm.refl _
theorem ins_perm {g : RW → RW → Bool} {x : RW} {L : List RW} : (ins g L x).Perm (x :: L) := by
  unfold ins
  exact (List.reverse_perm _).trans ((insR_perm _).trans ((List.reverse_perm L).cons x))
theorem foldl_ins_perm {g : RW → RW → Bool} : ∀ (L K : List RW), (L.foldl (ins g) K).Perm (K ++ L)
  | [], K => by simp
  | x :: L, K => by
    rw [List.foldl_cons]
    refine (foldl_ins_perm L _).trans ?_
    refine (ins_perm.append_right L).trans ?_
    exact (List.perm_middle (a := x) (l₁ := K) (l₂ := L)).symm
theorem srt_perm (g : RW → RW → Bool) (L : List RW) : (srt g L).Perm L := by
  have := foldl_ins_perm (g := g) L []
  simpa [srt] using this
theorem insR_lx {x : RW} : ∀ {L : List RW}, L.Pairwise (fun a b => ¬ lx a b) → (insR (fun y => aboveS y x) L x).Pairwise (fun a b => ¬ lx a b)
  | [], _ => by simp [insR]
  | y :: ys, hp => by
    obtain ⟨p1, p2⟩ := List.pairwise_cons.mp hp
    rw [insR]
    split
    · rename_i h
      have h1 := aboveS_lx.mp h
      refine List.pairwise_cons.mpr ⟨fun z hz => ?_, insR_lx p2⟩
      rcases insR_mem.mp hz with e | e
      · rw [e]; unfold lx at *; omega
      · exact p1 z e
    · rename_i h
      have h1 : ¬ lx x y := fun q => h (aboveS_lx.mpr q)
      refine List.pairwise_cons.mpr ⟨fun z hz => ?_, hp⟩
      rcases List.mem_cons.mp hz with e | e
      · rw [e]; exact h1
      · have := p1 z e; unfold lx at *; omega
theorem foldl_ins_lx : ∀ (L K : List RW), K.Pairwise (fun a b => ¬ lx b a) → (L.foldl (ins aboveS) K).Pairwise (fun a b => ¬ lx b a)
  | [], K, h => h
  | x :: L, K, h => by
    rw [List.foldl_cons]
    refine foldl_ins_lx L _ ?_
    unfold ins
    rw [List.pairwise_reverse]
    refine insR_lx ?_
    rw [List.pairwise_reverse]
    exact h
theorem srt_lx (L : List RW) : (srt aboveS L).Pairwise (fun a b => ¬ lx b a) := foldl_ins_lx L [] List.Pairwise.nil
def cx (L : List RW) (x : RW) : Nat := cnt L x.1 x.2.1 x.2.2 false
theorem cx_perm {A B : List RW} (h : A.Perm B) (x : RW) : cx A x = cx B x := h.countP_eq _
theorem rw_ext {a b : RW} (h1 : a.1 = b.1) (h2 : a.2.1 = b.2.1) (h3 : a.2.2 = b.2.2) : a = b := by
  obtain ⟨a1, a2, a3⟩ := a
  obtain ⟨b1, b2, b3⟩ := b
  cases h1; cases h2; cases h3; rfl
theorem cx_pos {L : List RW} {x : RW} : 0 < cx L x ↔ x ∈ L := by
  unfold cx cnt
  rw [List.countP_pos_iff]
  constructor
  · rintro ⟨a, ha, h⟩
    simp only [Bool.false_or, Bool.and_eq_true, decide_eq_true_eq] at h
    rw [← rw_ext h.1 h.2.1 h.2.2]; exact ha
  · intro h
    exact ⟨x, h, by simp⟩
theorem cx_cons {a : RW} {L : List RW} {x : RW} : cx (a :: L) x = cx L x + cx [a] x := by
  unfold cx cnt
  rw [List.countP_cons, List.countP_singleton]
theorem cx_zero {L : List RW} {x : RW} (h : ¬ x ∈ L) : cx L x = 0 := by
  rcases Nat.eq_zero_or_pos (cx L x) with q | q
  · exact q
  · exact absurd (cx_pos.mp q) h
def fyy (A : List RW) (B : List RW) : Option RW := match A, B with
  | [], [] => none
  | a :: _, [] => some a
  | [], b :: _ => some b
  | a :: A, b :: B => if a = b then fyy A B else if ordA a b.1 b.2.1 ≤ 0 then some a else some b
def cS3 (G T : List RW) : Option RW → Nat × DF
  | none => (0, none)
  | some x => cS1 G T x
theorem cS2_fyy (G T : List RW) : ∀ A B : List RW, cS2 G T A B (fd A B) = cS3 G T (fyy A B)
  | [], [] => rfl
  | [], b :: B => by simp [cS2, fd, fyy, cS3]
  | a :: A, [] => by simp [cS2, fd, fyy, cS3]
  | a :: A, b :: B => by
    have ih := cS2_fyy G T A B
    unfold fyy
    rw [fd]
    by_cases h : a = b
    · rw [if_pos h, if_pos h, ← ih]
      unfold cS2
      simp only [List.length_cons, Nat.add_lt_add_iff_right, List.getD_cons_succ]
    · rw [if_neg h, if_neg h]
      unfold cS2
      simp only [List.length_cons, Nat.zero_lt_succ, if_true, List.getD_cons_zero]
      split <;> rfl
theorem fyy_none : ∀ {A B : List RW}, fyy A B = none → A = B
  | [], [], _ => rfl
  | [], b :: B, h => by simp [fyy] at h
  | a :: A, [], h => by simp [fyy] at h
  | a :: A, b :: B, h => by
    unfold fyy at h
    split at h
    · rename_i e; rw [e, fyy_none h]
    · split at h <;> cases h
theorem fyy_some : ∀ {A B : List RW} {m : RW}, A.Pairwise (fun a b => ¬ lx b a) → B.Pairwise (fun a b => ¬ lx b a) → fyy A B = some m → (∃ x, (x ∈ A ∨ x ∈ B) ∧ cx A x ≠ cx B x ∧ x.1 = m.1 ∧ x.2.1 = m.2.1) ∧ ∀ x, cx A x ≠ cx B x → le2 (m.1, m.2.1) (x.1, x.2.1)
  | [], [], m, _, _, h => by simp [fyy] at h
  | [], b :: B, m, _, hB, h => by
    obtain rfl : b = m := by simpa [fyy] using h
    obtain ⟨p1, p2⟩ := List.pairwise_cons.mp hB
    refine ⟨⟨b, Or.inr List.mem_cons_self, ?_, rfl, rfl⟩, fun x hx => ?_⟩
    · have h1 : cx [] b = 0 := rfl
      have h2 : 0 < cx (b :: B) b := cx_pos.mpr List.mem_cons_self
      omega
    · have h1 : cx [] x = 0 := rfl
      have h2 : x ∈ b :: B := cx_pos.mp (by omega)
      rcases List.mem_cons.mp h2 with e | e
      · rw [e]; unfold le2; omega
      · have := p1 x e; unfold lx at this; unfold le2; dsimp only; omega
  | a :: A, [], m, hA, _, h => by
    obtain rfl : a = m := by simpa [fyy] using h
    obtain ⟨p1, p2⟩ := List.pairwise_cons.mp hA
    refine ⟨⟨a, Or.inl List.mem_cons_self, ?_, rfl, rfl⟩, fun x hx => ?_⟩
    · have h1 : cx [] a = 0 := rfl
      have h2 : 0 < cx (a :: A) a := cx_pos.mpr List.mem_cons_self
      omega
    · have h1 : cx [] x = 0 := rfl
      have h2 : x ∈ a :: A := cx_pos.mp (by omega)
      rcases List.mem_cons.mp h2 with e | e
      · rw [e]; unfold le2; omega
      · have := p1 x e; unfold lx at this; unfold le2; dsimp only; omega
  | a :: A, b :: B, m, hA, hB, h => by
    obtain ⟨p1, p2⟩ := List.pairwise_cons.mp hA
    obtain ⟨q1, q2⟩ := List.pairwise_cons.mp hB
    unfold fyy at h
    by_cases hab : a = b
    · rw [if_pos hab] at h
      subst hab
      obtain ⟨⟨x, h1, h2, h3⟩, h4⟩ := fyy_some p2 q2 h
      refine ⟨⟨x, ?_, ?_, h3⟩, fun x hx => h4 x ?_⟩
      · rcases h1 with e | e
        · exact Or.inl (List.mem_cons_of_mem _ e)
        · exact Or.inr (List.mem_cons_of_mem _ e)
      · rw [cx_cons (L := A), cx_cons (L := B)]; omega
      · rw [cx_cons (L := A), cx_cons (L := B)] at hx; omega
    · rw [if_neg hab] at h
      have hne : lx a b ∨ lx b a := by
        have h5 : ¬ (a.1.toInt = b.1.toInt ∧ a.2.1.toInt = b.2.1.toInt ∧ a.2.2.toInt = b.2.2.toInt) := fun q => hab (rw_ext (i32_eq.mpr q.1) (i32_eq.mpr q.2.1) (i64_eq.mpr q.2.2))
        unfold lx; omega
      have hin : ∀ x, cx (a :: A) x ≠ cx (b :: B) x → x ∈ a :: A ∨ x ∈ b :: B := fun x hx => by
        rcases Nat.eq_zero_or_pos (cx (a :: A) x) with q | q
        · exact Or.inr (cx_pos.mp (by omega))
        · exact Or.inl (cx_pos.mp q)
      have hAge : ∀ x ∈ a :: A, ¬ lx x a := fun x hx => by
        rcases List.mem_cons.mp hx with e | e
        · rw [e]; unfold lx; omega
        · exact p1 x e
      have hBge : ∀ x ∈ b :: B, ¬ lx x b := fun x hx => by
        rcases List.mem_cons.mp hx with e | e
        · rw [e]; unfold lx; omega
        · exact q1 x e
      rcases hne with hl | hl
      · have ho : ordA a b.1 b.2.1 ≤ 0 := by
          refine Int32.not_lt.mp (fun q => ?_)
          have := ordA_pos.mp q
          unfold lx at hl; omega
        rw [if_pos ho] at h
        obtain rfl : a = m := Option.some.inj h
        refine ⟨⟨a, Or.inl List.mem_cons_self, ?_, rfl, rfl⟩, fun x hx => ?_⟩
        · have h1 : 0 < cx (a :: A) a := cx_pos.mpr List.mem_cons_self
          have h2 : cx (b :: B) a = 0 := cx_zero (fun q => hBge a q hl)
          omega
        · rcases hin x hx with e | e
          · have := hAge x e; unfold lx at this; unfold le2; dsimp only; omega
          · have := hBge x e; unfold lx at this hl; unfold le2; dsimp only; omega
      · have h1 : 0 < cx (b :: B) b := cx_pos.mpr List.mem_cons_self
        have h2 : cx (a :: A) b = 0 := cx_zero (fun q => hAge b q hl)
        have hm : b.1 = m.1 ∧ b.2.1 = m.2.1 := by
          by_cases ho : ordA a b.1 b.2.1 ≤ 0
          · rw [if_pos ho] at h
            obtain rfl : a = m := Option.some.inj h
            have h3 : ¬ 0 < ordA a b.1 b.2.1 := Int32.not_lt.mpr ho
            rw [ordA_pos] at h3
            rw [i32_eq, i32_eq]
            unfold lx at hl; omega
          · rw [if_neg ho] at h
            obtain rfl : b = m := Option.some.inj h
            exact ⟨rfl, rfl⟩
        refine ⟨⟨b, Or.inr List.mem_cons_self, by omega, hm⟩, fun x hx => ?_⟩
        rw [← hm.1, ← hm.2]
        rcases hin x hx with e | e
        · have := hAge x e; unfold lx at this hl; unfold le2; dsimp only; omega
        · have := hBge x e; unfold lx at this; unfold le2; dsimp only; omega
theorem bsL_le {p : Int32 × Int32} {x : RW} : (bsL (some p) x = true → le2 (x.1, x.2.1) p) ∧ (bsL (some p) x = false → le2 p (x.1, x.2.1)) := by
  unfold bsL le2
  dsimp only
  constructor
  · intro h
    rw [Bool.or_eq_true, Bool.and_eq_true, decide_eq_true_eq, decide_eq_true_eq, decide_eq_true_eq, Int32.lt_iff_toInt_lt, Int32.lt_iff_toInt_lt, i32_eq] at h
    omega
  · intro h
    rw [Bool.or_eq_false_iff, Bool.and_eq_false_iff, decide_eq_false_iff_not, decide_eq_false_iff_not, decide_eq_false_iff_not, Int32.lt_iff_toInt_lt, Int32.lt_iff_toInt_lt, i32_eq] at h
    omega
theorem le2_trans {p q r : Int32 × Int32} (h1 : le2 p q) (h2 : le2 q r) : le2 p r := by unfold le2 at *; omega
theorem le2_refl (p : Int32 × Int32) : le2 p p := by unfold le2; omega
theorem bs_fold {G T : List RW} : ∀ (L : List RW) (st : Option (Int32 × Int32)), (L.foldl (bsF G T) st = none → st = none ∧ ∀ x ∈ L, bsD G T x = false) ∧ (∀ p, L.foldl (bsF G T) st = some p → (st = some p ∨ ∃ x ∈ L, bsD G T x = true ∧ p = (x.1, x.2.1)) ∧ (∀ x ∈ L, bsD G T x = true → le2 p (x.1, x.2.1)) ∧ ∀ q, st = some q → le2 p q)
  | [], st => by
    refine ⟨fun h => ⟨h, fun x hx => (by cases hx)⟩, fun p h => ⟨Or.inl h, fun x hx => (by cases hx), fun q hq => ?_⟩⟩
    have h2 : st = some p := h
    rw [h2] at hq; cases hq; exact le2_refl _
  | x :: L, st => by
    rw [List.foldl_cons]
    obtain ⟨i1, i2⟩ := bs_fold (G := G) (T := T) L (bsF G T st x)
    constructor
    · intro h
      obtain ⟨j1, j2⟩ := i1 h
      unfold bsF at j1
      by_cases hc : (bsD G T x && bsL st x) = true
      · rw [if_pos hc] at j1; cases j1
      · rw [if_neg hc] at j1
        refine ⟨j1, fun y hy => ?_⟩
        rcases List.mem_cons.mp hy with e | e
        · rw [e]
          cases hb : bsD G T x with
          | false => rfl
          | true => rw [hb, j1] at hc; exact absurd rfl hc
        · exact j2 y e
    · intro p h
      obtain ⟨j1, j2, j3⟩ := i2 p h
      unfold bsF at j1 j3
      by_cases hc : (bsD G T x && bsL st x) = true
      · rw [if_pos hc] at j1 j3
        have j4 := j3 _ rfl
        rw [Bool.and_eq_true] at hc
        refine ⟨?_, fun y hy hyd => ?_, fun q hq => ?_⟩
        · rcases j1 with e | ⟨y, e1, e2⟩
          · exact Or.inr ⟨x, List.mem_cons_self, hc.1, (Option.some.inj e).symm⟩
          · exact Or.inr ⟨y, List.mem_cons_of_mem _ e1, e2⟩
        · rcases List.mem_cons.mp hy with e | e
          · rw [e]; exact j4
          · exact j2 y e hyd
        · rw [hq] at hc
          exact le2_trans j4 (bsL_le.1 hc.2)
      · rw [if_neg hc] at j1 j3
        refine ⟨?_, fun y hy hyd => ?_, j3⟩
        · rcases j1 with e | ⟨y, e1, e2⟩
          · exact Or.inl e
          · exact Or.inr ⟨y, List.mem_cons_of_mem _ e1, e2⟩
        · rcases List.mem_cons.mp hy with e | e
          · rw [e]
            rw [e] at hyd
            rw [hyd, Bool.true_and] at hc
            cases st with
            | none => exact absurd rfl hc
            | some q => exact le2_trans (j3 q rfl) (bsL_le.2 (by cases hb : bsL (some q) x with
              | false => rfl
              | true => exact absurd hb hc))
          · exact j2 y e hyd
theorem cnt_hm (L : List RW) (t y : Int32) : cnt L t y 0 true = hm L t y := by
  unfold cnt hm
  apply List.countP_congr
  intro a _
  rw [decide_eq_true_eq, ordA_0, Bool.true_or, Bool.and_true, Bool.and_eq_true, decide_eq_true_eq, decide_eq_true_eq]
theorem cS_is (G T : List RW) : cS G T = cR G T := by
  unfold cS
  rw [cS2_fyy]
  have eG : ∀ x, cx (srt aboveS G) x = cx G x := cx_perm (srt_perm aboveS G)
  have eT : ∀ x, cx (srt aboveS T) x = cx T x := cx_perm (srt_perm aboveS T)
  obtain ⟨b1, b2⟩ := bs_fold (G := G) (T := T) (G ++ T) none
  have hD : ∀ x, bsD G T x = true ↔ cx G x ≠ cx T x := fun x => by unfold bsD cx; exact decide_eq_true_iff
  unfold cR
  cases hf : fyy (srt aboveS G) (srt aboveS T) with
  | none =>
    have hE := fyy_none hf
    have hno : ∀ x, cx G x = cx T x := fun x => by rw [← eG, ← eT, hE]
    cases hr : bsR G T with
    | none => rfl
    | some p =>
      obtain ⟨j1, -, -⟩ := b2 p hr
      rcases j1 with e | ⟨x, e1, e2, -⟩
      · cases e
      · exact absurd (hno x) ((hD x).mp e2)
  | some m =>
    obtain ⟨⟨x, h1, h2, h3, h4⟩, h5⟩ := fyy_some (srt_lx G) (srt_lx T) hf
    rw [eG, eT] at h2
    have hx : x ∈ G ++ T := by
      rcases h1 with e | e
      · exact List.mem_append_left _ ((srt_perm aboveS G).mem_iff.mp e)
      · exact List.mem_append_right _ ((srt_perm aboveS T).mem_iff.mp e)
    cases hr : bsR G T with
    | none =>
      have := (b1 hr).2 x hx
      rw [(hD x).mpr h2] at this; cases this
    | some p =>
      obtain ⟨j1, j2, -⟩ := b2 p hr
      have k1 := j2 x hx ((hD x).mpr h2)
      rw [h3, h4] at k1
      have k2 : le2 (m.1, m.2.1) p := by
        rcases j1 with e | ⟨z, e1, e2, e3⟩
        · cases e
        · rw [e3]; exact h5 z (by rw [eG, eT]; exact (hD z).mp e2)
      have e1 : p.1 = m.1 := by rw [i32_eq]; unfold le2 at k1 k2; dsimp only at k1 k2; omega
      have e2 : p.2 = m.2.1 := by rw [i32_eq]; unfold le2 at k1 k2; dsimp only at k1 k2; omega
      show cS1 G T m = _
      unfold cS1
      dsimp only
      rw [cnt_hm, cnt_hm, e1, e2]
