/-! pure rows for the reference's joins and spans -/
theorem jM_ref {a b : RW} {W : Nat} (ha : okR a) (hb : okR b) (hW : W ≤ 1000) : jMat a b W = (decide (a.2.1 = b.2.1) && (decide (a.1 - b.1 ≤ nI W) && decide (-(a.1 - b.1) ≤ nI W))) ∧ pairR a b = (if 0 < a.1 - b.1 then a.1 else b.1, a.2.1, 1000 * a.2.2 + b.2.2) := by
  obtain ⟨ta, ya, a1, a2, a3, a4⟩ := ha
  obtain ⟨tb, yb, b1, b2, b3, b4⟩ := hb
  unfold jMat pairR
  rw [a3, b3]
  have e1 : (nI ta - nI tb).toInt = (ta : Int) - tb := pk_sub_toInt (by omega) (by omega)
  have e2 : (-(nI ta - nI tb)).toInt = (tb : Int) - ta := by rw [Int32.neg_sub, pk_sub_toInt (by omega) (by omega)]
  have h1 : (nI ta - nI W ≤ nI tb) ↔ (nI ta - nI tb ≤ nI W) := by
    rw [jlo (by omega) (by omega) hW, Int32.le_iff_toInt_le, e1, nI_toInt (by omega)]; omega
  have h2 : (nI tb ≤ nI ta + nI W) ↔ (-(nI ta - nI tb) ≤ nI W) := by
    rw [jhi (by omega) (by omega) hW, Int32.le_iff_toInt_le, e2, nI_toInt (by omega)]; omega
  refine ⟨?_, ?_⟩
  · rw [decide_eq_decide.mpr h1, decide_eq_decide.mpr h2]
  · have h3 : (0 < nI ta - nI tb) ↔ tb < ta := by
      rw [Int32.lt_iff_toInt_lt, e1]; show (0 : Int) < _ ↔ _; omega
    have h4 : (nI ta < nI tb) ↔ ta < tb := nI_ltI (by omega) (by omega)
    by_cases q : ta < tb
    · rw [if_pos (h4.mpr q), if_neg (fun z => by have := h3.mp z; omega)]
    · rw [if_neg (fun z => q (h4.mp z))]
      by_cases q2 : tb < ta
      · rw [if_pos (h3.mpr q2)]
      · rw [if_neg (fun z => q2 (h3.mp z)), show ta = tb by omega]
def lastT (x : Int32) (size : Nat) : Int32 := x / nI size * nI size + nI size - nI 1
def spS (how : Nat) (la y : Int32) (v : Int64) : List RW → List RW
  | [] => [(la, y, sStart how v)]
  | r :: D => if r.1 = la ∧ r.2.1 = y then (r.1, r.2.1, sNext how r.2.2 v) :: D else r :: spS how la y v D
def spR (size how : Nat) (D : List RW) (x : RW) : List RW := spS how (lastT x.1 size) x.2.1 x.2.2 D
theorem spS_hit {how : Nat} {la y : Int32} {v : Int64} : ∀ {D : List RW} {j : Nat}, j < D.length → (∀ k, k < j → ¬ ((D.getD k r0).1 = la ∧ (D.getD k r0).2.1 = y)) → ((D.getD j r0).1 = la ∧ (D.getD j r0).2.1 = y) → spS how la y v D = D.set j ((D.getD j r0).1, (D.getD j r0).2.1, sNext how (D.getD j r0).2.2 v)
  | [], j, h, _, _ => by simp at h
  | r :: D, 0, h, h1, h2 => by
    have h2' : r.1 = la ∧ r.2.1 = y := by simpa using h2
    rw [spS, if_pos h2']; simp
  | r :: D, j + 1, h, h1, h2 => by
    have h3 : ¬ (r.1 = la ∧ r.2.1 = y) := by have := h1 0 (by omega); simpa using this
    rw [spS, if_neg h3, spS_hit (D := D) (j := j) (by simpa using h) (fun k hk => by have := h1 (k + 1) (by omega); simpa using this) (by simpa using h2)]
    simp
theorem spS_miss {how : Nat} {la y : Int32} {v : Int64} : ∀ {D : List RW}, (∀ k, k < D.length → ¬ ((D.getD k r0).1 = la ∧ (D.getD k r0).2.1 = y)) → spS how la y v D = D ++ [(la, y, sStart how v)]
  | [], _ => rfl
  | r :: D, h => by
    have h3 : ¬ (r.1 = la ∧ r.2.1 = y) := by have := h 0 (by simp); simpa using this
    rw [spS, if_neg h3, spS_miss (D := D) (fun k hk => by have := h (k + 1) (by simpa using hk); simpa using this)]
    rfl
theorem spS_len (how : Nat) (la y : Int32) (v : Int64) : ∀ D : List RW, (spS how la y v D).length ≤ D.length + 1
  | [] => by simp [spS]
  | r :: D => by
    rw [spS]
    split
    · simp
    · have := spS_len how la y v D
      simp; omega
theorem spR_len (size how : Nat) : ∀ (P D : List RW), (P.foldl (spR size how) D).length ≤ D.length + P.length
  | [], D => by simp
  | x :: P, D => by
    rw [List.foldl_cons]
    have h1 := spR_len size how P (spR size how D x)
    have h2 : (spR size how D x).length ≤ D.length + 1 := spS_len _ _ _ _ _
    simp; omega
def sZero (how : Nat) (v : Int64) : Int64 := if how = 1 then 0 else if how = 0 then 0 else v
theorem sNext_zero (how : Nat) (v : Int64) : sNext how (sZero how v) v = sStart how v := by
  unfold sNext sZero sStart
  by_cases h1 : how = 1
  · subst h1; rfl
  · rw [if_neg h1, if_neg h1, if_neg h1]
    by_cases h0 : how = 0
    · rw [if_pos h0, if_pos h0]; exact Int64.zero_add v
    · rw [if_neg h0, if_neg h0]
      split
      · split <;> rfl
      · split
        · split <;> rfl
        · rfl
/-- a value is set in the rows laid -/
theorem isD.setV {t : TT} {w w' : Nat → va_E} {nw : Nat} {D : List RW} {U0 M0 T0 Y0 U M T Y : Nat → Int32} {V0 V : Nat → Int64} {j : Nat} {nv : Int64} (e1 : w 143 = .inl (t.2.2.2.1, 12, .inl U)) (e2 : w 144 = .inl (t.2.1, 12, .inl M)) (e3 : w 146 = .inl (t.2.1, 2412, .inl T)) (e4 : w 147 = .inl (t.2.1, 2412, .inl Y)) (e6 : D.length ≤ 200) (e7 : U nw = nI (bN false)) (e8 : M nw = nI D.length) (e9 : D = sg T Y V (201 * nw) D.length) (e10 : ∀ k, k < nw → U k = U0 k ∧ M k = M0 k) (e11 : ∀ j, j < 201 * nw → T j = T0 j ∧ Y j = Y0 j ∧ V j = V0 j) (hj : j < D.length) (h5 : w' 148 = .inl (t.2.2.1, 2412, .inr (.inl (vp_updL V (201 * nw + j) nv)))) (hf : ∀ i, i ≠ 148 → w' i = w i) : isD t w' nw (D.set j ((D.getD j r0).1, (D.getD j r0).2.1, nv)) U0 M0 T0 Y0 V0 := by
  unfold isD
  have zl : (D.set j ((D.getD j r0).1, (D.getD j r0).2.1, nv)).length = D.length := List.length_set
  rw [List.take_of_length_le (by rw [zl]; exact e6), zl, decide_eq_false (show ¬ 200 < D.length by omega)]
  refine ⟨U, M, T, Y, _, (hf _ (by omega)).trans e1, (hf _ (by omega)).trans e2, (hf _ (by omega)).trans e3, (hf _ (by omega)).trans e4, h5, by rw [zl]; exact e6, e7, by rw [zl]; exact e8, sg_of (fun k hk => ?_), e10, fun k hk => ⟨(e11 k hk).1, (e11 k hk).2.1, by rw [updL_n (by omega)]; exact (e11 k hk).2.2⟩⟩
  rw [zl] at hk
  by_cases q : k = j
  · subst q
    rw [List.getD_eq_getElem?_getD, List.getElem?_set_self hk, updL_s, sg_get e9 hk]; rfl
  · rw [List.getD_eq_getElem?_getD, List.getElem?_set_ne (Ne.symm q), ← List.getD_eq_getElem?_getD, updL_n (by omega), sg_get e9 hk]
