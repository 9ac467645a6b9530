/-! pure rows for meet, join, spans -/
theorem okR_n {x : RW} (h : okR x) : x.1 = nI (tN x) ∧ tN x < 100000 ∧ x.2.1 = nI (kN x) ∧ kN x < 6 := by
  obtain ⟨tn, yn, h1, h2, h3, h4⟩ := h
  have e1 : tN x = tn := by unfold tN; rw [h3, nI_clamp (by omega)]
  have e2 : kN x = yn := by unfold kN; rw [h4, nI_clamp (by omega)]
  rw [e1, e2]; exact ⟨h3, h1, h4, h2⟩
def asc (P : List RW) : Prop := ∀ i j, i < j → j < P.length → tN (P.getD i r0) ≤ tN (P.getD j r0)
theorem jlo {a b W : Nat} (ha : a < 100000) (hb : b < 100000) (hW : W ≤ 1000) : nI a - nI W ≤ nI b ↔ a ≤ b + W := by
  rw [Int32.le_iff_toInt_le, pk_sub_toInt (by omega) (by omega), nI_toInt (by omega)]; omega
theorem jhi {a b W : Nat} (ha : a < 100000) (hb : b < 100000) (hW : W ≤ 1000) : nI b ≤ nI a + nI W ↔ b ≤ a + W := by
  rw [nI_add, nI_leI (by omega) (by omega)]
theorem flat_take_len {β : Type} (g : RW → List β) (P : List RW) (i : Nat) : ((P.take i).flatMap g).length ≤ (P.flatMap g).length := by
  have h : P.flatMap g = (P.take i).flatMap g ++ (P.drop i).flatMap g := by
    rw [← List.flatMap_append, List.take_append_drop]
  rw [h, List.length_append]; omega
theorem flat_nil {β : Type} {g : RW → List β} {Q : List RW} (h : ∀ k, k < Q.length → g (Q.getD k r0) = []) : Q.flatMap g = [] := by
  induction Q with
  | nil => rfl
  | cons a A ih =>
    have h0 : g a = [] := by have := h 0 (by simp); simpa using this
    have h1 := ih (fun k hk => by have := h (k + 1) (by simpa using hk); simpa using this)
    simp [h0, h1]
theorem getD_take {P : List RW} {i k : Nat} (h : k < i) : (P.take i).getD k r0 = P.getD k r0 := by
  simp [List.getD_eq_getElem?_getD, List.getElem?_take, h]
theorem getD_drop {P : List RW} {i k : Nat} : (P.drop i).getD k r0 = P.getD (i + k) r0 := by
  simp [List.getD_eq_getElem?_getD, List.getElem?_drop]
theorem jRow_nil {W j : Nat} {a : RW} {Q : List RW} (h : ∀ k, k < j → k < Q.length → jMat a (Q.getD k r0) W = false) : jRow W a (Q.take j) = [] := by
  unfold jRow
  apply flat_nil
  intro k hk
  rw [List.length_take] at hk
  rw [getD_take (by omega), h k (by omega) (by omega)]
  rfl
theorem jRow_cut {W j : Nat} {a : RW} {Q : List RW} (h : ∀ k, j ≤ k → k < Q.length → jMat a (Q.getD k r0) W = false) : jRow W a Q = jRow W a (Q.take j) := by
  have h1 : jRow W a Q = jRow W a (Q.take j) ++ jRow W a (Q.drop j) := by
    unfold jRow; rw [← List.flatMap_append, List.take_append_drop]
  rw [h1]
  have h2 : jRow W a (Q.drop j) = [] := by
    unfold jRow
    apply flat_nil
    intro k hk
    rw [List.length_drop] at hk
    rw [getD_drop, h (j + k) (by omega) (by omega)]
    rfl
  rw [h2, List.append_nil]
theorem jRow_succ {W j : Nat} {a : RW} {Q : List RW} (h : j < Q.length) : jRow W a (Q.take (j + 1)) = jRow W a (Q.take j) ++ (if jMat a (Q.getD j r0) W = true then [pairR a (Q.getD j r0)] else []) := by
  unfold jRow; exact flat_take _ h
theorem jn_succ {W i : Nat} {P Q : List RW} (h : i < P.length) : jn (P.take (i + 1)) Q W = jn (P.take i) Q W ++ jRow W (P.getD i r0) Q := by
  unfold jn; exact flat_take _ h
theorem jn_big {W i j : Nat} {P Q : List RW} (h : i < P.length) : (jn (P.take i) Q W).length + (jRow W (P.getD i r0) (Q.take j)).length ≤ (jn P Q W).length := by
  have h1 : (jn (P.take (i + 1)) Q W).length ≤ (jn P Q W).length := flat_take_len _ P (i + 1)
  rw [jn_succ h, List.length_append] at h1
  have h2 : (jRow W (P.getD i r0) (Q.take j)).length ≤ (jRow W (P.getD i r0) Q).length := flat_take_len _ Q j
  omega
theorem nI_pr {a b : Nat} (ha : a < 2 ^ 30) (hb : b < 2 ^ 30) : nI a = nI b - nI 1 ↔ a + 1 = b := by
  constructor
  · intro h
    have h2 := congrArg Int32.toInt h
    rw [nI_toInt (by omega), pk_sub_toInt hb (by omega)] at h2
    omega
  · intro h; subst h; exact (pk_sub (a := a + 1) (b := 1) (by omega)).symm
theorem clo_up {C : Nat → Nat} {R R' : Nat → Int64} {tm tm' : Int32} {y : Nat} : ∀ n, (clo (va_up C y (C y + 1)) R' tm' n).length ≤ (clo C R tm n).length + (if y < n then 1 else 0)
  | 0 => by simp [clo]
  | n + 1 => by
    have ih := clo_up (C := C) (R := R) (R' := R') (tm := tm) (tm' := tm') (y := y) n
    rw [clo_succ, clo_succ, List.length_append, List.length_append]
    by_cases hny : n = y
    · subst hny
      rw [va_up_self, if_pos (show 0 < C n + 1 by omega)]
      rw [if_neg (show ¬ n < n by omega)] at ih
      rw [if_pos (show n < n + 1 by omega)]
      simp only [List.length_cons, List.length_nil]
      omega
    · rw [va_up_ne _ _ hny]
      have e : (if 0 < C n then [(tm', nI n, R' n)] else []).length = (if 0 < C n then [(tm, nI n, R n)] else []).length := by split <;> rfl
      rw [e]
      by_cases hy : y < n
      · rw [if_pos hy] at ih; rw [if_pos (show y < n + 1 by omega)]; omega
      · rw [if_neg hy] at ih; rw [if_neg (show ¬ y < n + 1 by omega)]; omega
theorem clo_zero (R : Nat → Int64) (tm : Int32) : ∀ n, clo (fun _ => 0) R tm n = []
  | 0 => rfl
  | n + 1 => by rw [clo_succ, clo_zero R tm n]; rfl
theorem clo_len (C : Nat → Nat) (R R' : Nat → Int64) (tm tm' : Int32) : ∀ n, (clo C R tm n).length = (clo C R' tm' n).length
  | 0 => by simp [clo]
  | n + 1 => by
    rw [clo_succ, clo_succ, List.length_append, List.length_append, clo_len C R R' tm tm' n]
    split <;> rfl
