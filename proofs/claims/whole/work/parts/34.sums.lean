/-! judging all: what adds up -/
theorem failS_eq {J K : Nat → JR} : ∀ {n : Nat}, (∀ k, k < n → J k = K k) → failS J n = failS K n
  | 0, _ => rfl
  | n + 1, h => by rw [failS, failS, failS_eq (fun k hk => h k (by omega)), h n (by omega)]
theorem doneN_eq {J K : Nat → JR} {n : Nat} (h : ∀ k, k < n → J k = K k) : doneN J n = doneN K n := by
  unfold doneN
  apply List.countP_congr
  intro k hk
  rw [h k (List.mem_range.mp hk)]
theorem failS_step {A : List AR} {I : Nat → Int32} {O : List OD} {J : Nat → JR} {i : Nat} : failS (jN A I O J (i + 1)) (i + 1) = failS (jN A I O J i) i + ((jOne A I O (jN A I O J i) i).2.2.1 + (jOne A I O (jN A I O J i) i).2.2.2) := by
  rw [failS]
  congr 1
  · exact failS_eq (fun k hk => jN_new hk (by omega))
  · rw [jN, va_up_self]
theorem doneN_step {A : List AR} {I : Nat → Int32} {O : List OD} {J : Nat → JR} {i : Nat} : doneN (jN A I O J (i + 1)) (i + 1) = doneN (jN A I O J i) i + bN (!(jOne A I O (jN A I O J i) i).1) := by
  have h1 : doneN (jN A I O J (i + 1)) i = doneN (jN A I O J i) i := doneN_eq (fun k hk => jN_new hk (by omega))
  rw [← h1]
  unfold doneN
  rw [List.range_succ, List.countP_append, List.countP_singleton]
  congr 1
  rw [jN, va_up_self]
  cases (jOne A I O (jN A I O J i) i).1 <;> rfl
theorem jDef_len {A : List AR} {I : Nat → Int32} {o : OD} {J : Nat → JR} (hA : A.length ≤ 60) : (jDef A I o J).2.1.length ≤ 200 := by
  unfold jDef
  split
  · show (srt aboveT (sel (nI o.2.2.2.1) A)).length ≤ 200
    rw [srt_len]; have := sel_len (nI o.2.2.2.1) A; omega
  · split
    · simp
    · split
      · assumption
      · simp
theorem jDef_fail {A : List AR} {I : Nat → Int32} {o : OD} {J : Nat → JR} (hp : (J o.2.1).2.1.length ≤ 200) : (jDef A I o J).2.2.1 ≤ 200 ∧ (jDef A I o J).2.2.2 ≤ 200 := by
  have h0 := failN_le 0 o.2.2.2.1 o.2.2.2.2 (J o.2.1).2.1
  have h1 := failN_le 1 o.2.2.2.1 o.2.2.2.2 (J o.2.1).2.1
  unfold jDef
  split
  · simp
  · split
    · simp
    · split
      · dsimp only
        constructor
        · split <;> omega
        · split <;> omega
      · simp
theorem jN_len {A : List AR} {I : Nat → Int32} {O : List OD} {J : Nat → JR} {fc : Nat} (h : okS A O fc) : ∀ {i k : Nat}, k < i → (jN A I O J i k).2.1.length ≤ 200
  | i + 1, k, hk => by
    by_cases q : k = i
    · subst q; rw [jN, va_up_self]; exact jDef_len h.1
    · rw [jN, va_up_ne _ _ q]; exact jN_len h (by omega)
theorem failS_le {A : List AR} {I : Nat → Int32} {O : List OD} {J : Nat → JR} {fc : Nat} (h : okS A O fc) : ∀ {i : Nat}, i ≤ O.length → failS (jN A I O J i) i ≤ 400 * i
  | 0, _ => by simp [failS]
  | i + 1, hi => by
    rw [failS_step]
    have h1 := failS_le h (I := I) (J := J) (i := i) (by omega)
    have h2 : (jOne A I O (jN A I O J i) i).2.2.1 ≤ 200 ∧ (jOne A I O (jN A I O J i) i).2.2.2 ≤ 200 := by
      by_cases hz : (O.getD i o0).1 = 0
      · unfold jOne jDef; rw [if_pos hz]; simp
      · exact jDef_fail (jN_len h ((h.2.2.2.1 i (by omega)).2.2.1 (by omega)).1)
    omega
