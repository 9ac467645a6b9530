/-! spans: bounds as the rows go by; what any operator gives -/
def spI (i : Nat) (s : SP) : Prop := s.1 ≤ 100001 ∧ (∀ j, j < 6 → s.2.1 j ≤ i) ∧ s.2.2.2.length + (clo s.2.1 s.2.2.1 0 6).length ≤ i
theorem spI_step {i size how : Nat} {s : SP} {x : RW} (h : spI i s) (hx : okR x) : spI (i + 1) (spF size how s x) := by
  obtain ⟨h1, h2, h3⟩ := h
  obtain ⟨-, x2, -, x4⟩ := okR_n hx
  have hd : tN x / size ≤ tN x := Nat.div_le_self _ _
  unfold spF
  by_cases hc : tN x / size + 1 = s.1
  · simp only [hc, if_true]
    refine ⟨h1, fun j hj => ?_, ?_⟩
    · show va_up s.2.1 (kN x) (s.2.1 (kN x) + 1) j ≤ i + 1
      by_cases q : j = kN x
      · subst q; rw [va_up_self]; have := h2 _ x4; omega
      · rw [va_up_ne _ _ q]; have := h2 j hj; omega
    · refine Nat.le_trans (Nat.add_le_add_left (clo_up (C := s.2.1) (R := s.2.2.1) (tm := 0) 6) _) ?_
      rw [if_pos x4]
      show s.2.2.2.length + ((clo s.2.1 s.2.2.1 0 6).length + 1) ≤ i + 1
      omega
  · simp only [hc, if_false]
    refine ⟨by show tN x / size + 1 ≤ 100001; omega, fun j hj => ?_, ?_⟩
    · show va_up (fun _ => 0) (kN x) (0 + 1) j ≤ i + 1
      by_cases q : j = kN x
      · subst q; rw [va_up_self]; omega
      · rw [va_up_ne _ _ q]; omega
    · have h5 := clo_len s.2.1 s.2.2.1 s.2.2.1 (nI (s.1 * size) - 1) 0 6
      refine Nat.le_trans (Nat.add_le_add_left (clo_up (C := fun _ => 0) (R := fun _ => 0) (tm := 0) 6) _) ?_
      rw [if_pos x4, clo_zero]
      show (s.2.2.2 ++ clo s.2.1 s.2.2.1 (nI (s.1 * size) - 1) 6).length + (0 + 1) ≤ i + 1
      rw [List.length_append, h5]
      omega
theorem spI_fold {size how : Nat} {P : List RW} (hok : ∀ i, i < P.length → okR (P.getD i r0)) : ∀ i, i ≤ P.length → spI i ((P.take i).foldl (spF size how) sp0)
  | 0, _ => by
    refine ⟨by simp, fun j _ => by simp, ?_⟩
    simp [clo_zero]
  | i + 1, h => by
    rw [foldl_take _ _ (by omega)]
    exact spI_step (spI_fold hok i (by omega)) (hok i (by omega))
def gv (I : Nat → Int32) (kd a : Nat) (b : Int32) (P Q : List RW) : List RW :=
  if kd ≤ 3 then eachL I kd a b P else if kd = 4 then spL a b.toNatClampNeg P else if kd = 5 then srt aboveT (jn P Q a) else if kd = 6 then mrg P Q else if kd = 7 then srt aboveT (fallL P (nI a) P.length) else firL P a P.length
