theorem al_set {S T Y V Z : Nat → Int32} {n j : Nat} {z : Int32} (h : j < n) : al S T Y V (upd Z j z) n = (al S T Y V Z n).set j (S j, T j, Y j, V j, z) := by
  apply List.ext_getElem?
  intro i
  by_cases hi : i = j
  · subst hi
    rw [List.getElem?_set_self (by rw [al_len]; exact h)]
    simp [al, h, pk_us]
  · rw [List.getElem?_set_ne (Ne.symm hi)]
    by_cases hn : i < n
    · simp [al, hn, pk_un hi]
    · simp [al, hn]
def setLate (a : AR) (z : Int32) : AR := (a.1, a.2.1, a.2.2.1, a.2.2.2.1, z)
def fmod (x y : Int64) : Int64 := if (x ^^^ y) < 0 ∧ ¬ (x - x / y * y) = 0 then x - x / y * y + y else x - x / y * y
theorem i64_ne0 {c : Int32} (h : ¬ c = 0) : ¬ c.toInt64 = 0 := by
  intro q
  apply h
  have h1 : c.toInt64.toInt = c.toInt := by simp
  rw [q] at h1
  apply Int32.toInt_inj.mp
  rw [← h1]; rfl
theorem inT_n {v : Int64} (h : inT v = true) : ∃ j : Nat, j < 8 ∧ v.toInt32 = nI j := by
  simp only [inT, Bool.and_eq_true, decide_eq_true_eq] at h
  obtain ⟨j, hj, rfl⟩ := pk_lOf (Int64.not_lt.mpr h.1)
  have h8 : lN j < lN 8 := h.2
  have := (pk_lLT hj (by decide)).mp h8
  exact ⟨j, this, lN_i j⟩
