/-! pure rows on lists of rows: order, counting, the first difference -/
abbrev r0 : RW := (0, 0, 0)
theorem cmpI_0 {x y : Int32} : cmpI x y = 0 ↔ x = y := by
  unfold cmpI
  constructor
  · intro h
    split at h
    · exact absurd h (by decide)
    · split at h
      · assumption
      · exact absurd h (by decide)
  · intro h; subst h
    rw [if_neg (Int32.lt_irrefl), if_pos rfl]
theorem ordA_0 {a : RW} {time key : Int32} : ordA a time key = 0 ↔ a.1 = time ∧ a.2.1 = key := by
  unfold ordA
  constructor
  · intro h
    split at h
    · rename_i h2; exact ⟨cmpI_0.mp h2, cmpI_0.mp h⟩
    · rename_i h2; exact absurd h h2
  · rintro ⟨h1, h2⟩
    rw [if_pos (cmpI_0.mpr h1)]; exact cmpI_0.mpr h2
def fd : List RW → List RW → Nat
  | a :: as, b :: bs => if a = b then fd as bs + 1 else 0
  | _, _ => 0
theorem fd_is : ∀ (i : Nat) (A B : List RW), (∀ k, k < i → k < A.length ∧ k < B.length ∧ A.getD k r0 = B.getD k r0) → ¬ (i < A.length ∧ i < B.length ∧ A.getD i r0 = B.getD i r0) → fd A B = i
  | 0, [], B, _, _ => by simp [fd]
  | 0, a :: A, [], _, _ => by simp [fd]
  | 0, a :: A, b :: B, _, h => by
    have : ¬ a = b := fun q => h ⟨by simp, by simp, by simpa using q⟩
    simp [fd, this]
  | i + 1, [], B, h, _ => by have := (h 0 (by omega)).1; simp at this
  | i + 1, a :: A, [], h, _ => by have := (h 0 (by omega)).2.1; simp at this
  | i + 1, a :: A, b :: B, h, h2 => by
    have hab : a = b := by have := (h 0 (by omega)).2.2; simpa using this
    rw [fd, if_pos hab, fd_is i A B (fun k hk => ?_) (fun q => h2 ?_)]
    · have := h (k + 1) (by omega)
      simpa using this
    · simpa using q
def hm (L : List RW) (time key : Int32) : Nat := L.countP (fun a => decide (ordA a time key = 0))
theorem take_succ {L : List RW} {i : Nat} (h : i < L.length) : L.take (i + 1) = L.take i ++ [L.getD i r0] := by
  rw [List.take_succ, List.getElem?_eq_getElem h]
  simp [List.getD_eq_getElem?_getD, List.getElem?_eq_getElem h]
theorem insR_len (p : RW → Bool) (x : RW) : ∀ L : List RW, (insR p L x).length = L.length + 1
  | [] => rfl
  | y :: ys => by
    rw [insR]
    split
    · simp [insR_len p x ys]
    · simp
theorem ins_len (g : RW → RW → Bool) (L : List RW) (x : RW) : (ins g L x).length = L.length + 1 := by
  unfold ins
  rw [List.length_reverse, insR_len, List.length_reverse]
def srt (g : RW → RW → Bool) (L : List RW) : List RW := L.foldl (ins g) []
theorem foldl_ins_len (g : RW → RW → Bool) : ∀ (L A : List RW), (L.foldl (ins g) A).length = A.length + L.length
  | [], A => by simp
  | x :: L, A => by
    rw [List.foldl_cons, foldl_ins_len g L, ins_len]
    simp; omega
theorem srt_len (g : RW → RW → Bool) (L : List RW) : (srt g L).length = L.length := by
  unfold srt; rw [foldl_ins_len]; simp
theorem srt_snoc (g : RW → RW → Bool) (L : List RW) (x : RW) : srt g (L ++ [x]) = ins g (srt g L) x := by
  unfold srt; rw [List.foldl_append]; rfl
theorem srt_take {g : RW → RW → Bool} {L : List RW} {i : Nat} (h : i < L.length) : srt g (L.take (i + 1)) = ins g (srt g (L.take i)) (L.getD i r0) := by
  rw [take_succ h, srt_snoc]
theorem rw_eta (x : RW) : (x.1, x.2.1, x.2.2) = x := rfl
