/-! the parts of the class beside Rows, and what they are: the table, the arrivals, an operator, a span -/
theorem takeS {α : Type} {L : List α} {i : Nat} (d : α) (h : i < L.length) : L.take (i + 1) = L.take i ++ [L.getD i d] := by
  rw [List.take_succ, List.getElem?_eq_getElem h]
  simp [List.getD_eq_getElem?_getD, List.getElem?_eq_getElem h]
def isTab (t : TT) (ad : Nat → Nat) (w : Nat → va_E) (k : Nat) (I : Nat → Int32) : Prop :=
  ∃ I' : Nat → Int32, w k = .inr (6, [.ref (ad (k + 1))]) ∧ w (k + 1) = .inl (t.2.1, 8, .inl I') ∧ ∀ j, j < 8 → I' j = I j
theorem isTab.keep {t : TT} {ad : Nat → Nat} {w w' : Nat → va_E} {k : Nat} {I : Nat → Int32} (h : isTab t ad w k I) (hk : ∀ i, k ≤ i → i < k + 2 → w' i = w i) : isTab t ad w' k I := by
  obtain ⟨I', h0, h1, h2⟩ := h
  exact ⟨I', (hk k (by omega) (by omega)).trans h0, (hk (k + 1) (by omega) (by omega)).trans h1, h2⟩
def inT (v : Int64) : Bool := decide (0 ≤ v) && decide (v < 8)
def ffail (f : Nat) (v : Int64) (c : Int32) : Int32 := if (f = 2 ∨ f = 3) ∧ c = 0 then 0 else if f = 4 ∧ inT v = false then 1 else -1
def fres (I : Nat → Int32) (f : Nat) (v : Int64) (c : Int32) : Int64 :=
  if f = 0 then v + c.toInt64 else if f = 1 then v * c.toInt64 else if f = 2 then (if c = 0 then 0 else v / c.toInt64) else if f = 3 then (if c = 0 then 0 else v - v / c.toInt64 * c.toInt64)
  else if f = 4 then (if inT v = true then (I v.toInt32.toNatClampNeg).toInt64 else 0) else if f = 5 then c.toInt64 - v else v.toInt32.toInt8.toInt32.toInt64
abbrev AR : Type := Int32 × Int32 × Int32 × Int32 × Int32
abbrev a0 : AR := (0, 0, 0, 0, 0)
def al (S T Y V Z : Nat → Int32) (n : Nat) : List AR := (List.range n).map (fun i => (S i, T i, Y i, V i, Z i))
theorem al_len (S T Y V Z : Nat → Int32) (n : Nat) : (al S T Y V Z n).length = n := by simp [al]
theorem al_at {S T Y V Z : Nat → Int32} {n j : Nat} (h : j < n) : (al S T Y V Z n).getD j a0 = (S j, T j, Y j, V j, Z j) := by
  rw [List.getD_eq_getElem?_getD]; simp [al, h]
theorem al_push (S T Y V Z : Nat → Int32) (n : Nat) : al S T Y V Z (n + 1) = al S T Y V Z n ++ [(S n, T n, Y n, V n, Z n)] := by simp [al, List.range_succ]
theorem al_eq {S T Y V Z S' T' Y' V' Z' : Nat → Int32} {n : Nat} (h : ∀ i, i < n → (S i, T i, Y i, V i, Z i) = (S' i, T' i, Y' i, V' i, Z' i)) : al S T Y V Z n = al S' T' Y' V' Z' n := by
  unfold al
  apply List.map_congr_left
  intro i hi
  exact h i (List.mem_range.mp hi)
def isArr (t : TT) (ad : Nat → Nat) (w : Nat → va_E) (k : Nat) (A : List AR) : Prop :=
  ∃ (S T Y V Z : Nat → Int32) (n : Nat), w k = .inr (0, [.ref (ad (k + 1)), .ref (ad (k + 2)), .ref (ad (k + 3)), .ref (ad (k + 4)), .ref (ad (k + 5)), .int (nI n)]) ∧ w (k + 1) = .inl (t.2.1, 60, .inl S) ∧ w (k + 2) = .inl (t.2.1, 60, .inl T) ∧ w (k + 3) = .inl (t.2.1, 60, .inl Y) ∧ w (k + 4) = .inl (t.2.1, 60, .inl V) ∧ w (k + 5) = .inl (t.2.2.2.1, 60, .inl Z) ∧ n ≤ 60 ∧ A = al S T Y V Z n
theorem isArr.keep {t : TT} {ad : Nat → Nat} {w w' : Nat → va_E} {k : Nat} {A : List AR} (h : isArr t ad w k A) (hk : ∀ i, k ≤ i → i < k + 6 → w' i = w i) : isArr t ad w' k A := by
  obtain ⟨S, T, Y, V, Z, n, h0, h1, h2, h3, h4, h5, hn, hA⟩ := h
  exact ⟨S, T, Y, V, Z, n, (hk k (by omega) (by omega)).trans h0, (hk (k + 1) (by omega) (by omega)).trans h1, (hk (k + 2) (by omega) (by omega)).trans h2, (hk (k + 3) (by omega) (by omega)).trans h3, (hk (k + 4) (by omega) (by omega)).trans h4, (hk (k + 5) (by omega) (by omega)).trans h5, hn, hA⟩
theorem isArr.obj {t : TT} {ad : Nat → Nat} {w : Nat → va_E} {k : Nat} {A : List AR} (h : isArr t ad w k A) : w k = .inr (0, [.ref (ad (k + 1)), .ref (ad (k + 2)), .ref (ad (k + 3)), .ref (ad (k + 4)), .ref (ad (k + 5)), .int (nI A.length)]) ∧ A.length ≤ 60 := by
  obtain ⟨S, T, Y, V, Z, n, h0, h1, h2, h3, h4, h5, hn, hA⟩ := h
  subst hA; rw [al_len]; exact ⟨h0, hn⟩
def sel1 (s : Int32) (a : AR) : List RW := if a.1 = s ∧ a.2.2.2.2 = 0 then [(a.2.1, a.2.2.1, a.2.2.2.1.toInt64)] else []
def sel (s : Int32) (A : List AR) : List RW := A.flatMap (sel1 s)
theorem sel_take {s : Int32} {A : List AR} {i : Nat} (h : i < A.length) : sel s (A.take (i + 1)) = sel s (A.take i) ++ sel1 s (A.getD i a0) := by
  rw [takeS a0 h]; simp [sel]
theorem sel_len (s : Int32) : ∀ A : List AR, (sel s A).length ≤ A.length
  | [] => Nat.le_refl _
  | a :: A => by
    have h1 : (sel s (a :: A)).length = (sel1 s a).length + (sel s A).length := by simp [sel]
    have h2 := sel_len s A
    have h3 : (sel1 s a).length ≤ 1 := by unfold sel1; split <;> simp
    rw [h1, List.length_cons]; omega
abbrev opF (ad : Nat → Nat) (k : Nat) (kd p q a b u z x : Int32) : List Value := [.ref (ad (k + 1)), .ref (ad (k + 5)), .int kd, .int p, .int q, .int a, .int b, .int u, .int z, .int x]
def isSpan (t : TT) (ad : Nat → Nat) (w : Nat → va_E) (k : Nat) (C : Nat → Nat) (R : Nat → Int64) : Prop :=
  ∃ (C' : Nat → Int32) (R' : Nat → Int64), w k = .inr (5, [.ref (ad (k + 1)), .ref (ad (k + 2))]) ∧ w (k + 1) = .inl (t.2.1, 6, .inl C') ∧ w (k + 2) = .inl (t.2.2.1, 6, .inr (.inl R')) ∧ ∀ j, j < 6 → C' j = nI (C j) ∧ R' j = R j
theorem isSpan.keep {t : TT} {ad : Nat → Nat} {w w' : Nat → va_E} {k : Nat} {C : Nat → Nat} {R : Nat → Int64} (h : isSpan t ad w k C R) (hk : ∀ i, k ≤ i → i < k + 3 → w' i = w i) : isSpan t ad w' k C R := by
  obtain ⟨C', R', h0, h1, h2, h3⟩ := h
  exact ⟨C', R', (hk k (by omega) (by omega)).trans h0, (hk (k + 1) (by omega) (by omega)).trans h1, (hk (k + 2) (by omega) (by omega)).trans h2, h3⟩
def sStart (how : Nat) (v : Int64) : Int64 := if how = 1 then 1 else v
def sNext (how : Nat) (b v : Int64) : Int64 := if how = 0 then b + v else if how = 1 then b + 1 else if how = 2 then (if v < b then v else b) else if how = 3 then (if b < v then v else b) else v
def clo (C : Nat → Nat) (R : Nat → Int64) (time : Int32) (n : Nat) : List RW := (List.range n).flatMap (fun k => if 0 < C k then [(time, nI k, R k)] else [])
theorem clo_succ (C : Nat → Nat) (R : Nat → Int64) (time : Int32) (n : Nat) : clo C R time (n + 1) = clo C R time n ++ (if 0 < C n then [(time, nI n, R n)] else []) := by simp [clo, List.range_succ]
theorem clo_mono (C : Nat → Nat) (R : Nat → Int64) (time : Int32) {a b : Nat} (h : a ≤ b) : (clo C R time a).length ≤ (clo C R time b).length := by
  induction b with
  | zero => rw [show a = 0 by omega]; exact Nat.le_refl _
  | succ b ih =>
    rcases Nat.lt_or_ge b a with q | q
    · rw [show a = b + 1 by omega]; exact Nat.le_refl _
    · rw [clo_succ, List.length_append]; have := ih q; omega
