/-! what the operators give, as lists -/
def okR (x : RW) : Prop := ∃ tn yn : Nat, tn < 100000 ∧ yn < 6 ∧ x.1 = nI tn ∧ x.2.1 = nI yn
def pairR (a b : RW) : RW := (if a.1 < b.1 then b.1 else a.1, a.2.1, 1000 * a.2.2 + b.2.2)
def eachR (kd : Nat) (x : RW) (v : Int64) : List RW := if kd = 1 then [(x.1, x.2.1, v)] else if kd = 3 then [(x.1, (fmod v 6).toInt32, x.2.2)] else if 0 < v then [x] else []
def each1 (I : Nat → Int32) (kd f : Nat) (c : Int32) (x : RW) : List RW := if ffail f x.2.2 c = -1 then eachR kd x (fres I f x.2.2 c) else []
def eachL (I : Nat → Int32) (kd f : Nat) (c : Int32) (P : List RW) : List RW := P.flatMap (each1 I kd f c)
def failN (k : Int32) (f : Nat) (c : Int32) (P : List RW) : Nat := P.countP (fun x => decide (ffail f x.2.2 c = k))
theorem flat_take {β : Type} {P : List RW} {i : Nat} (g : RW → List β) (h : i < P.length) : (P.take (i + 1)).flatMap g = (P.take i).flatMap g ++ g (P.getD i r0) := by
  rw [takeS r0 h]; simp
theorem count_take {P : List RW} {i : Nat} (g : RW → Bool) (h : i < P.length) : (P.take (i + 1)).countP g = (P.take i).countP g + (if g (P.getD i r0) = true then 1 else 0) := by
  rw [takeS r0 h, List.countP_append, List.countP_singleton]
theorem eachR_len (kd : Nat) (x : RW) (v : Int64) : (eachR kd x v).length ≤ 1 := by
  unfold eachR; split
  · simp
  · split
    · simp
    · split <;> simp
theorem flat_len {g : RW → List RW} (h : ∀ x, (g x).length ≤ 1) : ∀ P : List RW, (P.flatMap g).length ≤ P.length
  | [] => Nat.le_refl _
  | a :: A => by
    have h2 := flat_len h A
    have h3 := h a
    simp only [List.flatMap_cons, List.length_append, List.length_cons]; omega
theorem each1_len (I : Nat → Int32) (kd f : Nat) (c : Int32) (x : RW) : (each1 I kd f c x).length ≤ 1 := by
  unfold each1; split
  · exact eachR_len _ _ _
  · simp
def nextK (P : List RW) (i : Nat) : Option Nat := (List.range P.length).find? (fun j => decide (i < j) && decide ((P.getD j r0).2.1 = (P.getD i r0).2.1))
theorem nextK_some {P : List RW} {i j : Nat} (h1 : i < j) (h2 : j < P.length) (h3 : (P.getD j r0).2.1 = (P.getD i r0).2.1) (h4 : ∀ k, i < k → k < j → (P.getD k r0).2.1 ≠ (P.getD i r0).2.1) : nextK P i = some j := by
  unfold nextK
  rw [List.find?_range_eq_some]
  refine ⟨by simp only [h1, h3, decide_true, Bool.and_true], List.mem_range.mpr h2, fun k hk => ?_⟩
  by_cases hik : i < k
  · simp only [hik, decide_true, Bool.true_and, Bool.not_eq_true', decide_eq_false_iff_not]; exact h4 k hik hk
  · simp only [hik, decide_false, Bool.false_and, Bool.not_false]
theorem nextK_none {P : List RW} {i : Nat} (h : ∀ k, i < k → k < P.length → (P.getD k r0).2.1 ≠ (P.getD i r0).2.1) : nextK P i = none := by
  unfold nextK
  rw [List.find?_eq_none]
  intro k hk
  have hk2 := List.mem_range.mp hk
  by_cases hik : i < k
  · simp only [hik, decide_true, Bool.true_and, decide_eq_true_eq]; exact h k hik hk2
  · simp only [hik, decide_false, Bool.false_and]; decide
def fall1 (P : List RW) (W : Int32) (i : Nat) : List RW := match nextK P i with
  | none => []
  | some j => if (P.getD j r0).2.2 < (P.getD i r0).2.2 ∧ (P.getD j r0).1 - (P.getD i r0).1 ≤ W then [((P.getD j r0).1, (P.getD i r0).2.1, (P.getD i r0).2.2 - (P.getD j r0).2.2)] else []
def fallL (P : List RW) (W : Int32) (n : Nat) : List RW := (List.range n).flatMap (fall1 P W)
theorem fallL_succ (P : List RW) (W : Int32) (n : Nat) : fallL P W (n + 1) = fallL P W n ++ fall1 P W n := by simp [fallL, List.range_succ]
theorem fall1_len (P : List RW) (W : Int32) (i : Nat) : (fall1 P W i).length ≤ 1 := by
  unfold fall1; split
  · simp
  · split <;> simp
theorem fallL_len (P : List RW) (W : Int32) : ∀ n, (fallL P W n).length ≤ n
  | 0 => by simp [fallL]
  | n + 1 => by
    rw [fallL_succ, List.length_append]
    have := fallL_len P W n
    have := fall1_len P W n
    omega
def cntK (P : List RW) (i : Nat) (y : Int32) : Nat := (P.take i).countP (fun x => decide (x.2.1 = y))
def fir1 (P : List RW) (n i : Nat) : List RW := if cntK P i (P.getD i r0).2.1 < n then [P.getD i r0] else []
def firL (P : List RW) (n m : Nat) : List RW := (List.range m).flatMap (fir1 P n)
theorem firL_succ (P : List RW) (n m : Nat) : firL P n (m + 1) = firL P n m ++ fir1 P n m := by simp [firL, List.range_succ]
theorem firL_len (P : List RW) (n : Nat) : ∀ m, (firL P n m).length ≤ m
  | 0 => by simp [firL]
  | m + 1 => by
    rw [firL_succ, List.length_append]
    have := firL_len P n m
    have : (fir1 P n m).length ≤ 1 := by unfold fir1; split <;> simp
    omega
theorem cntK_succ {P : List RW} {i : Nat} (h : i < P.length) (y : Int32) : cntK P (i + 1) y = cntK P i y + (if (P.getD i r0).2.1 = y then 1 else 0) := by
  unfold cntK
  rw [count_take _ h]
  simp
def mrg : List RW → List RW → List RW
  | [], q => q
  | p :: ps, [] => p :: ps
  | p :: ps, q :: qs => if q.1 < p.1 then q :: mrg (p :: ps) qs else p :: mrg ps (q :: qs)
theorem mrg_len : ∀ P Q : List RW, (mrg P Q).length = P.length + Q.length
  | [], q => by simp [mrg]
  | p :: ps, [] => by simp [mrg]
  | p :: ps, q :: qs => by
    rw [mrg]
    split
    · rw [List.length_cons, mrg_len (p :: ps) qs]; simp; omega
    · rw [List.length_cons, mrg_len ps (q :: qs)]; simp; omega
theorem drop_cons {P : List RW} {i : Nat} (h : i < P.length) : P.drop i = P.getD i r0 :: P.drop (i + 1) := by
  rw [List.drop_eq_getElem_cons h]
  simp [List.getD_eq_getElem?_getD, List.getElem?_eq_getElem h]
theorem mrg_nil (P : List RW) : mrg P [] = P := by cases P <;> simp [mrg]
def jMat (a b : RW) (W : Nat) : Bool := decide (a.2.1 = b.2.1) && (decide (a.1 - nI W ≤ b.1) && decide (b.1 ≤ a.1 + nI W))
def jRow (W : Nat) (a : RW) (Q : List RW) : List RW := Q.flatMap (fun b => if jMat a b W = true then [pairR a b] else [])
def jn (P Q : List RW) (W : Nat) : List RW := P.flatMap (fun a => jRow W a Q)
abbrev SP : Type := Nat × (Nat → Nat) × (Nat → Int64) × List RW
def kN (x : RW) : Nat := x.2.1.toNatClampNeg
def tN (x : RW) : Nat := x.1.toNatClampNeg
/-- one row of SPANS as it goes by: the open span's number and one, the counts, the results, what was given -/
def spF (size how : Nat) (s : SP) (x : RW) : SP :=
  let s2 : SP := if tN x / size + 1 = s.1 then s else (tN x / size + 1, (fun _ => 0), (fun _ => 0), s.2.2.2 ++ clo s.2.1 s.2.2.1 (nI (s.1 * size) - 1) 6)
  (s2.1, va_up s2.2.1 (kN x) (s2.2.1 (kN x) + 1), va_up s2.2.2.1 (kN x) (if s2.2.1 (kN x) = 0 then sStart how x.2.2 else sNext how (s2.2.2.1 (kN x)) x.2.2), s2.2.2.2)
def spE (size : Nat) (s : SP) : List RW := s.2.2.2 ++ clo s.2.1 s.2.2.1 (nI (s.1 * size) - 1) 6
abbrev sp0 : SP := (0, (fun _ => 0), (fun _ => 0), [])
def spL (size how : Nat) (P : List RW) : List RW := spE size (P.foldl (spF size how) sp0)
theorem foldl_take {β : Type} {P : List RW} {i : Nat} (g : β → RW → β) (b : β) (h : i < P.length) : (P.take (i + 1)).foldl g b = g ((P.take i).foldl g b) (P.getD i r0) := by
  rw [takeS r0 h, List.foldl_append]; rfl
