/-! ROWS: a row is (time, key, value); a Rows object is a list of them -/
abbrev RW : Type := Int32 × Int32 × Int64
def rl (T Y : Nat → Int32) (V : Nat → Int64) (n : Nat) : List RW := (List.range n).map (fun i => (T i, Y i, V i))
theorem rl_len (T Y : Nat → Int32) (V : Nat → Int64) (n : Nat) : (rl T Y V n).length = n := by simp [rl]
theorem rl_get {T Y : Nat → Int32} {V : Nat → Int64} {n i : Nat} (h : i < n) : (rl T Y V n)[i]? = some (T i, Y i, V i) := by simp [rl, h]
theorem rl_none {T Y : Nat → Int32} {V : Nat → Int64} {n i : Nat} (h : n ≤ i) : (rl T Y V n)[i]? = none := by
  rw [List.getElem?_eq_none]; rw [rl_len]; exact h
theorem rl_eq {T Y T' Y' : Nat → Int32} {V V' : Nat → Int64} {n : Nat} (h : ∀ i, i < n → T i = T' i ∧ Y i = Y' i ∧ V i = V' i) : rl T Y V n = rl T' Y' V' n := by
  apply List.ext_getElem?
  intro i
  by_cases hi : i < n
  · rw [rl_get hi, rl_get hi, (h i hi).1, (h i hi).2.1, (h i hi).2.2]
  · rw [rl_none (by omega), rl_none (by omega)]
theorem rl_push (T Y : Nat → Int32) (V : Nat → Int64) (n : Nat) : rl T Y V (n + 1) = rl T Y V n ++ [(T n, Y n, V n)] := by simp [rl, List.range_succ]
def rAt (L : List RW) (i : Int32) : RW := if i < 0 then (0, 0, 0) else L.getD i.toNatClampNeg (0, 0, 0)
theorem rAt_n (L : List RW) {j : Nat} (h : j < 2 ^ 31) : rAt L (nI j) = L.getD j (0, 0, 0) := by
  rw [rAt, if_neg (nI_pos h), nI_clamp h]
theorem rAt_neg (L : List RW) {i : Int32} (h : i < 0) : rAt L i = (0, 0, 0) := by rw [rAt, if_pos h]
theorem rl_at {T Y : Nat → Int32} {V : Nat → Int64} {n j : Nat} (h : j < n) : (rl T Y V n).getD j (0, 0, 0) = (T j, Y j, V j) := by
  rw [List.getD_eq_getElem?_getD, rl_get h]; rfl
theorem rl_out {T Y : Nat → Int32} {V : Nat → Int64} {n j : Nat} (h : n ≤ j) : (rl T Y V n).getD j (0, 0, 0) = (0, 0, 0) := by
  rw [List.getD_eq_getElem?_getD, rl_none h]; rfl
theorem nb_n {x : Int32} (h : x = 0 ∨ x = 1) : narrow .boolean (.int x) = .int x := by rcases h with h | h <;> subst h <;> decide +kernel
theorem nb_f {x : Int32} (h : x = 0 ∨ x = 1) : fits .boolean (.int x) = true := by rcases h with h | h <;> subst h <;> decide +kernel
/-- the Rows object of the name r, with room for cap rows, holds L; its arrays are the three cells behind it -/
def isRows (t : TT) (ad : Nat → Nat) (w : Nat → va_E) (r cap : Nat) (L : List RW) : Prop :=
  ∃ (T Y : Nat → Int32) (V : Nat → Int64) (n : Nat), w r = .inr (4, [.ref (ad (r + 1)), .ref (ad (r + 2)), .ref (ad (r + 3)), .int (nI n)]) ∧ w (r + 1) = .inl (t.2.1, cap, .inl T) ∧ w (r + 2) = .inl (t.2.1, cap, .inl Y) ∧ w (r + 3) = .inl (t.2.2.1, cap, .inr (.inl V)) ∧ n ≤ cap ∧ L = rl T Y V n
theorem isRows.keep {t : TT} {ad : Nat → Nat} {w w' : Nat → va_E} {r cap : Nat} {L : List RW} (h : isRows t ad w r cap L) (k : ∀ i, r ≤ i → i < r + 4 → w' i = w i) : isRows t ad w' r cap L := by
  obtain ⟨T, Y, V, n, h0, h1, h2, h3, hn, hL⟩ := h
  exact ⟨T, Y, V, n, (k r (by omega) (by omega)).trans h0, (k (r + 1) (by omega) (by omega)).trans h1, (k (r + 2) (by omega) (by omega)).trans h2, (k (r + 3) (by omega) (by omega)).trans h3, hn, hL⟩
theorem isRows.le {t : TT} {ad : Nat → Nat} {w : Nat → va_E} {r cap : Nat} {L : List RW} (h : isRows t ad w r cap L) : L.length ≤ cap := by
  obtain ⟨T, Y, V, n, h0, h1, h2, h3, hn, rfl⟩ := h
  rw [rl_len]; exact hn
theorem isRows.obj {t : TT} {ad : Nat → Nat} {w : Nat → va_E} {r cap : Nat} {L : List RW} (h : isRows t ad w r cap L) : w r = .inr (4, [.ref (ad (r + 1)), .ref (ad (r + 2)), .ref (ad (r + 3)), .int (nI L.length)]) := by
  obtain ⟨T, Y, V, n, h0, h1, h2, h3, hn, rfl⟩ := h
  rw [rl_len]; exact h0
def isRaw (t : TT) (ad : Nat → Nat) (w : Nat → va_E) (r cap : Nat) (T Y : Nat → Int32) (V : Nat → Int64) (n : Nat) : Prop :=
  w r = .inr (4, [.ref (ad (r + 1)), .ref (ad (r + 2)), .ref (ad (r + 3)), .int (nI n)]) ∧ w (r + 1) = .inl (t.2.1, cap, .inl T) ∧ w (r + 2) = .inl (t.2.1, cap, .inl Y) ∧ w (r + 3) = .inl (t.2.2.1, cap, .inr (.inl V)) ∧ n ≤ cap
theorem isRaw.rows {t : TT} {ad : Nat → Nat} {w : Nat → va_E} {r cap : Nat} {T Y : Nat → Int32} {V : Nat → Int64} {n : Nat} (h : isRaw t ad w r cap T Y V n) : isRows t ad w r cap (rl T Y V n) := ⟨T, Y, V, n, h.1, h.2.1, h.2.2.1, h.2.2.2.1, h.2.2.2.2, rfl⟩
theorem isRows.raw {t : TT} {ad : Nat → Nat} {w : Nat → va_E} {r cap : Nat} {L : List RW} (h : isRows t ad w r cap L) : ∃ T Y V n, isRaw t ad w r cap T Y V n ∧ L = rl T Y V n := by
  obtain ⟨T, Y, V, n, h0, h1, h2, h3, hn, hL⟩ := h
  exact ⟨T, Y, V, n, ⟨h0, h1, h2, h3, hn⟩, hL⟩
/-! insertion from the right, behind all that are not above -/
def insR (p : RW → Bool) : List RW → RW → List RW
  | [], x => [x]
  | y :: ys, x => if p y = true then y :: insR p ys x else x :: y :: ys
def ins (g : RW → RW → Bool) (L : List RW) (x : RW) : List RW := (insR (fun y => g y x) L.reverse x).reverse
theorem insR_app {p : RW → Bool} {x : RW} : ∀ (B A : List RW), (∀ b ∈ B, p b = true) → insR p (B ++ A) x = B ++ insR p A x
  | [], A, _ => rfl
  | b :: B, A, h => by
    show insR p (b :: (B ++ A)) x = b :: (B ++ insR p A x)
    rw [insR, if_pos (h b List.mem_cons_self), insR_app B A (fun c hc => h c (List.mem_cons_of_mem _ hc))]
theorem ins_split {g : RW → RW → Bool} {A B : List RW} {x : RW} (hB : ∀ b ∈ B, g b x = true) (hA : ∀ a, A.getLast? = some a → g a x = false) : ins g (A ++ B) x = A ++ x :: B := by
  unfold ins
  rw [List.reverse_append, insR_app _ _ (fun b hb => hB b (List.mem_reverse.mp hb))]
  have : insR (fun y => g y x) A.reverse x = x :: A.reverse := by
    cases h : A.reverse with
    | nil => rfl
    | cons a l =>
      have ha : A.getLast? = some a := by
        rw [← List.head?_reverse, h]; rfl
      rw [insR, if_neg (by rw [hA a ha]; decide)]
  rw [this]
  simp
theorem rl_split (T Y : Nat → Int32) (V : Nat → Int64) {i n : Nat} (h : i ≤ n) : rl T Y V n = rl T Y V i ++ (List.range (n - i)).map (fun k => (T (i + k), Y (i + k), V (i + k))) := by
  apply List.ext_getElem?
  intro k
  by_cases hk : k < i
  · rw [rl_get (by omega), List.getElem?_append_left (by rw [rl_len]; exact hk), rl_get hk]
  · rw [List.getElem?_append_right (by rw [rl_len]; omega), rl_len]
    by_cases hk2 : k < n
    · rw [rl_get hk2, List.getElem?_map, List.getElem?_range (by omega)]
      simp only [Option.map_some]
      rw [show i + (k - i) = k by omega]
    · rw [rl_none (by omega), List.getElem?_eq_none (by simp; omega)]
theorem ins_rl (g : RW → RW → Bool) {T Y T' Y' : Nat → Int32} {V V' : Nat → Int64} {n i : Nat} {x : RW} (hi : i ≤ n) (h1 : ∀ k, k < i → (T' k, Y' k, V' k) = (T k, Y k, V k)) (h2 : (T' i, Y' i, V' i) = x) (h3 : ∀ k, i < k → k ≤ n → (T' k, Y' k, V' k) = (T (k - 1), Y (k - 1), V (k - 1))) (h4 : ∀ k, i ≤ k → k < n → g (T k, Y k, V k) x = true) (h5 : ∀ k, i = k + 1 → g (T k, Y k, V k) x = false) : rl T' Y' V' (n + 1) = ins g (rl T Y V n) x := by
  rw [rl_split T Y V hi, ins_split]
  · apply List.ext_getElem?
    intro k
    rcases Nat.lt_trichotomy k i with hk | hk | hk
    · rw [rl_get (by omega), List.getElem?_append_left (by rw [rl_len]; exact hk), rl_get hk, h1 k hk]
    · subst hk
      rw [rl_get (by omega), List.getElem?_append_right (by rw [rl_len]; exact Nat.le_refl _), rl_len, Nat.sub_self, h2]
      rfl
    · rw [List.getElem?_append_right (by rw [rl_len]; omega), rl_len, show k - i = (k - i - 1) + 1 by omega, List.getElem?_cons_succ]
      by_cases hk2 : k ≤ n
      · rw [rl_get (by omega), h3 k hk hk2, List.getElem?_map, List.getElem?_range (by omega)]
        simp only [Option.map_some]
        rw [show i + (k - i - 1) = k - 1 by omega]
      · rw [rl_none (by omega), List.getElem?_eq_none (by simp; omega)]
  · intro b hb
    obtain ⟨k, hk, rfl⟩ := List.mem_map.mp hb
    exact h4 _ (by omega) (by have := List.mem_range.mp hk; omega)
  · intro a ha
    cases i with
    | zero => simp [rl] at ha
    | succ k =>
      rw [rl_push, List.getLast?_append] at ha
      simp at ha
      rw [← ha]
      exact h5 k rfl
def cmpI (x y : Int32) : Int32 := if x < y then -1 else if x = y then 0 else 1
def ordA (a : RW) (time key : Int32) : Int32 := if cmpI a.1 time = 0 then cmpI a.2.1 key else cmpI a.1 time
def aboveT (y x : RW) : Bool := decide (x.1 < y.1)
def aboveS (y x : RW) : Bool := decide (0 < ordA y x.1 x.2.1) || (decide (ordA y x.1 x.2.1 = 0) && decide (x.2.2 < y.2.2))
theorem lgc_le {x y : Int64} : lg_cmp x y ≤ 0 ↔ x ≤ y := lg_cmp_le x y
theorem lgc_eq {x y : Int64} : lg_cmp x y = 0 ↔ x = y := lg_cmp_eq x y
theorem lgc_lt {x y : Int64} : lg_cmp x y < 0 ↔ x < y := lg_cmp_lt x y
theorem lgc_ge {x y : Int64} : 0 ≤ lg_cmp x y ↔ y ≤ x := lg_cmp_ge x y
theorem lgc_gt {x y : Int64} : 0 < lg_cmp x y ↔ y < x := lg_cmp_gt x y
