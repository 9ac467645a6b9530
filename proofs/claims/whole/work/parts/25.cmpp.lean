/-! comparing: by order, by sets -/
abbrev DF : Type := Option (Int32 × Int32 × Int32)
def cO (G T : List RW) : Nat × DF :=
  if fd G T < G.length then (if fd G T < T.length then 3 else 1, some (nI (fd G T), (G.getD (fd G T) r0).1, (G.getD (fd G T) r0).2.1))
  else if fd G T < T.length then (2, some (nI (fd G T), (T.getD (fd G T) r0).1, (T.getD (fd G T) r0).2.1)) else (0, none)
def dOf (a b : Nat) : Nat := if a = b then 3 else if b < a then 1 else 2
def cS1 (G T : List RW) (x : RW) : Nat × DF := (dOf (hm G x.1 x.2.1) (hm T x.1 x.2.1), some (-4, x.1, x.2.1))
def cS2 (G T A B : List RW) (i : Nat) : Nat × DF :=
  if i < A.length then (if i < B.length then (if ordA (A.getD i r0) (B.getD i r0).1 (B.getD i r0).2.1 ≤ 0 then cS1 G T (A.getD i r0) else cS1 G T (B.getD i r0)) else cS1 G T (A.getD i r0))
  else if i < B.length then cS1 G T (B.getD i r0) else (0, none)
def cS (G T : List RW) : Nat × DF := cS2 G T (srt aboveS G) (srt aboveS T) (fd (srt aboveS G) (srt aboveS T))
abbrev cmF (ad : Nat → Nat) (k : Nat) (d pl tm ky : Int32) : List Value := [.ref (ad (k + 1)), .ref (ad (k + 5)), .int d, .int pl, .int tm, .int ky]
/-- the Comparison of the name k remembers df; its two Rows stand behind it -/
def isCmp (t : TT) (ad : Nat → Nat) (w : Nat → va_E) (k : Nat) (df : DF) : Prop :=
  ∃ (d pl tm ky : Int32), w k = .inr (1, cmF ad k d pl tm ky) ∧ (df = none → d = nI 0) ∧ (∀ x, df = some x → d = nI 1 ∧ (pl, tm, ky) = x)
def isCR (t : TT) (ad : Nat → Nat) (w : Nat → va_E) (k : Nat) : Prop := (∃ L, isRows t ad w (k + 1) 200 L) ∧ ∃ L, isRows t ad w (k + 5) 40 L
theorem isCR.keep {t : TT} {ad : Nat → Nat} {w w' : Nat → va_E} {k : Nat} (h : isCR t ad w k) (hk : ∀ i, k + 1 ≤ i → i < k + 9 → w' i = w i) : isCR t ad w' k := by
  obtain ⟨⟨L1, h1⟩, L2, h2⟩ := h
  exact ⟨⟨L1, h1.keep (fun i a b => hk i (by omega) (by omega))⟩, L2, h2.keep (fun i a b => hk i (by omega) (by omega))⟩
theorem isCmp.some {t : TT} {ad : Nat → Nat} {w : Nat → va_E} {k : Nat} {a b c : Int32} (h : w k = .inr (1, cmF ad k (nI 1) a b c)) : isCmp t ad w k (some (a, b, c)) :=
  ⟨_, _, _, _, h, fun q => (by cases q), fun x hx => (by cases hx; exact ⟨rfl, rfl⟩)⟩
theorem isCmp.none {t : TT} {ad : Nat → Nat} {w : Nat → va_E} {k : Nat} {a b c : Int32} (h : w k = .inr (1, cmF ad k (nI 0) a b c)) : isCmp t ad w k none :=
  ⟨_, _, _, _, h, fun _ => rfl, fun x hx => (by cases hx)⟩
theorem isCmp.keep {t : TT} {ad : Nat → Nat} {w w' : Nat → va_E} {k : Nat} {df : DF} (h : isCmp t ad w k df) (hk : w' k = w k) : isCmp t ad w' k df := by
  obtain ⟨d, pl, tm, ky, h0, h1⟩ := h
  exact ⟨d, pl, tm, ky, hk.trans h0, h1⟩
theorem fd_le : ∀ (A B : List RW), fd A B ≤ A.length
  | [], B => by simp [fd]
  | a :: A, [] => by simp [fd]
  | a :: A, b :: B => by
    rw [fd]
    split
    · have := fd_le A B; simp; omega
    · omega
