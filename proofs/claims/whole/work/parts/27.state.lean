/-! THE STATE: arrivals A, items I, operators O, told rows Td, judged jd with its results J, failures fc, the difference df -/
abbrev OD : Type := Nat × Nat × Nat × Nat × Int32
abbrev o0 : OD := (0, 0, 0, 0, 0)
abbrev JR : Type := Bool × List RW × Nat × Nat
def ix (n : Nat) (i : Int32) : Option Nat := if i < 0 then none else if i.toNatClampNeg < n then some i.toNatClampNeg else none
theorem ix_n {n j : Nat} (h : j < 2 ^ 31) : ix n (nI j) = if j < n then some j else none := by
  rw [ix, if_neg (nI_pos h), nI_clamp h]
theorem ix_some {n j : Nat} {i : Int32} (h : ix n i = some j) : j < n ∧ j < 2 ^ 31 ∧ i = nI j := by
  unfold ix at h
  split at h
  · cases h
  · rename_i h0
    obtain ⟨m, hm, rfl⟩ := nI_of h0
    rw [nI_clamp hm] at h
    split at h
    · rename_i h1
      cases h
      exact ⟨h1, hm, rfl⟩
    · cases h
theorem ix_none {n : Nat} {i : Int32} (h : ix n i = none) : i < 0 ∨ ∃ j, n ≤ j ∧ j < 2 ^ 31 ∧ i = nI j := by
  unfold ix at h
  split at h
  · rename_i h0; exact Or.inl h0
  · rename_i h0
    obtain ⟨m, hm, rfl⟩ := nI_of h0
    rw [nI_clamp hm] at h
    split at h
    · cases h
    · exact Or.inr ⟨m, by omega, hm, rfl⟩
def wi (n lo hi : Int32) : Bool := decide (lo ≤ n) && decide (n ≤ hi)
theorem wi_ix {n : Nat} {i : Int32} (h : n < 2 ^ 30) : wi i (nI 0) (nI n - nI 1) = (ix n i).isSome := by
  rcases pk_ix i (n := n) (by omega) with h1 | h1 | ⟨j, h1, rfl⟩
  · have e : ix n i = none := by rw [ix, if_pos h1]
    rw [e, wi, nI_0, decide_eq_false (Int32.not_le.mpr h1)]; rfl
  · have e : ix n i = none := by
      cases h2 : ix n i with
      | none => rfl
      | some j =>
        obtain ⟨a, b, rfl⟩ := ix_some h2
        rw [nI_leI (by omega) b] at h1
        omega
    rw [e, wi]
    have : ¬ i ≤ nI n - nI 1 := by
      rw [Int32.le_iff_toInt_le, pk_sub_toInt h (by omega)]
      rw [Int32.le_iff_toInt_le, nI_toInt (by omega)] at h1
      omega
    rw [decide_eq_false this]; simp
  · rw [ix_n (by omega), if_pos h1, wi]
    have h2 : nI j ≤ nI n - nI 1 := by
      rw [Int32.le_iff_toInt_le, pk_sub_toInt h (by omega), nI_toInt (by omega)]; omega
    rw [decide_eq_true h2, decide_eq_true (nI_le (Nat.zero_le j) (by omega))]; rfl
theorem wi_n {m : Nat} {i : Int32} (h : m < 2 ^ 29) : wi i (nI 0) (nI m) = (ix (m + 1) i).isSome := by
  rw [← wi_ix (n := m + 1) (by omega)]
  congr 1
  exact (pk_sub (a := m + 1) (b := 1) (by omega)).symm
theorem wi_so {m : Nat} {i : Int32} (h : m < 2 ^ 29) (hw : wi i (nI 0) (nI m) = true) : ∃ j, j ≤ m ∧ i = nI j := by
  rw [wi_n h] at hw
  cases h2 : ix (m + 1) i with
  | none => rw [h2] at hw; cases hw
  | some j => obtain ⟨a, b, c⟩ := ix_some h2; exact ⟨j, by omega, c⟩
def opAt (t : TT) (ad : Nat → Nat) (w : Nat → va_E) (i : Nat) (kd p q a b u z x : Int32) (G1 T1 : List RW) : Prop :=
  w (24 + 9 * i) = .inr (2, opF ad (24 + 9 * i) kd p q a b u z x) ∧ isRows t ad w (24 + 9 * i + 1) 200 G1 ∧ isRows t ad w (24 + 9 * i + 5) 40 T1
def opS (O : List OD) (jd : Bool) (J : Nat → JR) (i : Nat) (kd p q a b u z x : Int32) (G1 : List RW) : Prop :=
  i < O.length → (kd = nI (O.getD i o0).1 ∧ (1 ≤ (O.getD i o0).1 → p = nI (O.getD i o0).2.1 ∧ q = nI (O.getD i o0).2.2.1) ∧ a = nI (O.getD i o0).2.2.2.1 ∧ b = (O.getD i o0).2.2.2.2) ∧ (jd = true → u = (if (J i).1 = true then nI 1 else nI 0) ∧ G1 = (J i).2.1 ∧ z = nI (J i).2.2.1 ∧ x = nI (J i).2.2.2)
def isOps (t : TT) (ad : Nat → Nat) (w : Nat → va_E) (O : List OD) (Td : Nat → List RW) (jd : Bool) (J : Nat → JR) : Prop :=
  ∀ i, i < 12 → ∃ kd p q a b u z x G1, opAt t ad w i kd p q a b u z x G1 (Td i) ∧ opS O jd J i kd p q a b u z x G1
def isPass (t : TT) (ad : Nat → Nat) (w : Nat → va_E) : Prop := w 10 = .inr (3, [.ref (ad 11), .ref (ad 14)]) ∧ (∃ C R, isSpan t ad w 11 C R) ∧ ∃ S : Nat → Int32, w 14 = .inl (t.2.1, 6, .inl S)
def isOA (t : TT) (ad : Nat → Nat) (w : Nat → va_E) : Prop := ∃ f : Nat → Option Nat, w 9 = .inl (t.2.2.2.2, 12, .inr (.inr (.inr (.inr f)))) ∧ ∀ i, i < 12 → f i = some (ad (24 + 9 * i))
abbrev jF (ad : Nat → Nat) (n fc jb : Nat) : List Value := [.ref (ad 1), .ref (ad 7), .ref (ad 9), .ref (ad 10), .ref (ad 15), .int (nI n), .int (nI fc), .int (nI jb)]
def bN (b : Bool) : Nat := if b = true then 1 else 0
def opW (o : OD) (i : Nat) : Prop := o.1 ≤ 8 ∧ o.2.2.2.1 ≤ 1000 ∧ (1 ≤ o.1 → o.2.1 < i ∧ o.2.2.1 < i) ∧ (1 ≤ o.1 → o.1 ≤ 3 → o.2.2.2.1 ≤ 6) ∧ (o.1 = 4 → 1 ≤ o.2.2.2.1 ∧ ∃ how, how ≤ 4 ∧ o.2.2.2.2 = nI how)
def arOK (a : AR) : Prop := (a.2.2.2.2 = 0 ∨ a.2.2.2.2 = 1) ∧ ∃ tn yn : Nat, tn < 1000 ∧ yn < 6 ∧ a.2.1 = nI tn ∧ a.2.2.1 = nI yn
/-- what holds of every state, whoever keeps it -/
def okS (A : List AR) (O : List OD) (fc : Nat) : Prop := A.length ≤ 60 ∧ O.length ≤ 12 ∧ fc ≤ 9000 ∧ (∀ i, i < O.length → opW (O.getD i o0) i) ∧ ∀ i, i < A.length → arOK (A.getD i a0)
/-- THE CLASS holds this state -/
def isC (t : TT) (ad : Nat → Nat) (w : Nat → va_E) (A : List AR) (I : Nat → Int32) (O : List OD) (Td : Nat → List RW) (jd : Bool) (J : Nat → JR) (fc : Nat) (df : DF) : Prop :=
  w 0 = .inr (7, jF ad O.length fc (bN jd)) ∧ isArr t ad w 1 A ∧ isTab t ad w 7 I ∧ isOA t ad w ∧ isPass t ad w ∧ isCmp t ad w 15 df ∧ isCR t ad w 15 ∧ isOps t ad w O Td jd J ∧ okS A O fc ∧ ∀ i, O.length ≤ i → i < 12 → Td i = []
theorem opAt.keep {t : TT} {ad : Nat → Nat} {w w' : Nat → va_E} {i : Nat} {kd p q a b u z x : Int32} {G1 T1 : List RW} (h : opAt t ad w i kd p q a b u z x G1 T1) (hk : ∀ j, 24 + 9 * i ≤ j → j < 24 + 9 * i + 9 → w' j = w j) : opAt t ad w' i kd p q a b u z x G1 T1 :=
  ⟨(hk _ (by omega) (by omega)).trans h.1, h.2.1.keep (fun j a b => hk j (by omega) (by omega)), h.2.2.keep (fun j a b => hk j (by omega) (by omega))⟩
theorem isOps.keep {t : TT} {ad : Nat → Nat} {w w' : Nat → va_E} {O : List OD} {Td : Nat → List RW} {jd : Bool} {J : Nat → JR} (h : isOps t ad w O Td jd J) (hk : ∀ j, 24 ≤ j → j < 132 → w' j = w j) : isOps t ad w' O Td jd J := by
  intro i hi
  obtain ⟨kd, p, q, a, b, u, z, x, G1, h1, h2⟩ := h i hi
  exact ⟨kd, p, q, a, b, u, z, x, G1, h1.keep (fun j j1 j2 => hk j (by omega) (by omega)), h2⟩
theorem isOA.keep {t : TT} {ad : Nat → Nat} {w w' : Nat → va_E} (h : isOA t ad w) (hk : w' 9 = w 9) : isOA t ad w' := by
  obtain ⟨f, h1, h2⟩ := h
  exact ⟨f, hk.trans h1, h2⟩
theorem isPass.keep {t : TT} {ad : Nat → Nat} {w w' : Nat → va_E} (h : isPass t ad w) (hk : ∀ j, 10 ≤ j → j < 15 → w' j = w j) : isPass t ad w' := by
  obtain ⟨h1, ⟨C, R, h2⟩, S, h3⟩ := h
  exact ⟨(hk 10 (by omega) (by omega)).trans h1, ⟨C, R, h2.keep (fun j a b => hk j (by omega) (by omega))⟩, S, (hk 14 (by omega) (by omega)).trans h3⟩
theorem isC.keep {t : TT} {ad : Nat → Nat} {w w' : Nat → va_E} {A : List AR} {I : Nat → Int32} {O : List OD} {Td : Nat → List RW} {jd : Bool} {J : Nat → JR} {fc : Nat} {df : DF} (h : isC t ad w A I O Td jd J fc df) (hk : ∀ j, j < 132 → w' j = w j) : isC t ad w' A I O Td jd J fc df := by
  obtain ⟨c0, cA, cT, cOA, cP, cC, cCR, cO, cw, cd⟩ := h
  exact ⟨(hk 0 (by omega)).trans c0, cA.keep (fun j a b => hk j (by omega)), cT.keep (fun j a b => hk j (by omega)), cOA.keep (hk 9 (by omega)), cP.keep (fun j a b => hk j (by omega)), cC.keep (hk 15 (by omega)), cCR.keep (fun j a b => hk j (by omega)), cO.keep (fun j a b => hk j (by omega)), cw, cd⟩
def rowOK (s ti y v : Int32) : Bool := wi s (nI 0) (nI 2) && (wi ti (nI 0) (nI 999) && (wi y (nI 0) (nI 5) && wi v (-1000000) 1000000))
