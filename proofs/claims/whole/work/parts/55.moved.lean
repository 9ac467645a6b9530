/-! the class's state, when addresses of other cells come; the switch -/
theorem isOA.mv {t : TT} {ad ad' : Nat → Nat} {w w' : Nat → va_E} (h : isOA t ad w) (ka : ∀ i, i < 132 → ad' i = ad i) (hk : w' 9 = w 9) : isOA t ad' w' := by
  obtain ⟨f, h1, h2⟩ := h
  exact ⟨f, hk.trans h1, fun i hi => by rw [h2 i hi, ka _ (by omega)]⟩
theorem isC.mv {t : TT} {ad ad' : Nat → Nat} {w w' : Nat → va_E} {A : List AR} {I : Nat → Int32} {O : List OD} {Td : Nat → List RW} {jd : Bool} {J : Nat → JR} {fc : Nat} {df : DF} (h : isC t ad w A I O Td jd J fc df) (ka : ∀ i, i < 132 → ad' i = ad i) (hk : ∀ j, j < 132 → w' j = w j) : isC t ad' w' A I O Td jd J fc df := by
  obtain ⟨c0, cA, cT, cOA, cP, cC, cCR, cO, cw, cd⟩ := h
  refine ⟨?_, cA.mv (fun i a b => ka i (by omega)) (fun j a b => hk j (by omega)), cT.mv (fun i a b => ka i (by omega)) (fun j a b => hk j (by omega)), cOA.mv ka (hk 9 (by omega)), cP.mv (fun i a b => ka i (by omega)) (fun j a b => hk j (by omega)), cC.mv (fun i a b => ka i (by omega)) (hk 15 (by omega)), cCR.mv (fun i a b => ka i (by omega)) (fun j a b => hk j (by omega)), fun i hi => ?_, cw, cd⟩
  · rw [hk 0 (by omega), c0, jF, jF, ka 1 (by omega), ka 7 (by omega), ka 9 (by omega), ka 10 (by omega), ka 15 (by omega)]
  · obtain ⟨kd, p, q, a, b, u, z, x, G1, ⟨o1, o2, o3⟩, h2⟩ := cO i hi
    refine ⟨kd, p, q, a, b, u, z, x, G1, ⟨?_, o2.mv (fun j a b => ka j (by omega)) (fun j a b => hk j (by omega)), o3.mv (fun j a b => ka j (by omega)) (fun j a b => hk j (by omega))⟩, h2⟩
    rw [hk _ (by omega), o1, opF, opF, ka _ (by omega), ka _ (by omega)]
theorem sw_cases (z : Int32) : (∃ n : Nat, n ≤ 22 ∧ z = nI n) ∨ (z.toInt < 0 ∨ 22 < z.toInt) := by
  rcases Int.lt_or_le z.toInt 0 with h | h
  · exact Or.inr (Or.inl h)
  · obtain ⟨m, hm, rfl⟩ := nI_of (show ¬ z < 0 by rw [Int32.lt_iff_toInt_lt]; show ¬ _ < (0 : Int); omega)
    rw [nI_toInt hm] at h ⊢
    by_cases q : m ≤ 22
    · exact Or.inl ⟨m, q, rfl⟩
    · exact Or.inr (Or.inr (by omega))
