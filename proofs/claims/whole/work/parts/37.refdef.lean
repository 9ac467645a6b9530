/-! THE REFERENCE: what it keeps, at the cells 132 to 152 -/
abbrev xF (ad : Nat → Nat) (n on jb fl io op ot ok nw fa : Int32) : List Value := [.int n, .ref (ad 133), .ref (ad 134), .ref (ad 135), .ref (ad 136), .ref (ad 137), .ref (ad 138), .int on, .ref (ad 139), .ref (ad 140), .ref (ad 141), .ref (ad 142), .int jb, .ref (ad 143), .ref (ad 144), .ref (ad 145), .ref (ad 146), .ref (ad 147), .ref (ad 148), .int fl, .ref (ad 149), .ref (ad 150), .ref (ad 151), .ref (ad 152), .int io, .int op, .int ot, .int ok, .int nw, .int fa]
def sg (T Y : Nat → Int32) (V : Nat → Int64) (b n : Nat) : List RW := rl (fun k => T (b + k)) (fun k => Y (b + k)) (fun k => V (b + k)) n
theorem sg_len (T Y : Nat → Int32) (V : Nat → Int64) (b n : Nat) : (sg T Y V b n).length = n := rl_len _ _ _ _
theorem sg_at {T Y : Nat → Int32} {V : Nat → Int64} {b n j : Nat} (h : j < n) : (sg T Y V b n).getD j r0 = (T (b + j), Y (b + j), V (b + j)) := rl_at h
theorem sg_of {T Y : Nat → Int32} {V : Nat → Int64} {b : Nat} {L : List RW} (h : ∀ j, j < L.length → L.getD j r0 = (T (b + j), Y (b + j), V (b + j))) : L = sg T Y V b L.length := by
  apply List.ext_getElem?
  intro j
  by_cases hj : j < L.length
  · have h1 := h j hj
    rw [List.getD_eq_getElem?_getD, List.getElem?_eq_getElem hj] at h1
    rw [List.getElem?_eq_getElem hj, show (sg T Y V b L.length)[j]? = some (T (b + j), Y (b + j), V (b + j)) from rl_get hj]
    exact congrArg some h1
  · rw [List.getElem?_eq_none (by omega), List.getElem?_eq_none (by rw [sg_len]; omega)]
def xArr (t : TT) (w : Nat → va_E) (A : List AR) : Prop :=
  ∃ S T Y V Z : Nat → Int32, w 133 = .inl (t.2.1, 60, .inl S) ∧ w 134 = .inl (t.2.1, 60, .inl T) ∧ w 135 = .inl (t.2.1, 60, .inl Y) ∧ w 136 = .inl (t.2.1, 60, .inl V) ∧ w 137 = .inl (t.2.2.2.1, 60, .inl Z) ∧ ∀ j, j < A.length → A.getD j a0 = (S j, T j, Y j, V j, Z j)
def xTab (t : TT) (w : Nat → va_E) (I : Nat → Int32) : Prop := ∃ f : Nat → Int32, w 138 = .inl (t.2.1, 8, .inl f) ∧ ∀ j, j < 8 → f j = I j
def opM (o : OD) (k o1 o2 nm : Int32) : Prop := k = nI o.1 ∧ (o.1 = 0 → o1 = nI o.2.2.2.1) ∧ (1 ≤ o.1 → o1 = nI o.2.1) ∧ (1 ≤ o.1 → o.1 ≤ 3 → o2 = nI o.2.2.2.1 ∧ nm = o.2.2.2.2) ∧ (o.1 = 4 → o2 = o.2.2.2.2) ∧ (o.1 = 5 ∨ o.1 = 6 → o2 = nI o.2.2.1) ∧ (4 ≤ o.1 → nm = nI o.2.2.2.1) ∧ (1 ≤ o.1 → o.1 ≠ 5 → o.1 ≠ 6 → o.2.2.1 = o.2.1)
def xOps (t : TT) (w : Nat → va_E) (O : List OD) : Prop :=
  ∃ k1 o1 o2 nm : Nat → Int32, w 139 = .inl (t.2.1, 12, .inl k1) ∧ w 140 = .inl (t.2.1, 12, .inl o1) ∧ w 141 = .inl (t.2.1, 12, .inl o2) ∧ w 142 = .inl (t.2.1, 12, .inl nm) ∧ ∀ i, i < O.length → opM (O.getD i o0) (k1 i) (o1 i) (o2 i) (nm i)
def rsM (r : JR) (u m z x : Int32) (T Y : Nat → Int32) (V : Nat → Int64) (b : Nat) : Prop := u = nI (bN r.1) ∧ m = nI r.2.1.length ∧ r.2.1.length ≤ 200 ∧ z = nI r.2.2.1 ∧ x = nI r.2.2.2 ∧ ∀ j, j < r.2.1.length → r.2.1.getD j r0 = (T (b + j), Y (b + j), V (b + j))
def xRes (t : TT) (w : Nat → va_E) (n : Nat) (J : Nat → JR) : Prop :=
  ∃ (U M F T Y : Nat → Int32) (V : Nat → Int64), w 143 = .inl (t.2.2.2.1, 12, .inl U) ∧ w 144 = .inl (t.2.1, 12, .inl M) ∧ w 145 = .inl (t.2.1, 24, .inl F) ∧ w 146 = .inl (t.2.1, 2412, .inl T) ∧ w 147 = .inl (t.2.1, 2412, .inl Y) ∧ w 148 = .inl (t.2.2.1, 2412, .inr (.inl V)) ∧ ∀ i, i < n → rsM (J i) (U i) (M i) (F (2 * i)) (F (2 * i + 1)) T Y V (201 * i)
def tdM (L : List RW) (m : Int32) (T Y : Nat → Int32) (V : Nat → Int64) (b : Nat) : Prop := m = nI L.length ∧ L.length ≤ 40 ∧ ∀ j, j < L.length → L.getD j r0 = (T (b + j), Y (b + j), V (b + j))
def xTold (t : TT) (w : Nat → va_E) (n : Nat) (Td : Nat → List RW) : Prop :=
  ∃ (M T Y : Nat → Int32) (V : Nat → Int64), w 149 = .inl (t.2.1, 12, .inl M) ∧ w 150 = .inl (t.2.1, 480, .inl T) ∧ w 151 = .inl (t.2.1, 480, .inl Y) ∧ w 152 = .inl (t.2.2.1, 480, .inr (.inl V)) ∧ ∀ i, i < n → tdM (Td i) (M i) T Y V (40 * i)
def xDf (jd : Bool) (df : DF) (io op ot ok : Int32) : Prop := jd = true → (df = none → io = 0) ∧ ∀ x, df = some x → io = 1 ∧ (op, ot, ok) = x
def jn0 (jd : Bool) (n : Nat) : Nat := if jd = true then n else 0
/-- THE REFERENCE holds this state -/
def isM (t : TT) (ad : Nat → Nat) (w : Nat → va_E) (A : List AR) (I : Nat → Int32) (O : List OD) (Td : Nat → List RW) (jd : Bool) (J : Nat → JR) (fc : Nat) (df : DF) : Prop :=
  ∃ io op ot ok nw fa : Int32, w 132 = .inr (8, xF ad (nI A.length) (nI O.length) (nI (bN jd)) (nI fc) io op ot ok nw fa) ∧ xArr t w A ∧ xTab t w I ∧ xOps t w O ∧ xRes t w (jn0 jd O.length) J ∧ xTold t w O.length Td ∧ xDf jd df io op ot ok
theorem xArr.keep {t : TT} {w w' : Nat → va_E} {A : List AR} (h : xArr t w A) (hk : ∀ i, 133 ≤ i → i < 138 → w' i = w i) : xArr t w' A := by
  obtain ⟨S, T, Y, V, Z, a, b, c, d, e, f⟩ := h
  exact ⟨S, T, Y, V, Z, (hk _ (by omega) (by omega)).trans a, (hk _ (by omega) (by omega)).trans b, (hk _ (by omega) (by omega)).trans c, (hk _ (by omega) (by omega)).trans d, (hk _ (by omega) (by omega)).trans e, f⟩
theorem xTab.keep {t : TT} {w w' : Nat → va_E} {I : Nat → Int32} (h : xTab t w I) (hk : w' 138 = w 138) : xTab t w' I := by
  obtain ⟨f, a, b⟩ := h
  exact ⟨f, hk.trans a, b⟩
theorem xOps.keep {t : TT} {w w' : Nat → va_E} {O : List OD} (h : xOps t w O) (hk : ∀ i, 139 ≤ i → i < 143 → w' i = w i) : xOps t w' O := by
  obtain ⟨S, T, Y, V, a, b, c, d, f⟩ := h
  exact ⟨S, T, Y, V, (hk _ (by omega) (by omega)).trans a, (hk _ (by omega) (by omega)).trans b, (hk _ (by omega) (by omega)).trans c, (hk _ (by omega) (by omega)).trans d, f⟩
theorem xRes.keep {t : TT} {w w' : Nat → va_E} {n : Nat} {J : Nat → JR} (h : xRes t w n J) (hk : ∀ i, 143 ≤ i → i < 149 → w' i = w i) : xRes t w' n J := by
  obtain ⟨U, M, F, T, Y, V, a, b, c, d, e, g, f⟩ := h
  exact ⟨U, M, F, T, Y, V, (hk _ (by omega) (by omega)).trans a, (hk _ (by omega) (by omega)).trans b, (hk _ (by omega) (by omega)).trans c, (hk _ (by omega) (by omega)).trans d, (hk _ (by omega) (by omega)).trans e, (hk _ (by omega) (by omega)).trans g, f⟩
theorem xRes.less {t : TT} {w : Nat → va_E} {n m : Nat} {J : Nat → JR} (h : xRes t w n J) (hm : m ≤ n) : xRes t w m J := by
  obtain ⟨U, M, F, T, Y, V, a, b, c, d, e, g, f⟩ := h
  exact ⟨U, M, F, T, Y, V, a, b, c, d, e, g, fun i hi => f i (by omega)⟩
theorem xTold.keep {t : TT} {w w' : Nat → va_E} {n : Nat} {Td : Nat → List RW} (h : xTold t w n Td) (hk : ∀ i, 149 ≤ i → i < 153 → w' i = w i) : xTold t w' n Td := by
  obtain ⟨S, T, Y, V, a, b, c, d, f⟩ := h
  exact ⟨S, T, Y, V, (hk _ (by omega) (by omega)).trans a, (hk _ (by omega) (by omega)).trans b, (hk _ (by omega) (by omega)).trans c, (hk _ (by omega) (by omega)).trans d, f⟩
theorem xTold.less {t : TT} {w : Nat → va_E} {n m : Nat} {Td Td' : Nat → List RW} (h : xTold t w n Td) (hm : m ≤ n) (he : ∀ i, i < m → Td' i = Td i) : xTold t w m Td' := by
  obtain ⟨S, T, Y, V, a, b, c, d, f⟩ := h
  exact ⟨S, T, Y, V, a, b, c, d, fun i hi => by rw [he i hi]; exact f i (by omega)⟩
theorem isM.keep {t : TT} {ad : Nat → Nat} {w w' : Nat → va_E} {A : List AR} {I : Nat → Int32} {O : List OD} {Td : Nat → List RW} {jd : Bool} {J : Nat → JR} {fc : Nat} {df : DF} (h : isM t ad w A I O Td jd J fc df) (hk : ∀ j, 132 ≤ j → j < 153 → w' j = w j) : isM t ad w' A I O Td jd J fc df := by
  obtain ⟨io, op, ot, ok, nw, fa, c0, cA, cT, cO, cR, cd, cf⟩ := h
  exact ⟨io, op, ot, ok, nw, fa, (hk _ (by omega) (by omega)).trans c0, cA.keep (fun i a b => hk i (by omega) (by omega)), cT.keep (hk _ (by omega) (by omega)), cO.keep (fun i a b => hk i (by omega) (by omega)), cR.keep (fun i a b => hk i (by omega) (by omega)), cd.keep (fun i a b => hk i (by omega) (by omega)), cf⟩
/-- while the operator nw is judged: the rows laid so far, whether one too many came; all before nw stands as it stood -/
def isW (t : TT) (w : Nat → va_E) (nw : Nat) (L : List RW) (ov : Bool) (U0 M0 T0 Y0 : Nat → Int32) (V0 : Nat → Int64) : Prop :=
  ∃ (U M T Y : Nat → Int32) (V : Nat → Int64), w 143 = .inl (t.2.2.2.1, 12, .inl U) ∧ w 144 = .inl (t.2.1, 12, .inl M) ∧ w 146 = .inl (t.2.1, 2412, .inl T) ∧ w 147 = .inl (t.2.1, 2412, .inl Y) ∧ w 148 = .inl (t.2.2.1, 2412, .inr (.inl V)) ∧ L.length ≤ 200 ∧ U nw = nI (bN ov) ∧ M nw = nI L.length ∧ L = sg T Y V (201 * nw) L.length ∧ (∀ k, k < nw → U k = U0 k ∧ M k = M0 k) ∧ ∀ j, j < 201 * nw → T j = T0 j ∧ Y j = Y0 j ∧ V j = V0 j
theorem isW.keep {t : TT} {w w' : Nat → va_E} {nw : Nat} {L : List RW} {ov : Bool} {U0 M0 T0 Y0 : Nat → Int32} {V0 : Nat → Int64} (h : isW t w nw L ov U0 M0 T0 Y0 V0) (hk : ∀ i, 143 ≤ i → i < 149 → i ≠ 145 → w' i = w i) : isW t w' nw L ov U0 M0 T0 Y0 V0 := by
  obtain ⟨U, M, T, Y, V, a, b, c, d, e, f⟩ := h
  exact ⟨U, M, T, Y, V, (hk _ (by omega) (by omega) (by omega)).trans a, (hk _ (by omega) (by omega) (by omega)).trans b, (hk _ (by omega) (by omega) (by omega)).trans c, (hk _ (by omega) (by omega) (by omega)).trans d, (hk _ (by omega) (by omega) (by omega)).trans e, f⟩
/-- all of D was laid, as far as there was room -/
def isD (t : TT) (w : Nat → va_E) (nw : Nat) (D : List RW) (U0 M0 T0 Y0 : Nat → Int32) (V0 : Nat → Int64) : Prop := isW t w nw (D.take 200) (decide (200 < D.length)) U0 M0 T0 Y0 V0
theorem upd_s {f : Nat → Int32} {i : Nat} {x : Int32} : upd f i x i = x := by simp [upd]
theorem upd_n {f : Nat → Int32} {i j : Nat} {x : Int32} (h : j ≠ i) : upd f i x j = f j := by simp [upd, h]
theorem updL_s {f : Nat → Int64} {i : Nat} {x : Int64} : vp_updL f i x i = x := by simp [vp_updL]
theorem updL_n {f : Nat → Int64} {i j : Nat} {x : Int64} (h : j ≠ i) : vp_updL f i x j = f j := by simp [vp_updL, h]
theorem sg_get {T Y : Nat → Int32} {V : Nat → Int64} {b n j : Nat} {L : List RW} (h : L = sg T Y V b n) (hj : j < n) : L.getD j r0 = (T (b + j), Y (b + j), V (b + j)) := by rw [h]; exact sg_at hj
theorem sg_take (T Y : Nat → Int32) (V : Nat → Int64) (b n k : Nat) : (sg T Y V b n).take k = sg T Y V b (min k n) := by
  unfold sg rl; rw [← List.map_take, List.take_range]
def gk (b : Bool) (y x : RW) : Bool := decide (x.1 < y.1) || (b && (decide (y.1 = x.1) && decide (x.2.1 < y.2.1)))
theorem gk_f : gk false = aboveT := by
  funext y x
  simp [gk, aboveT]
theorem srt_one (g : RW → RW → Bool) (L : List RW) : srt g (L.take 1) = L.take 1 := by
  cases L with
  | nil => rfl
  | cons a A => rfl
theorem bN_0 {b : Bool} (h : nI (bN b) = 0) : b = false := by
  cases b with
  | false => rfl
  | true => exact absurd h (by decide)
theorem bN_n0 {b : Bool} (h : ¬ nI (bN b) = 0) : b = true := by
  cases b with
  | true => rfl
  | false => exact absurd (by decide) h
def rfail (f : Nat) (v : Int64) (c : Int32) : Int32 := if ffail f v c = -1 then -4 else ffail f v c
theorem rfail_n {f : Nat} {v : Int64} {c : Int32} (h : ffail f v c = -1) : rfail f v c = -4 := by rw [rfail, if_pos h]
theorem rfail_s {f : Nat} {v : Int64} {c k : Int32} (h : ffail f v c = k) (hk : ¬ k = -1) : rfail f v c = k := by rw [rfail, if_neg (by rw [h]; exact hk), h]
/-- what an operator's work leaves behind: all rows of G, or one too many -/
def isR (t : TT) (w : Nat → va_E) (nw : Nat) (G : List RW) (U0 M0 T0 Y0 : Nat → Int32) (V0 : Nat → Int64) : Prop := ∃ (L : List RW) (ov : Bool), isW t w nw L ov U0 M0 T0 Y0 V0 ∧ (G.length ≤ 200 → L = G ∧ ov = false) ∧ (200 < G.length → ov = true)
theorem isD.isR {t : TT} {w : Nat → va_E} {nw : Nat} {D : List RW} {U0 M0 T0 Y0 : Nat → Int32} {V0 : Nat → Int64} (h : isD t w nw D U0 M0 T0 Y0 V0) : isR t w nw D U0 M0 T0 Y0 V0 :=
  ⟨_, _, h, fun q => ⟨List.take_of_length_le q, decide_eq_false (by omega)⟩, fun q => decide_eq_true q⟩
theorem isW.isR {t : TT} {w : Nat → va_E} {nw : Nat} {D : List RW} {g : RW → RW → Bool} {U0 M0 T0 Y0 : Nat → Int32} {V0 : Nat → Int64} (h : isW t w nw (srt g (D.take 200)) (decide (200 < D.length)) U0 M0 T0 Y0 V0) : isR t w nw (srt g D) U0 M0 T0 Y0 V0 :=
  ⟨_, _, h, fun q => by rw [srt_len] at q; exact ⟨by rw [List.take_of_length_le q], decide_eq_false (by omega)⟩, fun q => by rw [srt_len] at q; exact decide_eq_true q⟩
/-- the rows of the operator p, judged before -/
def isP (p : Nat) (P : List RW) (M0 T0 Y0 : Nat → Int32) (V0 : Nat → Int64) : Prop := M0 p = nI P.length ∧ P.length ≤ 200 ∧ ∀ k, k < P.length → P.getD k r0 = (T0 (201 * p + k), Y0 (201 * p + k), V0 (201 * p + k))
theorem snoc_take {P : List RW} {i : Nat} {a : Int32} {b : Int32} {c : Int64} (h : i < P.length) (e : P.getD i r0 = (a, b, c)) : P.take i ++ [(a, b, c)] = P.take (i + 1) := by rw [take_succ h, e]
