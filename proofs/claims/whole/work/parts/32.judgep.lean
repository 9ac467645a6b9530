/-! judging one operator, judging all -/
def jDef (A : List AR) (I : Nat → Int32) (o : OD) (J : Nat → JR) : JR :=
  if o.1 = 0 then (false, srt aboveT (sel (nI o.2.2.2.1) A), 0, 0)
  else if (J o.2.1).1 = true ∨ (J o.2.2.1).1 = true then (true, [], 0, 0)
  else if (gv I o.1 o.2.2.2.1 o.2.2.2.2 (J o.2.1).2.1 (J o.2.2.1).2.1).length ≤ 200 then
    (false, gv I o.1 o.2.2.2.1 o.2.2.2.2 (J o.2.1).2.1 (J o.2.2.1).2.1, (if o.1 ≤ 3 then failN 0 o.2.2.2.1 o.2.2.2.2 (J o.2.1).2.1 else 0), (if o.1 ≤ 3 then failN 1 o.2.2.2.1 o.2.2.2.2 (J o.2.1).2.1 else 0))
  else (true, [], 0, 0)
def jOne (A : List AR) (I : Nat → Int32) (O : List OD) (J : Nat → JR) (i : Nat) : JR := jDef A I (O.getD i o0) J
def jN (A : List AR) (I : Nat → Int32) (O : List OD) (J : Nat → JR) : Nat → (Nat → JR)
  | 0 => J
  | i + 1 => va_up (jN A I O J i) i (jOne A I O (jN A I O J i) i)
def doneN (J : Nat → JR) (n : Nat) : Nat := (List.range n).countP (fun i => !(J i).1)
def failS (J : Nat → JR) : Nat → Nat
  | 0 => 0
  | i + 1 => failS J i + ((J i).2.2.1 + (J i).2.2.2)
def jOK (r : JR) : Prop := (∀ j, j < r.2.1.length → okR (r.2.1.getD j r0)) ∧ asc r.2.1
def isOpsP (t : TT) (ad : Nat → Nat) (w : Nat → va_E) (O : List OD) (Td : Nat → List RW) (pj : Nat → Bool) (J : Nat → JR) : Prop :=
  ∀ i, i < 12 → ∃ kd p q a b u z x G1, opAt t ad w i kd p q a b u z x G1 (Td i) ∧ opS O (pj i) J i kd p q a b u z x G1
theorem failN_le (k : Int32) (f : Nat) (c : Int32) (P : List RW) : failN k f c P ≤ P.length := List.countP_le_length
theorem jN_old {A : List AR} {I : Nat → Int32} {O : List OD} {J : Nat → JR} {k : Nat} : ∀ {i : Nat}, i ≤ k → jN A I O J i k = J k
  | 0, _ => rfl
  | i + 1, h => by rw [jN, va_up_ne _ _ (by omega), jN_old (by omega)]
theorem jN_new {A : List AR} {I : Nat → Int32} {O : List OD} {J : Nat → JR} {k : Nat} : ∀ {i j : Nat}, k < i → i ≤ j → jN A I O J j k = jN A I O J i k
  | i, 0, h, h2 => by omega
  | i, j + 1, h, h2 => by
    rcases Nat.lt_or_ge i (j + 1) with q | q
    · rw [jN, va_up_ne _ _ (by omega), jN_new h (by omega)]
    · rw [show i = j + 1 by omega]
theorem each_200 {I : Nat → Int32} {kd a : Nat} {b : Int32} {P Q : List RW} (h : kd ≤ 3) (hP : P.length ≤ 200) : (gv I kd a b P Q).length ≤ 200 := by
  rw [gv, if_pos h]
  have := flat_len (each1_len I kd a b) P
  unfold eachL; omega
