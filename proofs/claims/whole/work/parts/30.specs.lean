/-! what the other calls answer -/
def shw (jd : Bool) (r : JR) (x : Int32) : Int32 := if jd = false then -3 else if r.1 = true then -6 else x
def sRows (O : List OD) (jd : Bool) (J : Nat → JR) (op : Int32) : Int32 := match ix O.length op with
  | none => -1
  | some j => shw jd (J j) (nI (J j).2.1.length)
def sTold (O : List OD) (jd : Bool) (J : Nat → JR) (op i what : Int32) : Int32 := match ix O.length op with
  | none => -1
  | some j => if wi what (nI 0) (nI 1) = true then shw jd (J j) (match ix (J j).2.1.length i with
    | none => -4
    | some k => if what = 0 then ((J j).2.1.getD k r0).1 else ((J j).2.1.getD k r0).2.1) else -1
def sValue (O : List OD) (jd : Bool) (J : Nat → JR) (op i : Int32) : Int64 := match ix O.length op with
  | none => 0
  | some j => if jd = true ∧ (J j).1 = false then (rAt (J j).2.1 i).2.2 else 0
def sFails (O : List OD) (jd : Bool) (J : Nat → JR) (op kind : Int32) : Int32 := match ix O.length op with
  | none => -1
  | some j => if wi kind (nI 0) (nI 1) = true then (if jd = true then (if kind = 0 then nI (J j).2.2.1 else nI (J j).2.2.2) else -3) else -1
def tellOK (time key : Int32) : Bool := wi time (nI 0) (nI 20000) && wi key (nI 0) (nI 5)
def sTell (O : List OD) (Td : Nat → List RW) (op time key : Int32) (v : Int64) : Int32 × (Nat → List RW) := match ix O.length op with
  | none => (-1, Td)
  | some j => if tellOK time key = true then (if (Td j).length < 40 then (nI ((Td j).length + 1), va_up Td j (Td j ++ [(time, key, v)])) else (-2, Td)) else (-1, Td)
def sUntell (O : List OD) (Td : Nat → List RW) (op : Int32) : Int32 × (Nat → List RW) := match ix O.length op with
  | none => (-1, Td)
  | some j => (nI (Td j).length, va_up Td j [])
def sComp (O : List OD) (Td : Nat → List RW) (jd : Bool) (J : Nat → JR) (df : DF) (op how : Int32) : Int32 × DF := match ix O.length op with
  | none => (-1, df)
  | some j => if wi how (nI 0) (nI 1) = true then (if jd = false then (-3, df) else if (J j).1 = true then (-6, df) else if how = 0 then (nI (cO (J j).2.1 (Td j)).1, (cO (J j).2.1 (Td j)).2) else (nI (cS (J j).2.1 (Td j)).1, (cS (J j).2.1 (Td j)).2)) else (-1, df)
def sWhere (jd : Bool) (df : DF) (what : Int32) : Int32 := if wi what (nI 0) (nI 2) = true then (if jd = true then (match df with
  | none => -4
  | some x => if what = 0 then x.1 else if what = 1 then x.2.1 else x.2.2) else -4) else -1
def sCount (A : List AR) (O : List OD) (fc : Nat) (what : Int32) : Int32 := if what = 0 then nI A.length else if what = 1 then nI O.length else if what = 2 then nI fc else -1
theorem jb_cases (jd : Bool) : bN jd < 2 := by cases jd <;> decide
