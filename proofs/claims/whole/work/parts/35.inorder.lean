/-! rows of operators stay in bounds and in order -/
def okB (B : Nat) (x : RW) : Prop := ∃ tn yn : Nat, tn < B ∧ yn < 6 ∧ x.1 = nI tn ∧ x.2.1 = nI yn
def allB (B : Nat) (L : List RW) : Prop := ∀ x ∈ L, okB B x
def ascP (L : List RW) : Prop := L.Pairwise (fun a b => tN a ≤ tN b)
theorem okB_n {B : Nat} {x : RW} (h : okB B x) (hB : B ≤ 100000) : x.1 = nI (tN x) ∧ tN x < B ∧ x.2.1 = nI (kN x) ∧ kN x < 6 := by
  obtain ⟨tn, yn, h1, h2, h3, h4⟩ := h
  have e1 : tN x = tn := by unfold tN; rw [h3, nI_clamp (by omega)]
  have e2 : kN x = yn := by unfold kN; rw [h4, nI_clamp (by omega)]
  rw [e1, e2]; exact ⟨h3, h1, h4, h2⟩
theorem okB.mono {B B2 : Nat} {x : RW} (h : okB B x) (hb : B ≤ B2) : okB B2 x := by
  obtain ⟨tn, yn, h1, h2, h3, h4⟩ := h
  exact ⟨tn, yn, by omega, h2, h3, h4⟩
theorem allB.mono {B B2 : Nat} {L : List RW} (h : allB B L) (hb : B ≤ B2) : allB B2 L := fun x hx => (h x hx).mono hb
theorem getD_mem {L : List RW} {j : Nat} (h : j < L.length) : L.getD j r0 ∈ L := by
  rw [List.getD_eq_getElem?_getD, List.getElem?_eq_getElem h]
  exact List.getElem_mem h
theorem jOK_of {B : Nat} {r : JR} (h1 : allB B r.2.1) (h2 : ascP r.2.1) (hB : B ≤ 100000) : jOK r := by
  refine ⟨fun j hj => ?_, fun i j hij hj => ?_⟩
  · obtain ⟨tn, yn, a, b, c, d⟩ := h1 _ (getD_mem hj)
    exact ⟨tn, yn, by omega, b, c, d⟩
  · have := List.pairwise_iff_getElem.mp h2 i j (by omega) hj hij
    rw [List.getD_eq_getElem?_getD, List.getD_eq_getElem?_getD, List.getElem?_eq_getElem hj, List.getElem?_eq_getElem (show i < r.2.1.length by omega)]
    exact this
theorem insR_mem {p : RW → Bool} {x y : RW} : ∀ {L : List RW}, y ∈ insR p L x ↔ y = x ∨ y ∈ L
  | [] => by simp [insR]
  | z :: zs => by
    rw [insR]
    split
    · rw [List.mem_cons, insR_mem (L := zs), List.mem_cons]
      constructor
      · rintro (h | h | h)
        · exact Or.inr (Or.inl h)
        · exact Or.inl h
        · exact Or.inr (Or.inr h)
      · rintro (h | h | h)
        · exact Or.inr (Or.inl h)
        · exact Or.inl h
        · exact Or.inr (Or.inr h)
    · rw [List.mem_cons]
theorem ins_mem {g : RW → RW → Bool} {x y : RW} {L : List RW} : y ∈ ins g L x ↔ y = x ∨ y ∈ L := by
  unfold ins
  rw [List.mem_reverse, insR_mem, List.mem_reverse]
theorem aboveT_n {B : Nat} {x y : RW} (hx : okB B x) (hy : okB B y) (hB : B ≤ 100000) : aboveT y x = true ↔ tN x < tN y := by
  obtain ⟨a1, a2, -, -⟩ := okB_n hx hB
  obtain ⟨b1, b2, -, -⟩ := okB_n hy hB
  unfold aboveT
  rw [decide_eq_true_eq, a1, b1, nI_ltI (by omega) (by omega)]
theorem insR_desc {B : Nat} {x : RW} (hx : okB B x) (hB : B ≤ 100000) : ∀ {L : List RW}, allB B L → L.Pairwise (fun a b => tN b ≤ tN a) → (insR (fun y => aboveT y x) L x).Pairwise (fun a b => tN b ≤ tN a)
  | [], _, _ => by simp [insR]
  | y :: ys, ha, hp => by
    have hy := ha y List.mem_cons_self
    have hys : allB B ys := fun z hz => ha z (List.mem_cons_of_mem _ hz)
    obtain ⟨p1, p2⟩ := List.pairwise_cons.mp hp
    rw [insR]
    split
    · rename_i h
      have h1 := (aboveT_n hx hy hB).mp h
      refine List.pairwise_cons.mpr ⟨fun z hz => ?_, insR_desc hx hB hys p2⟩
      rcases insR_mem.mp hz with e | e
      · rw [e]; omega
      · exact p1 z e
    · rename_i h
      have h1 : ¬ tN x < tN y := fun q => h ((aboveT_n hx hy hB).mpr q)
      refine List.pairwise_cons.mpr ⟨fun z hz => ?_, hp⟩
      rcases List.mem_cons.mp hz with e | e
      · rw [e]; omega
      · have := p1 z e; omega
theorem ins_asc {B : Nat} {x : RW} {L : List RW} (hx : okB B x) (hB : B ≤ 100000) (ha : allB B L) (hp : ascP L) : ascP (ins aboveT L x) := by
  unfold ins ascP
  rw [List.pairwise_reverse]
  refine insR_desc hx hB (fun z hz => ha z (List.mem_reverse.mp hz)) ?_
  rw [List.pairwise_reverse]
  exact hp
theorem foldl_ins_asc {B : Nat} (hB : B ≤ 100000) : ∀ (L K : List RW), allB B L → allB B K → ascP K → allB B (L.foldl (ins aboveT) K) ∧ ascP (L.foldl (ins aboveT) K)
  | [], K, _, h1, h2 => ⟨h1, h2⟩
  | x :: L, K, h0, h1, h2 => by
    have hx := h0 x List.mem_cons_self
    rw [List.foldl_cons]
    refine foldl_ins_asc hB L _ (fun z hz => h0 z (List.mem_cons_of_mem _ hz)) (fun z hz => ?_) (ins_asc hx hB h1 h2)
    rcases ins_mem.mp hz with e | e
    · rw [e]; exact hx
    · exact h1 z e
theorem srt_asc {B : Nat} {L : List RW} (hB : B ≤ 100000) (h : allB B L) : allB B (srt aboveT L) ∧ ascP (srt aboveT L) :=
  foldl_ins_asc hB L [] h (fun x hx => by cases hx) List.Pairwise.nil
theorem sel_B {s : Int32} {A : List AR} (h : ∀ i, i < A.length → arOK (A.getD i a0)) : allB 1000 (sel s A) := by
  intro x hx
  unfold sel at hx
  obtain ⟨a, ha, hxa⟩ := List.mem_flatMap.mp hx
  obtain ⟨i, hi, rfl⟩ := List.getElem_of_mem ha
  have h1 := h i hi
  rw [List.getD_eq_getElem?_getD, List.getElem?_eq_getElem hi] at h1
  obtain ⟨-, tn, yn, a1, a2, a3, a4⟩ := h1
  unfold sel1 at hxa
  split at hxa
  · rw [List.mem_singleton] at hxa
    subst hxa
    exact ⟨tn, yn, a1, a2, a3, a4⟩
  · cases hxa
theorem rem6 (v : Int64) : (v - v / 6 * 6).toInt = v.toInt.tmod 6 := by
  have h1 : (v / 6).toInt = v.toInt.tdiv 6 := by
    rw [Int64.toInt_div_of_ne_right _ _ (by decide)]; rfl
  have h2 := Int64.le_toInt v
  have h3 := Int64.toInt_lt v
  have h4 : v.toInt.tdiv 6 * 6 + v.toInt.tmod 6 = v.toInt := by rw [Int.mul_comm]; exact Int.mul_tdiv_add_tmod _ _
  have h5 : -6 < v.toInt.tmod 6 ∧ v.toInt.tmod 6 < 6 := by
    constructor
    · have := Int.lt_tmod_of_pos v.toInt (show (0 : Int) < 6 by decide); omega
    · exact Int.tmod_lt_of_pos v.toInt (by decide)
  rw [Int64.toInt_sub, Int64.toInt_mul, h1]
  have e6 : (6 : Int64).toInt = 6 := by decide
  rw [e6]
  by_cases hs : 0 ≤ v.toInt
  · have h6 := Int.tmod_nonneg 6 hs
    rw [Int.bmod_eq_of_le (n := v.toInt.tdiv 6 * 6) (by omega) (by omega), Int.bmod_eq_of_le (by omega) (by omega)]
    omega
  · have h6 : v.toInt.tmod 6 ≤ 0 := by
      have := Int.tmod_nonneg 6 (show 0 ≤ -v.toInt by omega)
      rw [Int.neg_tmod] at this
      omega
    rw [Int.bmod_eq_of_le (n := v.toInt.tdiv 6 * 6) (by omega) (by omega), Int.bmod_eq_of_le (by omega) (by omega)]
    omega
theorem xor6 (v : Int64) : (v ^^^ 6) < 0 ↔ v < 0 := by
  rw [Int64.lt_iff_toInt_lt, Int64.lt_iff_toInt_lt]
  have h : ∀ a : Int64, a.toInt < (0 : Int64).toInt ↔ a.toBitVec.msb = true := fun a => by
    rw [BitVec.msb_eq_toInt, decide_eq_true_eq]; rfl
  rw [h, h]
  have : (v ^^^ 6).toBitVec = v.toBitVec ^^^ 6#64 := rfl
  rw [this, BitVec.msb_xor]
  have : (6#64).msb = false := by decide
  rw [this, Bool.xor_false]
theorem fmod_is (v : Int64) : fmod v 6 = (if (v - v / 6 * 6) < 0 then v - v / 6 * 6 + 6 else v - v / 6 * 6) ∧ 0 ≤ (fmod v 6).toInt ∧ (fmod v 6).toInt < 6 := by
  have hr := rem6 v
  have hx := xor6 v
  have h5 : -6 < v.toInt.tmod 6 ∧ v.toInt.tmod 6 < 6 := by
    constructor
    · have := Int.lt_tmod_of_pos v.toInt (show (0 : Int) < 6 by decide); omega
    · exact Int.tmod_lt_of_pos v.toInt (by decide)
  unfold fmod
  generalize v - v / 6 * 6 = rr at hr ⊢
  have hv : v < 0 ↔ v.toInt < 0 := by rw [Int64.lt_iff_toInt_lt]; rfl
  have hr0 : rr < 0 ↔ rr.toInt < 0 := by rw [Int64.lt_iff_toInt_lt]; rfl
  have hre : rr = 0 ↔ rr.toInt = 0 := ⟨fun h => by rw [h]; rfl, fun h => Int64.toInt_inj.mp (by rw [h]; rfl)⟩
  have e6 : (6 : Int64).toInt = 6 := by decide
  by_cases hs : v.toInt < 0
  · have h6 : v.toInt.tmod 6 ≤ 0 := by
      have := Int.tmod_nonneg 6 (show 0 ≤ -v.toInt by omega)
      rw [Int.neg_tmod] at this
      omega
    by_cases hz : rr = 0
    · rw [if_neg (fun q => q.2 hz), if_neg (fun q => by rw [hr0, hre.mp hz] at q; omega)]
      have := hre.mp hz
      exact ⟨rfl, by omega, by omega⟩
    · have hz2 : ¬ rr.toInt = 0 := fun q => hz (hre.mpr q)
      rw [if_pos ⟨hx.mpr (hv.mpr hs), hz⟩, if_pos (hr0.mpr (by omega))]
      refine ⟨rfl, ?_⟩
      rw [Int64.toInt_add, e6, Int.bmod_eq_of_le (by omega) (by omega)]
      omega
  · have h6 := Int.tmod_nonneg 6 (show 0 ≤ v.toInt by omega)
    rw [if_neg (fun q => hs (hv.mp (hx.mp q.1))), if_neg (fun q => by have := hr0.mp q; omega)]
    exact ⟨rfl, by omega, by omega⟩
theorem fmod6 (v : Int64) : ∃ yn : Nat, yn < 6 ∧ (fmod v 6).toInt32 = nI yn := by
  obtain ⟨-, h1, h2⟩ := fmod_is v
  obtain ⟨k, hk, e⟩ := pk_lOf (x := fmod v 6) (by rw [Int64.lt_iff_toInt_lt]; show ¬ _ < (0 : Int); omega)
  rw [e, pk_lT hk] at h2
  exact ⟨k, by omega, by rw [e]; exact lN_i k⟩
theorem each1_B {B kd f : Nat} {I : Nat → Int32} {c : Int32} {x y : RW} (hx : okB B x) (hy : y ∈ each1 I kd f c x) : okB B y ∧ tN y = tN x := by
  obtain ⟨tn, yn, x1, x2, x3, x4⟩ := id hx
  unfold each1 at hy
  split at hy
  · unfold eachR at hy
    split at hy
    · rw [List.mem_singleton] at hy; subst hy; exact ⟨⟨tn, yn, x1, x2, x3, x4⟩, rfl⟩
    · split at hy
      · rw [List.mem_singleton] at hy; subst hy
        obtain ⟨y9, e1, e2⟩ := fmod6 (fres I f x.2.2 c)
        exact ⟨⟨tn, y9, x1, e1, x3, e2⟩, rfl⟩
      · split at hy
        · rw [List.mem_singleton] at hy; subst hy; exact ⟨hx, rfl⟩
        · cases hy
  · cases hy
theorem flat_asc {g : RW → List RW} {P : List RW} (h1 : ∀ x y, x ∈ P → y ∈ g x → tN y = tN x) (h2 : ∀ x, (g x).length ≤ 1) (hp : ascP P) : ascP (P.flatMap g) := by
  unfold ascP
  rw [List.pairwise_flatMap]
  refine ⟨fun a ha => ?_, ?_⟩
  · have := h2 a
    match hg : g a, this with
    | [], _ => exact List.Pairwise.nil
    | [z], _ => exact List.pairwise_singleton _ _
    | z :: z2 :: zs, h => simp at h
  · refine List.Pairwise.imp_of_mem ?_ hp
    intro a b ha hb hab x hx y hy
    rw [h1 a x ha hx, h1 b y hb hy]; exact hab
theorem mrg_mem {y : RW} : ∀ {P Q : List RW}, y ∈ mrg P Q → y ∈ P ∨ y ∈ Q
  | [], q, h => Or.inr (by simpa [mrg] using h)
  | p :: ps, [], h => Or.inl (by simpa [mrg] using h)
  | p :: ps, q :: qs, h => by
    rw [mrg] at h
    split at h
    · rcases List.mem_cons.mp h with e | e
      · exact Or.inr (by rw [e]; exact List.mem_cons_self)
      · rcases mrg_mem (P := p :: ps) (Q := qs) e with e2 | e2
        · exact Or.inl e2
        · exact Or.inr (List.mem_cons_of_mem _ e2)
    · rcases List.mem_cons.mp h with e | e
      · exact Or.inl (by rw [e]; exact List.mem_cons_self)
      · rcases mrg_mem (P := ps) (Q := q :: qs) e with e2 | e2
        · exact Or.inl (List.mem_cons_of_mem _ e2)
        · exact Or.inr e2
theorem mrg_asc {B : Nat} (hB : B ≤ 100000) : ∀ {P Q : List RW}, allB B P → allB B Q → ascP P → ascP Q → ascP (mrg P Q)
  | [], q, _, _, _, h => by rw [mrg]; exact h
  | p :: ps, [], _, _, h, _ => by rw [mrg]; exact h
  | p :: ps, q :: qs, a1, a2, h1, h2 => by
    obtain ⟨b1, -, -, -⟩ := okB_n (a1 p List.mem_cons_self) hB
    obtain ⟨b2, -, -, -⟩ := okB_n (a2 q List.mem_cons_self) hB
    have c1 := okB_n (a1 p List.mem_cons_self) hB
    have c2 := okB_n (a2 q List.mem_cons_self) hB
    have hlt : q.1 < p.1 ↔ tN q < tN p := by rw [b1, b2, nI_ltI (by omega) (by omega)]
    obtain ⟨p1, p2⟩ := List.pairwise_cons.mp h1
    obtain ⟨q1, q2⟩ := List.pairwise_cons.mp h2
    rw [mrg]
    split
    · rename_i h
      rw [hlt] at h
      refine List.pairwise_cons.mpr ⟨fun z hz => ?_, mrg_asc hB a1 (fun z hz => a2 z (List.mem_cons_of_mem _ hz)) h1 q2⟩
      rcases mrg_mem hz with e | e
      · rcases List.mem_cons.mp e with e2 | e2
        · rw [e2]; omega
        · have := p1 z e2; omega
      · exact q1 z e
    · rename_i h
      rw [hlt] at h
      refine List.pairwise_cons.mpr ⟨fun z hz => ?_, mrg_asc hB (fun z hz => a1 z (List.mem_cons_of_mem _ hz)) a2 p2 h2⟩
      rcases mrg_mem hz with e | e
      · exact p1 z e
      · rcases List.mem_cons.mp e with e2 | e2
        · rw [e2]; omega
        · have := q1 z e2; omega
theorem nextK_lt {P : List RW} {i j : Nat} (h : nextK P i = some j) : j < P.length := List.mem_range.mp (List.mem_of_find?_eq_some h)
theorem fall_B {B n : Nat} {P : List RW} {W : Int32} (h : allB B P) (hn : n ≤ P.length) : allB B (fallL P W n) := by
  intro x hx
  obtain ⟨i, hi, hxi⟩ := List.mem_flatMap.mp hx
  have hi2 := List.mem_range.mp hi
  unfold fall1 at hxi
  split at hxi
  · cases hxi
  · rename_i j hj
    split at hxi
    · rw [List.mem_singleton] at hxi
      subst hxi
      obtain ⟨tn, yn, a1, a2, a3, a4⟩ := h _ (getD_mem (nextK_lt hj))
      obtain ⟨tm, ym, b1, b2, b3, b4⟩ := h _ (getD_mem (show i < P.length by omega))
      exact ⟨tn, ym, a1, b2, a3, b4⟩
    · cases hxi
theorem fir_B {B n m : Nat} {P : List RW} (h : allB B P) (hn : m ≤ P.length) : allB B (firL P n m) := by
  intro x hx
  obtain ⟨i, hi, hxi⟩ := List.mem_flatMap.mp hx
  have hi2 := List.mem_range.mp hi
  unfold fir1 at hxi
  split at hxi
  · rw [List.mem_singleton] at hxi; subst hxi; exact h _ (getD_mem (by omega))
  · cases hxi
theorem ascP_at {P : List RW} (h : ascP P) {i j : Nat} (hij : i < j) (hj : j < P.length) : tN (P.getD i r0) ≤ tN (P.getD j r0) := by
  have := List.pairwise_iff_getElem.mp h i j (by omega) hj hij
  rw [List.getD_eq_getElem?_getD, List.getD_eq_getElem?_getD, List.getElem?_eq_getElem hj, List.getElem?_eq_getElem (show i < P.length by omega)]
  exact this
theorem fir_asc {n : Nat} {P : List RW} (h : ascP P) : ascP (firL P n P.length) := by
  unfold firL ascP
  rw [List.pairwise_flatMap]
  refine ⟨fun a ha => ?_, ?_⟩
  · unfold fir1; split
    · exact List.pairwise_singleton _ _
    · exact List.Pairwise.nil
  · refine List.Pairwise.imp_of_mem ?_ List.pairwise_lt_range
    intro a b ha hb hab x hx y hy
    have hb2 := List.mem_range.mp hb
    unfold fir1 at hx hy
    split at hx
    · split at hy
      · rw [List.mem_singleton] at hx hy; subst hx; subst hy; exact ascP_at h hab hb2
      · cases hy
    · cases hx
theorem jn_B {B W : Nat} {P Q : List RW} (h1 : allB B P) (h2 : allB B Q) : allB B (jn P Q W) := by
  intro x hx
  obtain ⟨a, ha, hxa⟩ := List.mem_flatMap.mp hx
  obtain ⟨b, hb, hxb⟩ := List.mem_flatMap.mp hxa
  split at hxb
  · rw [List.mem_singleton] at hxb
    subst hxb
    obtain ⟨tn, yn, a1, a2, a3, a4⟩ := h1 a ha
    obtain ⟨tm, ym, b1, b2, b3, b4⟩ := h2 b hb
    unfold pairR
    by_cases q : a.1 < b.1
    · exact ⟨tm, yn, b1, a2, by rw [if_pos q]; exact b3, a4⟩
    · exact ⟨tn, yn, a1, a2, by rw [if_neg q]; exact a3, a4⟩
  · cases hxb
theorem clo_mem {C : Nat → Nat} {R : Nat → Int64} {tm : Int32} {n : Nat} {x : RW} (h : x ∈ clo C R tm n) : ∃ k, k < n ∧ 0 < C k ∧ x = (tm, nI k, R k) := by
  obtain ⟨k, hk, hx⟩ := List.mem_flatMap.mp h
  split at hx
  · rename_i hc; rw [List.mem_singleton] at hx; exact ⟨k, List.mem_range.mp hk, hc, hx⟩
  · cases hx
/-- the spans' state as the rows go by: what was given is in order, and ends before the open span's end -/
def spK (B size : Nat) (s : SP) : Prop := allB (B + 1000) s.2.2.2 ∧ ascP s.2.2.2 ∧ (∀ x ∈ s.2.2.2, tN x + 1 + size ≤ s.1 * size) ∧ ((s.1 = 0 ∧ s.2.1 = fun _ => 0) ∨ (1 ≤ s.1 ∧ (s.1 - 1) * size < B))
theorem clo_time {size o1 : Nat} (h : 1 ≤ o1 * size) : nI (o1 * size) - 1 = nI (o1 * size - 1) := pk_sub (a := o1 * size) (b := 1) h
theorem spE_ok {B size : Nat} {s : SP} (hB : B + 1000 ≤ 100000) (h1 : 1 ≤ size) (h2 : size ≤ 1000) (h : spK B size s) : allB (B + 1000) (spE size s) ∧ ascP (spE size s) ∧ ∀ x ∈ spE size s, tN x + 1 ≤ s.1 * size := by
  obtain ⟨k1, k2, k3, k4⟩ := h
  rcases k4 with ⟨k5, k6⟩ | ⟨k5, k6⟩
  · unfold spE
    rw [k6, clo_zero, List.append_nil]
    exact ⟨k1, k2, fun x hx => by have := k3 x hx; omega⟩
  · have hm : (s.1 - 1) * size + size = s.1 * size := by
      rw [← Nat.succ_mul]; congr 1; omega
    have hc : ∀ x ∈ clo s.2.1 s.2.2.1 (nI (s.1 * size) - 1) 6, okB (B + 1000) x ∧ tN x = s.1 * size - 1 := by
      intro x hx
      obtain ⟨k, a1, a2, rfl⟩ := clo_mem hx
      rw [clo_time (by omega)]
      refine ⟨⟨s.1 * size - 1, k, by omega, a1, rfl, rfl⟩, ?_⟩
      unfold tN
      exact nI_clamp (by omega)
    unfold spE
    refine ⟨fun x hx => ?_, ?_, fun x hx => ?_⟩
    · rcases List.mem_append.mp hx with e | e
      · exact k1 x e
      · exact (hc x e).1
    · unfold ascP
      rw [List.pairwise_append]
      refine ⟨k2, ?_, fun a ha b hb => ?_⟩
      · refine List.Pairwise.imp_of_mem (R := fun _ _ => True) ?_ (List.pairwise_of_forall (fun _ _ => trivial))
        intro a b ha hb _
        rw [(hc a ha).2, (hc b hb).2]
        exact Nat.le_refl _
      · have := k3 a ha
        rw [(hc b hb).2]; omega
    · rcases List.mem_append.mp hx with e | e
      · have := k3 x e; omega
      · rw [(hc x e).2]; omega
theorem spF_ok {B size how : Nat} {s : SP} {x : RW} (hB : B + 1000 ≤ 100000) (h1 : 1 ≤ size) (h2 : size ≤ 1000) (h : spK B size s) (hx : okB B x) (hle : s.1 ≤ tN x / size + 1) : spK B size (spF size how s x) ∧ (spF size how s x).1 = tN x / size + 1 := by
  obtain ⟨-, x2, -, -⟩ := okB_n hx (by omega)
  have hdm : tN x / size * size ≤ tN x := Nat.div_mul_le_self _ _
  unfold spF
  by_cases hc : tN x / size + 1 = s.1
  · simp only [hc, if_true]
    obtain ⟨k1, k2, k3, k4⟩ := h
    have hs1 : 1 ≤ s.1 := by rw [← hc]; exact Nat.succ_pos _
    refine ⟨⟨k1, k2, k3, Or.inr ⟨hs1, ?_⟩⟩, trivial⟩
    show (s.1 - 1) * size < B
    rw [← hc, Nat.add_sub_cancel]; omega
  · simp only [hc, if_false]
    obtain ⟨e1, e2, e3⟩ := spE_ok hB h1 h2 h
    refine ⟨⟨e1, e2, fun y hy => ?_, Or.inr ⟨by show 1 ≤ tN x / size + 1; omega, ?_⟩⟩, trivial⟩
    · have h5 := e3 y hy
      have h6 : s.1 * size ≤ tN x / size * size := Nat.mul_le_mul_right _ (by omega)
      show tN y + 1 + size ≤ (tN x / size + 1) * size
      rw [Nat.succ_mul]; omega
    · show (tN x / size + 1 - 1) * size < B
      rw [Nat.add_sub_cancel]; omega
theorem sp_fold {B size how : Nat} (hB : B + 1000 ≤ 100000) (h1 : 1 ≤ size) (h2 : size ≤ 1000) : ∀ (P : List RW) (s : SP), allB B P → ascP P → spK B size s → (∀ x ∈ P, s.1 ≤ tN x / size + 1) → spK B size (P.foldl (spF size how) s)
  | [], s, _, _, h, _ => h
  | x :: P, s, ha, hp, h, hle => by
    obtain ⟨p1, p2⟩ := List.pairwise_cons.mp hp
    obtain ⟨f1, f2⟩ := spF_ok (how := how) hB h1 h2 h (ha x List.mem_cons_self) (hle x List.mem_cons_self)
    rw [List.foldl_cons]
    refine sp_fold hB h1 h2 P _ (fun z hz => ha z (List.mem_cons_of_mem _ hz)) p2 f1 (fun z hz => ?_)
    rw [f2]
    have := Nat.div_le_div_right (c := size) (p1 z hz)
    omega
theorem spL_ok {B size how : Nat} {P : List RW} (hB : B + 1000 ≤ 100000) (h1 : 1 ≤ size) (h2 : size ≤ 1000) (ha : allB B P) (hp : ascP P) : allB (B + 1000) (spL size how P) ∧ ascP (spL size how P) := by
  have h0 : spK B size sp0 := ⟨fun x hx => (by cases hx), List.Pairwise.nil, fun x hx => (by cases hx), Or.inl ⟨rfl, rfl⟩⟩
  obtain ⟨a, b, -⟩ := spE_ok hB h1 h2 (sp_fold (how := how) hB h1 h2 P sp0 ha hp h0 (fun x _ => Nat.zero_le _))
  exact ⟨a, b⟩
def jB (B : Nat) (r : JR) : Prop := allB B r.2.1 ∧ ascP r.2.1
theorem jDef_B {A : List AR} {I : Nat → Int32} {o : OD} {J : Nat → JR} {i : Nat} (hi : i < 12) (hA : ∀ i, i < A.length → arOK (A.getD i a0)) (hW : opW o i) (hJ : ∀ k, k < i → jB (1000 * (k + 1)) (J k)) : jB (1000 * (i + 1)) (jDef A I o J) := by
  have hnil : ∀ B, jB B (true, [], 0, 0) := fun B => ⟨fun x hx => (by cases hx), List.Pairwise.nil⟩
  unfold jDef
  split
  · obtain ⟨a, b⟩ := srt_asc (B := 1000) (by omega) (sel_B (s := nI o.2.2.2.1) hA)
    exact ⟨a.mono (by omega), b⟩
  · rename_i hk
    split
    · exact hnil _
    · split
      · obtain ⟨hp, hq⟩ := hW.2.2.1 (by omega)
        obtain ⟨p1, p2⟩ := hJ _ hp
        obtain ⟨q1, q2⟩ := hJ _ hq
        have p1 : allB (1000 * i) (J o.2.1).2.1 := p1.mono (by omega)
        have q1 : allB (1000 * i) (J o.2.2.1).2.1 := q1.mono (by omega)
        show allB (1000 * (i + 1)) (gv I o.1 o.2.2.2.1 o.2.2.2.2 (J o.2.1).2.1 (J o.2.2.1).2.1) ∧ ascP (gv I o.1 o.2.2.2.1 o.2.2.2.2 (J o.2.1).2.1 (J o.2.2.1).2.1)
        unfold gv
        split
        · refine ⟨fun x hx => ?_, flat_asc (fun x y hx hy => (each1_B (p1 x hx) hy).2) (each1_len _ _ _ _) p2⟩
          obtain ⟨y, hy, hxy⟩ := List.mem_flatMap.mp hx
          exact (each1_B (p1 y hy) hxy).1.mono (by omega)
        · split
          · rename_i h4
            obtain ⟨a, b⟩ := spL_ok (how := o.2.2.2.2.toNatClampNeg) (show 1000 * i + 1000 ≤ 100000 by omega) (hW.2.2.2.2 h4).1 hW.2.1 p1 p2
            exact ⟨a.mono (by omega), b⟩
          · split
            · obtain ⟨a, b⟩ := srt_asc (show 1000 * i ≤ 100000 by omega) (jn_B (W := o.2.2.2.1) p1 q1)
              exact ⟨a.mono (by omega), b⟩
            · split
              · refine ⟨fun x hx => ?_, mrg_asc (show 1000 * i ≤ 100000 by omega) p1 q1 p2 q2⟩
                rcases mrg_mem hx with e | e
                · exact (p1 x e).mono (by omega)
                · exact (q1 x e).mono (by omega)
              · split
                · obtain ⟨a, b⟩ := srt_asc (show 1000 * i ≤ 100000 by omega) (fall_B (W := nI o.2.2.2.1) p1 (Nat.le_refl _))
                  exact ⟨a.mono (by omega), b⟩
                · exact ⟨(fir_B p1 (Nat.le_refl _)).mono (by omega), fir_asc p2⟩
      · exact hnil _
theorem jN_B {A : List AR} {I : Nat → Int32} {O : List OD} {J : Nat → JR} {fc : Nat} (h : okS A O fc) : ∀ i, i ≤ O.length → ∀ k, k < i → jB (1000 * (k + 1)) (jN A I O J i k)
  | 0, _, k, hk => by omega
  | i + 1, hi, k, hk => by
    have h12 := h.2.1
    by_cases q : k = i
    · subst q; rw [jN, va_up_self]; exact jDef_B (by omega) h.2.2.2.2 (h.2.2.2.1 k (by omega)) (jN_B h k (by omega))
    · rw [jN, va_up_ne _ _ q]; exact jN_B h i (by omega) k (by omega)
theorem jOK_N {A : List AR} {I : Nat → Int32} {O : List OD} {J : Nat → JR} {fc : Nat} (h : okS A O fc) (i : Nat) (hi : i ≤ O.length) (k : Nat) (hk : k < i) : jOK (jN A I O J i k) := by
  have h12 := h.2.1
  obtain ⟨a, b⟩ := jN_B h (I := I) (J := J) i hi k hk
  exact jOK_of a b (by omega)
