/-! making cells; constructors; the law's script -/
abbrev rC (d c s : Nat) : Room := { frames := d, cells := c, slots := s, locals := 40 * d }
section NEWS
variable {l : Launch} {t : TT} {rm : Room} {P : GP} {cc : ByteArray} {nL : Nat} {own : String} {ret : Option FieldType} {post : PT} {mc ms : Nat} {N : Nat} {ad : Nat → Nat} {cells slots pc : Nat} {lv : List (Nat × Value)} {st : List Value} {w : Nat → va_E}
variable {y' : MethodName} {cc' : ByteArray} {nL' : Nat} {ret' : Option FieldType} {rm' : Room} {mc' ms' : Nat} {post' : PT} {As st0 : List Value} {idx n : Nat}
theorem KA.ofI {y : MethodName} {av : List Value} (hy : plainFor y = true) (ho : y.cls = own) (hi : y.name = "<init>") (hn : (lg_sl av).length ≤ nL) (hlv : lv_args 0 av = lv)
    (body : ∀ (P : GP) (post' : PT), (gt P).name = "<init>" → (∀ r N' ad' w', post r N' ad' w' → post' r N' ad' w') → G l t rm P cc nL own ret post' mc ms N ad 0 0 0 lv [] w) : KA l t y cc nL ret rm N ad w av mc ms post := by
  subst ho
  intro sz
  refine va_MetF (cc := cc) (maxL := nL) (ret := ret) hy rfl ?_
  intro p e s m args below meth c s₁ B hml hv
  obtain ⟨rfl, hsz, hP, hK, hD0⟩ := hv
  subst hsz
  have hl := lv_entry av (n := nL) hn
  rw [lg_entry_eq]
  subst hlv
  exact body (p, e, s, m, av.toArray, below, meth, c, va_A (mw N ad w) s.heap.size) post ((name_of_methodNamed B.named B.method).1.trans hi) (fun _ _ _ _ h => h) ⟨B.exec, B.bytes, hml, findClass_of_methodNamed B.named, fun w h => atoms_spec (ws := Cond.code y cc nL ret :: TB) B.pre w (List.mem_cons_of_mem _ h), hK, fun q h => Or.inr h, B.notSynchronized, B.returns⟩ hD0.self s.heap [] _ hP va_S.rf hl
theorem G.newo {C : String} {T : u_T} {NN ci index : Nat} (hin : ∀ x ∈ u_ws C T NN, x ∈ TB) (ty0 : Nat → FieldType) (hty : ∀ k, k < NN → parseFieldDescriptor (T k).2.2.1 = some (ty0 k)) (h1 : Cond.classLink own index C ∈ TB) (h2 : Cond.instantiable C NN ∈ TB) (h3 : Cond.initialized C ∈ TB) (hc : vwCl[ci]? = some (C, T, NN)) {fs : List Value} (hfs : ∀ j, j < NN → defaultValue (ty0 j) = vp_V fs j) (hcells : cells + 1 ≤ rm.cells) (hslots : slots + NN ≤ rm.slots) (hdg : decode cc pc = .ok (.new index, 3))
    (kk : ∀ (q : Nat) (ad' : Nat → Nat) (w' : Nat → va_E), ad' N = q → (∀ i, i < N → ad' i = ad i) → w' N = .inr (ci, fs) → (∀ i, i < N → w' i = w i) → G l t rm P cc nL own ret post mc ms (N + 1) ad' (cells + 1) (slots + NN) (pc + 3) lv (.ref q :: st) w') : G l t rm P cc nL own ret post mc ms N ad cells slots pc lv st w := fun F D H locs ls hP hS hl =>
  va_new F.exec F.code F.ts hin ty0 hty F.cls (F.ts _ h1) (F.ts _ h2) (F.ts _ h3) F.kk.1 hP D hS F.new hc hfs hcells hslots hdg (fun q H1 hP1 hD1 hS1 => by
    rw [mw_push] at hP1 hD1
    exact kk q (va_up ad N q) (va_up w N (.inr (ci, fs))) (va_up_self _ _ _) (fun i hi => va_up_ne _ _ (by omega)) (va_up_self _ _ _) (fun i hi => va_up_ne _ _ (by omega)) F hD1 H1 locs ls hP1 hS1 hl)
theorem tys_same {t : TT} {D : va_G} {cl : List vw_C} {U : State} {cA : ClassId} {ty : FieldType} {j : Nat} {cB : ClassId} (hK : va_K D cl (tyL t ++ [(cA, ty)]) U) (hj : (tyL t)[j]? = some (cB, ty)) : cA = cB := by
  have h1 := (hK.2 4 (cA, ty) rfl).2
  have h2 := (hK.2 j (cB, ty) (by rw [List.getElem?_append_left (List.getElem?_eq_some_iff.mp hj).1]; exact hj)).2
  cases ty <;> first
    | (exact Option.some.inj (Eq.trans (Eq.symm h1) h2))
    | (obtain ⟨kA, comp, a1, a2, a3, a4⟩ := h1
       obtain ⟨kB, comp', b1, b2, b3, b4⟩ := h2
       exact Option.some.inj (a4.symm.trans b4))
theorem G.newa {atype : ArrayType} {ty : FieldType} {cB : ClassId} {a0 : vp_A} (j cap : Nat) (hty : newarray.typeOf atype = ty) (h1 : Cond.arrayClass ty ∈ TB) (hj : (tyL t)[j]? = some (cB, ty)) (ha : ∀ cA : ClassId, vp_cell cA a0 = arrV cA cap (fun _ => defaultValue ty)) {i : Int32} (hi : i = nI cap) (hcap : cap < 100000) (hb8 : cap * componentBytes ty ≤ 536870912) (hcells : cells + 1 ≤ rm.cells) (hslots : slots + cap ≤ rm.slots) (hdg : decode cc pc = .ok (.newarray atype, 2))
    (kk : ∀ (q : Nat) (ad' : Nat → Nat) (w' : Nat → va_E), ad' N = q → (∀ i, i < N → ad' i = ad i) → w' N = .inl (cB, a0) → (∀ i, i < N → w' i = w i) → G l t rm P cc nL own ret post mc ms (N + 1) ad' (cells + 1) (slots + cap) (pc + 2) lv (.ref q :: st) w') : G l t rm P cc nL own ret post mc ms N ad cells slots pc lv (.int i :: st) w := fun F D H locs ls hP hS hl => by
  subst hi
  refine va_newa F.exec F.code (by rw [hty]; exact F.ts _ h1) hty F.kk.1 hP D hS F.new ha (nI_pos (by omega)) (nI_clamp (by omega)) hb8 hcells hslots hdg (fun q cA H1 hK1 hP1 hD1 hS1 => ?_)
  obtain rfl := tys_same hK1 hj
  rw [mw_push] at hP1 hD1
  exact kk q (va_up ad N q) (va_up w N (.inl (cA, a0))) (va_up_self _ _ _) (fun i hi => va_up_ne _ _ (by omega)) (va_up_self _ _ _) (fun i hi => va_up_ne _ _ (by omega)) F hD1 H1 locs ls hP1 hS1 hl
theorem G.newq {index : Nat} (cap : Nat) (h1 : Cond.classLink own index RX2 ∈ TB) {i : Int32} (hi : i = nI cap) (hcap : cap < 100000) (hcells : cells + 1 ≤ rm.cells) (hslots : slots + cap ≤ rm.slots) (hdg : decode cc pc = .ok (.anewarray index, 3))
    (kk : ∀ (q : Nat) (ad' : Nat → Nat) (w' : Nat → va_E), ad' N = q → (∀ i, i < N → ad' i = ad i) → w' N = .inl (t.2.2.2.2, cap, .inr (.inr (.inr (.inr (fun _ => none))))) → (∀ i, i < N → w' i = w i) → G l t rm P cc nL own ret post mc ms (N + 1) ad' (cells + 1) (slots + cap) (pc + 3) lv (.ref q :: st) w') : G l t rm P cc nL own ret post mc ms N ad cells slots pc lv (.int i :: st) w := fun F D H locs ls hP hS hl => by
  subst hi
  refine va_newq F.exec F.code F.cls (F.ts _ h1) F.kk.2.2.2 F.kk.1 hP D hS F.new (nI_pos (by omega)) (nI_clamp (by omega)) (by omega) hcells hslots hdg (fun q cA H1 hK1 hP1 hD1 hS1 => ?_)
  obtain rfl := tys_same hK1 (j := 3) rfl
  rw [mw_push] at hP1 hD1
  exact kk q (va_up ad N q) (va_up w N _) (va_up_self _ _ _) (fun i hi => va_up_ne _ _ (by omega)) (va_up_self _ _ _) (fun i hi => va_up_ne _ _ (by omega)) F hD1 H1 locs ls hP1 hS1 hl
theorem G.objInit {a : Nat} (h1 : Cond.methodLink own idx objectInit ∈ TB) (hf : 1 ≤ rm.frames) (hsum : (st.map fun v => v.category).sum + 12 ≤ rm.locals) (hdg : decode cc pc = .ok (.invokespecial idx, 3)) (k : G l t rm P cc nL own ret post mc ms N ad cells slots (pc + 3) lv st w) : G l t rm P cc nL own ret post mc ms N ad cells slots pc lv (.ref a :: st) w := fun F D H locs ls hP hS hl =>
  W.objInit F.exec F.code F.cls (F.ts _ h1) (F.ts _ tb_50) (F.ts _ tb_51) rfl (by rw [F.ml]; exact hl.1) rfl hdg hf (by show 2 * 0 + _ + 12 ≤ _; omega) (k F D H locs ls hP hS hl)
theorem G.st1 {k0 a : Nat} (ha : ad k0 = a) (k : G l t rm P cc nL own ret post mc ms N ad cells slots pc lv (.ref (ad k0) :: st) w) : G l t rm P cc nL own ret post mc ms N ad cells slots pc lv (.ref a :: st) w := ha ▸ k
theorem G.st2 {k0 a : Nat} {v : Value} (ha : ad k0 = a) (k : G l t rm P cc nL own ret post mc ms N ad cells slots pc lv (v :: .ref (ad k0) :: st) w) : G l t rm P cc nL own ret post mc ms N ad cells slots pc lv (v :: .ref a :: st) w := ha ▸ k
theorem G.callINA (k0 : Nat) (hM : KA l t y' cc' nL' none rm' N ad w (.ref (ad k0) :: As) mc' ms' post') (hst : st0 = As.reverse ++ .ref (ad k0) :: st) (qn : String × Nat × MethodName × String) (hq : qn ∈ nestM) {host : String} (hqe : qn = (own, idx, y', host)) (h2 : Cond.instanceMethod y' ∈ TB) (hy1 : y'.name = "<init>") (h4 : Cond.initialized y'.cls ∈ TB) (h5 : Cond.code y' cc' nL' none ∈ TB) (hd : y'.cls ≠ "java/lang/invoke/MethodHandle" ∧ y'.cls ≠ "java/lang/invoke/VarHandle" ∧ (parseMethodDescriptor y'.desc).map (fun d => d.parameters.length) = some n) (hn : As.length = n) (hrm : rm'.cells = mc' ∧ rm'.slots = ms' ∧ rm'.frames + 1 ≤ rm.frames ∧ 8 + (nL' + 11) + rm'.locals ≤ rm.locals) (hsum : (st.map fun v => v.category).sum ≤ 8) (hcs : cells + mc' ≤ rm.cells ∧ slots + ms' ≤ rm.slots) (hdg : decode cc pc = .ok (.invokespecial idx, 3))
    (kk : ∀ (r : Option Value) (N' : Nat) (ad' : Nat → Nat) (w' : Nat → va_E), post' r N' ad' w' → G l t rm P cc nL own ret post mc ms N' ad' (cells + mc') (slots + ms') (pc + 3) lv (r.toList ++ st) w') : G l t rm P cc nL own ret post mc ms N ad cells slots pc lv st0 w := by
  intro F D H locs ls hP hS hl
  subst hst
  exact va_callg (va_runIN (Ts := TB) (host := host) (As := As) (rest := st) ⟨F.exec, F.code, F.ml, F.cls, F.ts⟩ (hM H.size) ⟨va_cnB n F.ts (tb_C h5) rfl hrm.1 hrm.2.1 (by have h9 := F.kk.2.2.1 qn hq; rw [hqe] at h9; exact h9) (F.ts _ h4) hd ⟨hrm.2.2.1, hrm.2.2.2⟩, hy1, F.ts _ h2⟩ ⟨kP_blind, fun U hU hW => ⟨rfl, by rw [hU], by rw [hU]; exact hP, F.kk.warm hW, D.weaken (fun _ _ _ _ => trivial)⟩⟩ rfl hn hl.1 rfl (lv_room hsum) hdg hcs) hS (fun q _ h => mw_free D hS F.new q h) (mw_free D hS F.new) (fun r N' ad' w' H1 locs1 hp hP1 hD1 hS1 => kk r N' ad' w' hp F (hD1.weaken (fun _ q _ h => mw_free D hS F.new q.1 h)) H1 locs1 ls hP1 hS1 hl)
theorem G.astq (k0 k1 : Nat) (hk : k0 < N) (hk1 : k1 < N) {n : Nat} {f : Nat → Option Nat} {fs : List Value} (hw : w k0 = .inl (t.2.2.2.2, n, .inr (.inr (.inr (.inr f))))) (hw1 : w k1 = .inr (2, fs)) {i : Int32} (j : Nat) (hi : i = nI j) (hj : j < n) (hn : n < 2 ^ 31) (hdg : decode cc pc = .ok (.aastore, 1))
    (kk : ∀ w' : Nat → va_E, w' k0 = .inl (t.2.2.2.2, n, .inr (.inr (.inr (.inr (va_up f j (some (ad k1))))))) → (∀ i, i ≠ k0 → w' i = w i) → G l t rm P cc nL own ret post mc ms N ad cells slots (pc + 1) lv st w') : G l t rm P cc nL own ret post mc ms N ad cells slots pc lv (.ref (ad k1) :: .int i :: .ref (ad k0) :: st) w := fun F D H locs ls hP hS hl => by
  subst hi
  refine va_astq (r := (RX2, TX2, 10)) F.exec F.code F.kk.1 hP D hS k0 3 k1 2 (by rw [mw_get hk, hw]) rfl (by rw [mw_get hk1, hw1]) rfl (vp_in_nI hj hn) hdg (fun H1 locs1 hP1 hD1 hS1 => ?_)
  rw [nI_clamp (Nat.lt_trans hj hn), mw_set hk] at hP1
  exact kk (va_up w k0 _) (va_up_self _ _ _) (fun i hi => va_up_ne _ _ hi) F (mw_D _ D) H1 locs1 ls hP1 hS1 hl
theorem G.sld {b L : Nat} {xs : Nat → Int32} (hX : va_X b L xs (gs P) (gs P).heap) (hbl : b < (gs P).heap.size) (hbA : ¬ gA P b) {i : Int32} (j : Nat) (hi : i = nI j) (hj : j < L) (hL : L < 2 ^ 31) (hdg : decode cc pc = .ok (.iaload, 1)) (k : G l t rm P cc nL own ret post mc ms N ad cells slots (pc + 1) lv (.int (xs j) :: st) w) : G l t rm P cc nL own ret post mc ms N ad cells slots pc lv (.int i :: .ref b :: st) w := fun F D H locs ls hP hS hl => by
  subst hi
  refine va_sld F.exec F.code hX hbl hbA hS (vp_in_nI hj hL) hdg ?_
  rw [nI_clamp (Nat.lt_trans hj hL)]
  exact k F D H locs ls hP hS hl
theorem G.slen {b L : Nat} {xs : Nat → Int32} (hX : va_X b L xs (gs P) (gs P).heap) (hbl : b < (gs P).heap.size) (hbA : ¬ gA P b) (hdg : decode cc pc = .ok (.arraylength, 1)) (k : G l t rm P cc nL own ret post mc ms N ad cells slots (pc + 1) lv (.int (nI L) :: st) w) : G l t rm P cc nL own ret post mc ms N ad cells slots pc lv (.ref b :: st) w := fun F D H locs ls hP hS hl =>
  va_slen F.exec F.code hX hbl hbA hS hdg (k F D H locs ls hP hS hl)
end NEWS
theorem isRows.mv {t : TT} {ad ad' : Nat → Nat} {w w' : Nat → va_E} {r cap : Nat} {L : List RW} (h : isRows t ad w r cap L) (ka : ∀ i, r ≤ i → i < r + 4 → ad' i = ad i) (k : ∀ i, r ≤ i → i < r + 4 → w' i = w i) : isRows t ad' w' r cap L := by
  obtain ⟨T, Y, V, n, h0, h1, h2, h3, hn, hL⟩ := h
  refine ⟨T, Y, V, n, ?_, (k (r + 1) (by omega) (by omega)).trans h1, (k (r + 2) (by omega) (by omega)).trans h2, (k (r + 3) (by omega) (by omega)).trans h3, hn, hL⟩
  rw [k r (by omega) (by omega), h0, ka (r + 1) (by omega) (by omega), ka (r + 2) (by omega) (by omega), ka (r + 3) (by omega) (by omega)]
theorem isArr.mv {t : TT} {ad ad' : Nat → Nat} {w w' : Nat → va_E} {k : Nat} {A : List AR} (h : isArr t ad w k A) (ka : ∀ i, k ≤ i → i < k + 6 → ad' i = ad i) (hk : ∀ i, k ≤ i → i < k + 6 → w' i = w i) : isArr t ad' w' k A := by
  obtain ⟨S, T, Y, V, Z, n, h0, h1, h2, h3, h4, h5, hn, hA⟩ := h
  refine ⟨S, T, Y, V, Z, n, ?_, (hk (k + 1) (by omega) (by omega)).trans h1, (hk (k + 2) (by omega) (by omega)).trans h2, (hk (k + 3) (by omega) (by omega)).trans h3, (hk (k + 4) (by omega) (by omega)).trans h4, (hk (k + 5) (by omega) (by omega)).trans h5, hn, hA⟩
  rw [hk k (by omega) (by omega), h0, ka (k + 1) (by omega) (by omega), ka (k + 2) (by omega) (by omega), ka (k + 3) (by omega) (by omega), ka (k + 4) (by omega) (by omega), ka (k + 5) (by omega) (by omega)]
theorem isTab.mv {t : TT} {ad ad' : Nat → Nat} {w w' : Nat → va_E} {k : Nat} {I : Nat → Int32} (h : isTab t ad w k I) (ka : ∀ i, k ≤ i → i < k + 2 → ad' i = ad i) (hk : ∀ i, k ≤ i → i < k + 2 → w' i = w i) : isTab t ad' w' k I := by
  obtain ⟨I', h0, h1, h2⟩ := h
  refine ⟨I', ?_, (hk (k + 1) (by omega) (by omega)).trans h1, h2⟩
  rw [hk k (by omega) (by omega), h0, ka (k + 1) (by omega) (by omega)]
theorem isSpan.mv {t : TT} {ad ad' : Nat → Nat} {w w' : Nat → va_E} {k : Nat} {C : Nat → Nat} {R : Nat → Int64} (h : isSpan t ad w k C R) (ka : ∀ i, k ≤ i → i < k + 3 → ad' i = ad i) (hk : ∀ i, k ≤ i → i < k + 3 → w' i = w i) : isSpan t ad' w' k C R := by
  obtain ⟨C', R', h0, h1, h2, h3⟩ := h
  refine ⟨C', R', ?_, (hk (k + 1) (by omega) (by omega)).trans h1, (hk (k + 2) (by omega) (by omega)).trans h2, h3⟩
  rw [hk k (by omega) (by omega), h0, ka (k + 1) (by omega) (by omega), ka (k + 2) (by omega) (by omega)]
