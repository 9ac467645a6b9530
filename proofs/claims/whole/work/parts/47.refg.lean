/-! the reference: an operator's work -/
section RefG
variable {l : Launch} {t : TT} {N : Nat} {ad : Nat → Nat} {w : Nat → va_E} {n on jb fl io op ot ok fa : Int32} {nw : Nat} {U0 M0 T0 Y0 : Nat → Int32} {V0 : Nat → Int64}
def zF (o : OD) (k : Int32) (J : Nat → JR) : Nat := if o.1 = 0 then 0 else if o.1 ≤ 3 then failN k o.2.2.2.1 o.2.2.2.2 (J o.2.1).2.1 else 0
def gF (A : List AR) (I : Nat → Int32) (o : OD) (J : Nat → JR) : List RW := if o.1 = 0 then srt aboveT (sel (nI o.2.2.2.1) A) else gv I o.1 o.2.2.2.1 o.2.2.2.2 (J o.2.1).2.1 (J o.2.2.1).2.1
theorem c_X8_work {A : List AR} {I : Nat → Int32} {o : OD} {k1 o1 o2 nm F : Nat → Int32} {J : Nat → JR} {fc : Nat} (h0 : w 132 = .inr (8, xF ad (nI A.length) on jb (nI fc) io op ot ok (nI nw) fa)) (hA : xArr t w A) (hA60 : A.length ≤ 60) (hT : xTab t w I) (p1 : w 139 = .inl (t.2.1, 12, .inl k1)) (p2 : w 140 = .inl (t.2.1, 12, .inl o1)) (p3 : w 141 = .inl (t.2.1, 12, .inl o2)) (p4 : w 142 = .inl (t.2.1, 12, .inl nm)) (ho : opM o (k1 nw) (o1 nw) (o2 nw) (nm nw)) (hW : opW o nw) (g3 : w 145 = .inl (t.2.1, 24, .inl F)) (hF : F (2 * nw) = nI 0 ∧ F (2 * nw + 1) = nI 0) (hP : ∀ p, p < nw → isP p (J p).2.1 M0 T0 Y0 V0) (hB : ∀ p, p < nw → jB (1000 * (p + 1)) (J p)) (hD : isD t w nw [] U0 M0 T0 Y0 V0) (hn : nw < 12) (hN : 153 ≤ N) :
    K l t yX8_work cX8_work 2 none (rD 2) N ad w [.ref (ad 132), .int (nI o.1)]
      (fun res w' => res = none ∧ isR t w' nw (gF A I o J) U0 M0 T0 Y0 V0 ∧ (∃ fa', w' 132 = .inr (8, xF ad (nI A.length) on jb (nI (fc + (zF o 0 J + zF o 1 J))) io op ot ok (nI nw) fa')) ∧ (∃ F', w' 145 = .inl (t.2.1, 24, .inl F') ∧ F' (2 * nw) = nI (zF o 0 J) ∧ F' (2 * nw + 1) = nI (zF o 1 J) ∧ ∀ j, j < 2 * nw → F' j = F j) ∧ ∀ i, i ≠ 132 → i < 143 ∨ 149 ≤ i → w' i = w i) := by
  obtain ⟨kd, pn, qn, an, bv⟩ := o
  obtain ⟨m1, m2, m3, m4, m5, m6, m7, m8⟩ := ho
  obtain ⟨o1w, o2w, o3w, o4w, o5w⟩ := hW
  dsimp only at m1 m2 m3 m4 m5 m6 m7 m8 o1w o2w o3w o4w o5w
  refine K.of (own := RX8) (lv := [(0, .ref (ad 132)), (1, .int (nI kd))]) (by decide +kernel) rfl (Nat.le_of_ble_eq_true rfl) rfl (fun P post hret => ?_)
  have easy : ∀ (zw2 : Nat → va_E) (G : List RW), gF A I (kd, pn, qn, an, bv) J = G → (kd = 0 ∨ 4 ≤ kd) → isR t zw2 nw G U0 M0 T0 Y0 V0 → (∀ i, i < 143 ∨ 149 ≤ i ∨ i = 145 → zw2 i = w i) → post none N ad zw2 := by
    intro zw2 G hG hk hR hf
    have z0 : ∀ k, zF (kd, pn, qn, an, bv) k J = 0 := fun k => by
      unfold zF
      dsimp only
      rcases hk with q | q
      · rw [if_pos q]
      · rw [if_neg (by omega), if_neg (by omega)]
    refine hret _ _ ⟨rfl, by rw [hG]; exact hR, ⟨fa, by rw [z0, z0]; exact (hf 132 (by omega)).trans h0⟩, ⟨F, (hf 145 (by omega)).trans g3, by rw [z0]; exact hF.1, by rw [z0]; exact hF.2, fun _ _ => rfl⟩, fun i i1 i2 => hf i (by omega)⟩
  refine G.iload_n 1 rfl rfl dX8_work_0 ?_
  rcases (show kd = 0 ∨ kd = 1 ∨ kd = 2 ∨ kd = 3 ∨ kd = 4 ∨ kd = 5 ∨ kd = 6 ∨ kd = 7 ∨ kd = 8 by omega) with rfl | rfl | rfl | rfl | rfl | rfl | rfl | rfl | rfl
  · skip
    refine G.tableIn (off := 51) 52 dX8_work_1 (by decide +kernel) (by decide +kernel) (by decide +kernel) rfl ?_
    refine G.aload_n 0 rfl rfl dX8_work_52 ?_
    refine G.callV (n := 0) 132 (c_X8_readAll h0 hA hA60 p2 (m2 rfl) hD hn hN) rfl (by omega) h0 rfl tb_764 tb_766 tb_17 tb_42 tb_767 (by decide +kernel) rfl ⟨(Nat.le_of_ble_eq_true rfl), (Nat.le_of_ble_eq_true rfl)⟩ ⟨rfl, rfl⟩ (Nat.le_of_ble_eq_true rfl) ⟨Nat.zero_le _, Nat.zero_le _⟩ dX8_work_53 (fun gr1 zw2 hp => ?_)
    obtain ⟨rfl, h5, hf⟩ := hp
    refine G.goto 98 dX8_work_56 rfl ?_
    refine G.vret rfl rfl rfl dX8_work_98 ?_
    exact easy zw2 _ rfl (Or.inl rfl) h5 hf
  · skip
    refine G.tableIn (off := 93) 94 dX8_work_1 (by decide +kernel) (by decide +kernel) (by decide +kernel) rfl ?_
    obtain ⟨pni, qni⟩ := o3w (by omega)
    have hPp := hP pn pni
    have hPq := hP qn qni
    have hBp := hB pn pni
    have hBq := hB qn qni
    have b1 : allB (1000 * nw) (J pn).2.1 := hBp.1.mono (by omega)
    have b2 : allB (1000 * nw) (J qn).2.1 := hBq.1.mono (by omega)
    refine G.aload_n 0 rfl rfl dX8_work_94 ?_
    refine G.callV (n := 0) 132 (c_X8_eachAll h0 hT p1 p2 p3 p4 g3 m1 (m3 (by omega)) (m4 (by omega) (by omega)).1 (m4 (by omega) (by omega)).2 (by omega) (o4w (by omega) (by omega)) pni hPp hF hD hn hN) rfl (by omega) h0 rfl tb_797 tb_799 tb_25 tb_42 tb_800 (by decide +kernel) rfl ⟨(Nat.le_of_ble_eq_true rfl), (Nat.le_of_ble_eq_true rfl)⟩ ⟨rfl, rfl⟩ (Nat.le_of_ble_eq_true rfl) ⟨Nat.zero_le _, Nat.zero_le _⟩ dX8_work_95 (fun gr2 zw2 hp => ?_)
    obtain ⟨rfl, h5, h6, h7, hf⟩ := hp
    refine G.vret rfl rfl rfl dX8_work_98 ?_
    exact hret _ _ ⟨rfl, h5, h6, h7, hf⟩
  · skip
    refine G.tableIn (off := 93) 94 dX8_work_1 (by decide +kernel) (by decide +kernel) (by decide +kernel) rfl ?_
    obtain ⟨pni, qni⟩ := o3w (by omega)
    have hPp := hP pn pni
    have hPq := hP qn qni
    have hBp := hB pn pni
    have hBq := hB qn qni
    have b1 : allB (1000 * nw) (J pn).2.1 := hBp.1.mono (by omega)
    have b2 : allB (1000 * nw) (J qn).2.1 := hBq.1.mono (by omega)
    refine G.aload_n 0 rfl rfl dX8_work_94 ?_
    refine G.callV (n := 0) 132 (c_X8_eachAll h0 hT p1 p2 p3 p4 g3 m1 (m3 (by omega)) (m4 (by omega) (by omega)).1 (m4 (by omega) (by omega)).2 (by omega) (o4w (by omega) (by omega)) pni hPp hF hD hn hN) rfl (by omega) h0 rfl tb_797 tb_799 tb_25 tb_42 tb_800 (by decide +kernel) rfl ⟨(Nat.le_of_ble_eq_true rfl), (Nat.le_of_ble_eq_true rfl)⟩ ⟨rfl, rfl⟩ (Nat.le_of_ble_eq_true rfl) ⟨Nat.zero_le _, Nat.zero_le _⟩ dX8_work_95 (fun gr3 zw2 hp => ?_)
    obtain ⟨rfl, h5, h6, h7, hf⟩ := hp
    refine G.vret rfl rfl rfl dX8_work_98 ?_
    exact hret _ _ ⟨rfl, h5, h6, h7, hf⟩
  · skip
    refine G.tableIn (off := 93) 94 dX8_work_1 (by decide +kernel) (by decide +kernel) (by decide +kernel) rfl ?_
    obtain ⟨pni, qni⟩ := o3w (by omega)
    have hPp := hP pn pni
    have hPq := hP qn qni
    have hBp := hB pn pni
    have hBq := hB qn qni
    have b1 : allB (1000 * nw) (J pn).2.1 := hBp.1.mono (by omega)
    have b2 : allB (1000 * nw) (J qn).2.1 := hBq.1.mono (by omega)
    refine G.aload_n 0 rfl rfl dX8_work_94 ?_
    refine G.callV (n := 0) 132 (c_X8_eachAll h0 hT p1 p2 p3 p4 g3 m1 (m3 (by omega)) (m4 (by omega) (by omega)).1 (m4 (by omega) (by omega)).2 (by omega) (o4w (by omega) (by omega)) pni hPp hF hD hn hN) rfl (by omega) h0 rfl tb_797 tb_799 tb_25 tb_42 tb_800 (by decide +kernel) rfl ⟨(Nat.le_of_ble_eq_true rfl), (Nat.le_of_ble_eq_true rfl)⟩ ⟨rfl, rfl⟩ (Nat.le_of_ble_eq_true rfl) ⟨Nat.zero_le _, Nat.zero_le _⟩ dX8_work_95 (fun gr4 zw2 hp => ?_)
    obtain ⟨rfl, h5, h6, h7, hf⟩ := hp
    refine G.vret rfl rfl rfl dX8_work_98 ?_
    exact hret _ _ ⟨rfl, h5, h6, h7, hf⟩
  · skip
    refine G.tableIn (off := 58) 59 dX8_work_1 (by decide +kernel) (by decide +kernel) (by decide +kernel) rfl ?_
    obtain ⟨pni, qni⟩ := o3w (by omega)
    have hPp := hP pn pni
    have hPq := hP qn qni
    have hBp := hB pn pni
    have hBq := hB qn qni
    have b1 : allB (1000 * nw) (J pn).2.1 := hBp.1.mono (by omega)
    have b2 : allB (1000 * nw) (J qn).2.1 := hBq.1.mono (by omega)
    obtain ⟨hs1, how, hh4, rfl⟩ := o5w rfl
    refine G.aload_n 0 rfl rfl dX8_work_59 ?_
    refine G.callV (n := 0) 132 (c_X8_spanAll h0 p2 p3 p4 (m3 (by omega)) (m5 rfl) (m7 (by omega)) hh4 hs1 o2w pni hPp hD hn hN) rfl (by omega) h0 rfl tb_776 tb_778 tb_20 tb_42 tb_779 (by decide +kernel) rfl ⟨(Nat.le_of_ble_eq_true rfl), (Nat.le_of_ble_eq_true rfl)⟩ ⟨rfl, rfl⟩ (Nat.le_of_ble_eq_true rfl) ⟨Nat.zero_le _, Nat.zero_le _⟩ dX8_work_60 (fun gr5 zw2 hp => ?_)
    obtain ⟨rfl, h5, hf⟩ := hp
    refine G.goto 98 dX8_work_63 rfl ?_
    refine G.vret rfl rfl rfl dX8_work_98 ?_
    rw [spans_is (B := 1000 * nw) (by omega) hs1 o2w b1 hBp.2] at h5
    refine easy zw2 _ ?_ (Or.inr (by omega)) h5 hf
    show spL an (nI how).toNatClampNeg (J pn).2.1 = _
    rw [nI_clamp (by omega)]
  · skip
    refine G.tableIn (off := 65) 66 dX8_work_1 (by decide +kernel) (by decide +kernel) (by decide +kernel) rfl ?_
    obtain ⟨pni, qni⟩ := o3w (by omega)
    have hPp := hP pn pni
    have hPq := hP qn qni
    have hBp := hB pn pni
    have hBq := hB qn qni
    have b1 : allB (1000 * nw) (J pn).2.1 := hBp.1.mono (by omega)
    have b2 : allB (1000 * nw) (J qn).2.1 := hBq.1.mono (by omega)
    have kP := (jOK_of hBp.1 hBp.2 (by omega)).1
    have kQ := (jOK_of hBq.1 hBq.2 (by omega)).1
    refine G.aload_n 0 rfl rfl dX8_work_66 ?_
    refine G.callV (n := 0) 132 (c_X8_joinAll h0 p2 p3 p4 (m3 (by omega)) (m6 (Or.inl rfl)) (m7 (by omega)) o2w pni qni hPp hPq kP kQ hD hn hN) rfl (by omega) h0 rfl tb_780 tb_782 tb_21 tb_42 tb_783 (by decide +kernel) rfl ⟨(Nat.le_of_ble_eq_true rfl), (Nat.le_of_ble_eq_true rfl)⟩ ⟨rfl, rfl⟩ (Nat.le_of_ble_eq_true rfl) ⟨Nat.zero_le _, Nat.zero_le _⟩ dX8_work_67 (fun gr6 zw2 hp => ?_)
    obtain ⟨rfl, h5, hf⟩ := hp
    refine G.goto 98 dX8_work_70 rfl ?_
    refine G.vret rfl rfl rfl dX8_work_98 ?_
    exact easy zw2 _ rfl (Or.inr (by omega)) h5 hf
  · skip
    refine G.tableIn (off := 72) 73 dX8_work_1 (by decide +kernel) (by decide +kernel) (by decide +kernel) rfl ?_
    obtain ⟨pni, qni⟩ := o3w (by omega)
    have hPp := hP pn pni
    have hPq := hP qn qni
    have hBp := hB pn pni
    have hBq := hB qn qni
    have b1 : allB (1000 * nw) (J pn).2.1 := hBp.1.mono (by omega)
    have b2 : allB (1000 * nw) (J qn).2.1 := hBq.1.mono (by omega)
    refine G.aload_n 0 rfl rfl dX8_work_73 ?_
    refine G.callV (n := 0) 132 (c_X8_meetAll h0 p2 p3 (m3 (by omega)) (m6 (Or.inr rfl)) pni qni hPp hPq hD hn hN) rfl (by omega) h0 rfl tb_785 tb_787 tb_22 tb_42 tb_788 (by decide +kernel) rfl ⟨(Nat.le_of_ble_eq_true rfl), (Nat.le_of_ble_eq_true rfl)⟩ ⟨rfl, rfl⟩ (Nat.le_of_ble_eq_true rfl) ⟨Nat.zero_le _, Nat.zero_le _⟩ dX8_work_74 (fun gr7 zw2 hp => ?_)
    obtain ⟨rfl, h5, hf⟩ := hp
    refine G.goto 98 dX8_work_77 rfl ?_
    refine G.vret rfl rfl rfl dX8_work_98 ?_
    rw [meet_is (B := 1000 * nw) (by omega) b1 b2 hBp.2 hBq.2] at h5
    exact easy zw2 _ rfl (Or.inr (by omega)) h5 hf
  · skip
    refine G.tableIn (off := 79) 80 dX8_work_1 (by decide +kernel) (by decide +kernel) (by decide +kernel) rfl ?_
    obtain ⟨pni, qni⟩ := o3w (by omega)
    have hPp := hP pn pni
    have hPq := hP qn qni
    have hBp := hB pn pni
    have hBq := hB qn qni
    have b1 : allB (1000 * nw) (J pn).2.1 := hBp.1.mono (by omega)
    have b2 : allB (1000 * nw) (J qn).2.1 := hBq.1.mono (by omega)
    refine G.aload_n 0 rfl rfl dX8_work_80 ?_
    refine G.callV (n := 0) 132 (c_X8_fallAll h0 p2 p4 (m3 (by omega)) (m7 (by omega)) pni hPp hD hn hN) rfl (by omega) h0 rfl tb_789 tb_791 tb_23 tb_42 tb_792 (by decide +kernel) rfl ⟨(Nat.le_of_ble_eq_true rfl), (Nat.le_of_ble_eq_true rfl)⟩ ⟨rfl, rfl⟩ (Nat.le_of_ble_eq_true rfl) ⟨Nat.zero_le _, Nat.zero_le _⟩ dX8_work_81 (fun gr8 zw2 hp => ?_)
    obtain ⟨rfl, h5, hf⟩ := hp
    refine G.goto 98 dX8_work_84 rfl ?_
    refine G.vret rfl rfl rfl dX8_work_98 ?_
    exact easy zw2 _ rfl (Or.inr (by omega)) h5 hf
  · skip
    refine G.tableIn (off := 86) 87 dX8_work_1 (by decide +kernel) (by decide +kernel) (by decide +kernel) rfl ?_
    obtain ⟨pni, qni⟩ := o3w (by omega)
    have hPp := hP pn pni
    have hPq := hP qn qni
    have hBp := hB pn pni
    have hBq := hB qn qni
    have b1 : allB (1000 * nw) (J pn).2.1 := hBp.1.mono (by omega)
    have b2 : allB (1000 * nw) (J qn).2.1 := hBq.1.mono (by omega)
    refine G.aload_n 0 rfl rfl dX8_work_87 ?_
    refine G.callV (n := 0) 132 (c_X8_firstAll h0 p2 p4 (m3 (by omega)) (m7 (by omega)) o2w pni hPp hD hn hN) rfl (by omega) h0 rfl tb_793 tb_795 tb_24 tb_42 tb_796 (by decide +kernel) rfl ⟨(Nat.le_of_ble_eq_true rfl), (Nat.le_of_ble_eq_true rfl)⟩ ⟨rfl, rfl⟩ (Nat.le_of_ble_eq_true rfl) ⟨Nat.zero_le _, Nat.zero_le _⟩ dX8_work_88 (fun gr9 zw2 hp => ?_)
    obtain ⟨rfl, h5, hf⟩ := hp
    refine G.goto 98 dX8_work_91 rfl ?_
    refine G.vret rfl rfl rfl dX8_work_98 ?_
    exact easy zw2 _ rfl (Or.inr (by omega)) h5 hf
end RefG

