/-! the law: one call of each kind, to both judges -/
abbrev tv (a b : Int32) : Int64 := (a.toInt64 <<< ((nI 32).toInt64 &&& 63)) ||| (b.toInt64 &&& 4294967295)
section LawOps
variable {l : Launch} {t : TT} {P : GP} {post : PT} {N : Nat} {ad : Nat → Nat} {w : Nat → va_E} {b L ii : Nat} {xs : Nat → Int32} {A : List AR} {I : Nat → Int32} {O : List OD} {Td : Nat → List RW} {jd : Bool} {J : Nat → JR} {fc : Nat} {df : DF}
set_option maxHeartbeats 1000000 in
theorem lb_row (hX : va_X b L xs (gs P) (gs P).heap) (hbl : b < (gs P).heap.size) (hbA : ¬ gA P b) (hL : L ≤ 3072) (hi : ii + 6 ≤ L) (hN : 153 ≤ N) (hC : isC t ad w A I O Td jd J fc df) (hM : isM t ad w A I O Td jd J fc df) (next : ∀ (w' : Nat → va_E) (A : List AR) (I : Nat → Int32) (O : List OD) (Td : Nat → List RW) (jd : Bool) (J : Nat → JR) (fc : Nat) (df : DF), isC t ad w' A I O Td jd J fc df → isM t ad w' A I O Td jd J fc df → G l t room_1 P cL_law 4 RL (some .boolean) post 600000 7302250 N ad 153 19069 932 [(0, .ref b), (1, .ref (ad 0)), (2, .ref (ad 132)), (3, .int (nI ii))] [] w') : G l t room_1 P cL_law 4 RL (some .boolean) post 600000 7302250 N ad 153 19069 140 [(0, .ref b), (1, .ref (ad 0)), (2, .ref (ad 132)), (3, .int (nI ii))] [] w := by
  obtain ⟨c0, cA, cT, cOA, cP, cC, cCR, cO, cw, cd⟩ := id hC
  obtain ⟨io, op, ot, ok, nw, fa, m0, -⟩ := id hM
  by_cases hb : xs (ii + 5) = 0
  · skip
    refine G.aload_n 1 rfl rfl dL_law_140 ?_
    refine G.aload_n 0 rfl rfl dL_law_141 ?_
    refine G.iload_n 3 rfl rfl dL_law_142 ?_
    refine G.iconst (v := nI 1) dL_law_143 (by decide +kernel) ?_
    refine G.iadd dL_law_144 ?_
    refine G.topi (nI (ii + 1)) (nI_add ii 1) ?_
    refine G.sld hX hbl hbA (ii + 1) rfl (by omega) (by omega) dL_law_145 ?_
    refine G.aload_n 0 rfl rfl dL_law_146 ?_
    refine G.iload_n 3 rfl rfl dL_law_147 ?_
    refine G.iconst (v := nI 2) dL_law_148 (by decide +kernel) ?_
    refine G.iadd dL_law_149 ?_
    refine G.topi (nI (ii + 2)) (nI_add ii 2) ?_
    refine G.sld hX hbl hbA (ii + 2) rfl (by omega) (by omega) dL_law_150 ?_
    refine G.aload_n 0 rfl rfl dL_law_151 ?_
    refine G.iload_n 3 rfl rfl dL_law_152 ?_
    refine G.iconst (v := nI 3) dL_law_153 (by decide +kernel) ?_
    refine G.iadd dL_law_154 ?_
    refine G.topi (nI (ii + 3)) (nI_add ii 3) ?_
    refine G.sld hX hbl hbA (ii + 3) rfl (by omega) (by omega) dL_law_155 ?_
    refine G.aload_n 0 rfl rfl dL_law_156 ?_
    refine G.iload_n 3 rfl rfl dL_law_157 ?_
    refine G.iconst (v := nI 4) dL_law_158 (by decide +kernel) ?_
    refine G.iadd dL_law_159 ?_
    refine G.topi (nI (ii + 4)) (nI_add ii 4) ?_
    refine G.sld hX hbl hbA (ii + 4) rfl (by omega) (by omega) dL_law_160 ?_
    refine G.aload_n 0 rfl rfl dL_law_161 ?_
    refine G.iload_n 3 rfl rfl dL_law_162 ?_
    refine G.iconst (v := nI 5) dL_law_163 (by decide +kernel) ?_
    refine G.iadd dL_law_164 ?_
    refine G.topi (nI (ii + 5)) (nI_add ii 5) ?_
    refine G.sld hX hbl hbA (ii + 5) rfl (by omega) (by omega) dL_law_165 ?_
    refine G.if_eq 173 dL_law_166 rfl (fun c166 => ?_) (fun c166 => ?_)
    · skip
      refine G.iconst (v := nI 0) dL_law_173 (by decide +kernel) ?_
      refine G.callV (n := 5) 0 (c_X7_row hC (by omega) (xs (ii + 1)) (xs (ii + 2)) (xs (ii + 3)) (xs (ii + 4)) (nI 0) (Or.inl rfl)) rfl (by omega) c0 rfl tb_239 tb_240 tb_241 tb_33 tb_242 (by decide +kernel) rfl ⟨(Nat.le_of_ble_eq_true rfl), (Nat.le_of_ble_eq_true rfl)⟩ ⟨rfl, rfl⟩ (Nat.le_of_ble_eq_true rfl) ⟨(Nat.le_of_ble_eq_true rfl), (Nat.le_of_ble_eq_true rfl)⟩ dL_law_174 (fun gr1 zw hp => ?_)
      obtain ⟨rfl, hC2, hf⟩ := hp
      have hM1 := hM.keep (fun j h _ => hf j h)
      have m1 := (hf 132 (by omega)).trans m0
      refine G.aload_n 2 rfl rfl dL_law_177 ?_
      refine G.aload_n 0 rfl rfl dL_law_178 ?_
      refine G.iload_n 3 rfl rfl dL_law_179 ?_
      refine G.iconst (v := nI 1) dL_law_180 (by decide +kernel) ?_
      refine G.iadd dL_law_181 ?_
      refine G.topi (nI (ii + 1)) (nI_add ii 1) ?_
      refine G.sld hX hbl hbA (ii + 1) rfl (by omega) (by omega) dL_law_182 ?_
      refine G.aload_n 0 rfl rfl dL_law_183 ?_
      refine G.iload_n 3 rfl rfl dL_law_184 ?_
      refine G.iconst (v := nI 2) dL_law_185 (by decide +kernel) ?_
      refine G.iadd dL_law_186 ?_
      refine G.topi (nI (ii + 2)) (nI_add ii 2) ?_
      refine G.sld hX hbl hbA (ii + 2) rfl (by omega) (by omega) dL_law_187 ?_
      refine G.aload_n 0 rfl rfl dL_law_188 ?_
      refine G.iload_n 3 rfl rfl dL_law_189 ?_
      refine G.iconst (v := nI 3) dL_law_190 (by decide +kernel) ?_
      refine G.iadd dL_law_191 ?_
      refine G.topi (nI (ii + 3)) (nI_add ii 3) ?_
      refine G.sld hX hbl hbA (ii + 3) rfl (by omega) (by omega) dL_law_192 ?_
      refine G.aload_n 0 rfl rfl dL_law_193 ?_
      refine G.iload_n 3 rfl rfl dL_law_194 ?_
      refine G.iconst (v := nI 4) dL_law_195 (by decide +kernel) ?_
      refine G.iadd dL_law_196 ?_
      refine G.topi (nI (ii + 4)) (nI_add ii 4) ?_
      refine G.sld hX hbl hbA (ii + 4) rfl (by omega) (by omega) dL_law_197 ?_
      refine G.aload_n 0 rfl rfl dL_law_198 ?_
      refine G.iload_n 3 rfl rfl dL_law_199 ?_
      refine G.iconst (v := nI 5) dL_law_200 (by decide +kernel) ?_
      refine G.iadd dL_law_201 ?_
      refine G.topi (nI (ii + 5)) (nI_add ii 5) ?_
      refine G.sld hX hbl hbA (ii + 5) rfl (by omega) (by omega) dL_law_202 ?_
      refine G.if_eq 210 dL_law_203 rfl (fun c203 => ?_) (fun c203 => ?_)
      · skip
        refine G.iconst (v := nI 0) dL_law_210 (by decide +kernel) ?_
        refine G.callV (n := 5) 132 (c_X8_row hM1 cw hN (xs (ii + 1)) (xs (ii + 2)) (xs (ii + 3)) (xs (ii + 4)) (nI 0) (Or.inl rfl)) rfl (by omega) m1 rfl tb_695 tb_696 tb_697 tb_42 tb_698 (by decide +kernel) rfl ⟨(Nat.le_of_ble_eq_true rfl), (Nat.le_of_ble_eq_true rfl)⟩ ⟨rfl, rfl⟩ (Nat.le_of_ble_eq_true rfl) ⟨(Nat.le_of_ble_eq_true rfl), (Nat.le_of_ble_eq_true rfl)⟩ dL_law_211 (fun gr2 zw2 hp => ?_)
        obtain ⟨rfl, hM2, hf2⟩ := hp
        refine G.icmp_eq 932 dL_law_214 rfl (fun c214 => ?_) (fun c214 => ?_)
        · skip
          exact next _ _ _ _ _ _ _ _ _ (hC2.keep (fun j hj => hf2 j (Or.inl hj))) hM2
        · skip
          exact absurd rfl c214
      · skip
        exact absurd hb c203
    · skip
      exact absurd hb c166
  · skip
    refine G.aload_n 1 rfl rfl dL_law_140 ?_
    refine G.aload_n 0 rfl rfl dL_law_141 ?_
    refine G.iload_n 3 rfl rfl dL_law_142 ?_
    refine G.iconst (v := nI 1) dL_law_143 (by decide +kernel) ?_
    refine G.iadd dL_law_144 ?_
    refine G.topi (nI (ii + 1)) (nI_add ii 1) ?_
    refine G.sld hX hbl hbA (ii + 1) rfl (by omega) (by omega) dL_law_145 ?_
    refine G.aload_n 0 rfl rfl dL_law_146 ?_
    refine G.iload_n 3 rfl rfl dL_law_147 ?_
    refine G.iconst (v := nI 2) dL_law_148 (by decide +kernel) ?_
    refine G.iadd dL_law_149 ?_
    refine G.topi (nI (ii + 2)) (nI_add ii 2) ?_
    refine G.sld hX hbl hbA (ii + 2) rfl (by omega) (by omega) dL_law_150 ?_
    refine G.aload_n 0 rfl rfl dL_law_151 ?_
    refine G.iload_n 3 rfl rfl dL_law_152 ?_
    refine G.iconst (v := nI 3) dL_law_153 (by decide +kernel) ?_
    refine G.iadd dL_law_154 ?_
    refine G.topi (nI (ii + 3)) (nI_add ii 3) ?_
    refine G.sld hX hbl hbA (ii + 3) rfl (by omega) (by omega) dL_law_155 ?_
    refine G.aload_n 0 rfl rfl dL_law_156 ?_
    refine G.iload_n 3 rfl rfl dL_law_157 ?_
    refine G.iconst (v := nI 4) dL_law_158 (by decide +kernel) ?_
    refine G.iadd dL_law_159 ?_
    refine G.topi (nI (ii + 4)) (nI_add ii 4) ?_
    refine G.sld hX hbl hbA (ii + 4) rfl (by omega) (by omega) dL_law_160 ?_
    refine G.aload_n 0 rfl rfl dL_law_161 ?_
    refine G.iload_n 3 rfl rfl dL_law_162 ?_
    refine G.iconst (v := nI 5) dL_law_163 (by decide +kernel) ?_
    refine G.iadd dL_law_164 ?_
    refine G.topi (nI (ii + 5)) (nI_add ii 5) ?_
    refine G.sld hX hbl hbA (ii + 5) rfl (by omega) (by omega) dL_law_165 ?_
    refine G.if_eq 173 dL_law_166 rfl (fun c166 => ?_) (fun c166 => ?_)
    · skip
      exact absurd c166 hb
    · skip
      refine G.iconst (v := nI 1) dL_law_169 (by decide +kernel) ?_
      refine G.goto 174 dL_law_170 rfl ?_
      refine G.callV (n := 5) 0 (c_X7_row hC (by omega) (xs (ii + 1)) (xs (ii + 2)) (xs (ii + 3)) (xs (ii + 4)) (nI 1) (Or.inr rfl)) rfl (by omega) c0 rfl tb_239 tb_240 tb_241 tb_33 tb_242 (by decide +kernel) rfl ⟨(Nat.le_of_ble_eq_true rfl), (Nat.le_of_ble_eq_true rfl)⟩ ⟨rfl, rfl⟩ (Nat.le_of_ble_eq_true rfl) ⟨(Nat.le_of_ble_eq_true rfl), (Nat.le_of_ble_eq_true rfl)⟩ dL_law_174 (fun gr3 zw hp => ?_)
      obtain ⟨rfl, hC2, hf⟩ := hp
      have hM1 := hM.keep (fun j h _ => hf j h)
      have m1 := (hf 132 (by omega)).trans m0
      refine G.aload_n 2 rfl rfl dL_law_177 ?_
      refine G.aload_n 0 rfl rfl dL_law_178 ?_
      refine G.iload_n 3 rfl rfl dL_law_179 ?_
      refine G.iconst (v := nI 1) dL_law_180 (by decide +kernel) ?_
      refine G.iadd dL_law_181 ?_
      refine G.topi (nI (ii + 1)) (nI_add ii 1) ?_
      refine G.sld hX hbl hbA (ii + 1) rfl (by omega) (by omega) dL_law_182 ?_
      refine G.aload_n 0 rfl rfl dL_law_183 ?_
      refine G.iload_n 3 rfl rfl dL_law_184 ?_
      refine G.iconst (v := nI 2) dL_law_185 (by decide +kernel) ?_
      refine G.iadd dL_law_186 ?_
      refine G.topi (nI (ii + 2)) (nI_add ii 2) ?_
      refine G.sld hX hbl hbA (ii + 2) rfl (by omega) (by omega) dL_law_187 ?_
      refine G.aload_n 0 rfl rfl dL_law_188 ?_
      refine G.iload_n 3 rfl rfl dL_law_189 ?_
      refine G.iconst (v := nI 3) dL_law_190 (by decide +kernel) ?_
      refine G.iadd dL_law_191 ?_
      refine G.topi (nI (ii + 3)) (nI_add ii 3) ?_
      refine G.sld hX hbl hbA (ii + 3) rfl (by omega) (by omega) dL_law_192 ?_
      refine G.aload_n 0 rfl rfl dL_law_193 ?_
      refine G.iload_n 3 rfl rfl dL_law_194 ?_
      refine G.iconst (v := nI 4) dL_law_195 (by decide +kernel) ?_
      refine G.iadd dL_law_196 ?_
      refine G.topi (nI (ii + 4)) (nI_add ii 4) ?_
      refine G.sld hX hbl hbA (ii + 4) rfl (by omega) (by omega) dL_law_197 ?_
      refine G.aload_n 0 rfl rfl dL_law_198 ?_
      refine G.iload_n 3 rfl rfl dL_law_199 ?_
      refine G.iconst (v := nI 5) dL_law_200 (by decide +kernel) ?_
      refine G.iadd dL_law_201 ?_
      refine G.topi (nI (ii + 5)) (nI_add ii 5) ?_
      refine G.sld hX hbl hbA (ii + 5) rfl (by omega) (by omega) dL_law_202 ?_
      refine G.if_eq 210 dL_law_203 rfl (fun c203 => ?_) (fun c203 => ?_)
      · skip
        exact absurd c203 hb
      · skip
        refine G.iconst (v := nI 1) dL_law_206 (by decide +kernel) ?_
        refine G.goto 211 dL_law_207 rfl ?_
        refine G.callV (n := 5) 132 (c_X8_row hM1 cw hN (xs (ii + 1)) (xs (ii + 2)) (xs (ii + 3)) (xs (ii + 4)) (nI 1) (Or.inr rfl)) rfl (by omega) m1 rfl tb_695 tb_696 tb_697 tb_42 tb_698 (by decide +kernel) rfl ⟨(Nat.le_of_ble_eq_true rfl), (Nat.le_of_ble_eq_true rfl)⟩ ⟨rfl, rfl⟩ (Nat.le_of_ble_eq_true rfl) ⟨(Nat.le_of_ble_eq_true rfl), (Nat.le_of_ble_eq_true rfl)⟩ dL_law_211 (fun gr4 zw2 hp => ?_)
        obtain ⟨rfl, hM2, hf2⟩ := hp
        refine G.icmp_eq 932 dL_law_214 rfl (fun c214 => ?_) (fun c214 => ?_)
        · skip
          exact next _ _ _ _ _ _ _ _ _ (hC2.keep (fun j hj => hf2 j (Or.inl hj))) hM2
        · skip
          exact absurd rfl c214
set_option maxHeartbeats 1000000 in
theorem lb_late (hX : va_X b L xs (gs P) (gs P).heap) (hbl : b < (gs P).heap.size) (hbA : ¬ gA P b) (hL : L ≤ 3072) (hi : ii + 6 ≤ L) (hN : 153 ≤ N) (hC : isC t ad w A I O Td jd J fc df) (hM : isM t ad w A I O Td jd J fc df) (next : ∀ (w' : Nat → va_E) (A : List AR) (I : Nat → Int32) (O : List OD) (Td : Nat → List RW) (jd : Bool) (J : Nat → JR) (fc : Nat) (df : DF), isC t ad w' A I O Td jd J fc df → isM t ad w' A I O Td jd J fc df → G l t room_1 P cL_law 4 RL (some .boolean) post 600000 7302250 N ad 153 19069 932 [(0, .ref b), (1, .ref (ad 0)), (2, .ref (ad 132)), (3, .int (nI ii))] [] w') : G l t room_1 P cL_law 4 RL (some .boolean) post 600000 7302250 N ad 153 19069 219 [(0, .ref b), (1, .ref (ad 0)), (2, .ref (ad 132)), (3, .int (nI ii))] [] w := by
  obtain ⟨c0, cA, cT, cOA, cP, cC, cCR, cO, cw, cd⟩ := id hC
  obtain ⟨io, op, ot, ok, nw, fa, m0, -⟩ := id hM
  by_cases hb : xs (ii + 2) = 0
  · skip
    refine G.aload_n 1 rfl rfl dL_law_219 ?_
    refine G.aload_n 0 rfl rfl dL_law_220 ?_
    refine G.iload_n 3 rfl rfl dL_law_221 ?_
    refine G.iconst (v := nI 1) dL_law_222 (by decide +kernel) ?_
    refine G.iadd dL_law_223 ?_
    refine G.topi (nI (ii + 1)) (nI_add ii 1) ?_
    refine G.sld hX hbl hbA (ii + 1) rfl (by omega) (by omega) dL_law_224 ?_
    refine G.aload_n 0 rfl rfl dL_law_225 ?_
    refine G.iload_n 3 rfl rfl dL_law_226 ?_
    refine G.iconst (v := nI 2) dL_law_227 (by decide +kernel) ?_
    refine G.iadd dL_law_228 ?_
    refine G.topi (nI (ii + 2)) (nI_add ii 2) ?_
    refine G.sld hX hbl hbA (ii + 2) rfl (by omega) (by omega) dL_law_229 ?_
    refine G.if_eq 237 dL_law_230 rfl (fun c230 => ?_) (fun c230 => ?_)
    · skip
      refine G.iconst (v := nI 0) dL_law_237 (by decide +kernel) ?_
      refine G.callV (n := 2) 0 (c_X7_late hC (by omega) (xs (ii + 1)) (nI 0) (Or.inl rfl)) rfl (by omega) c0 rfl tb_256 tb_257 tb_258 tb_33 tb_259 (by decide +kernel) rfl ⟨(Nat.le_of_ble_eq_true rfl), (Nat.le_of_ble_eq_true rfl)⟩ ⟨rfl, rfl⟩ (Nat.le_of_ble_eq_true rfl) ⟨(Nat.le_of_ble_eq_true rfl), (Nat.le_of_ble_eq_true rfl)⟩ dL_law_238 (fun gr1 zw hp => ?_)
      obtain ⟨rfl, hC2, hf⟩ := hp
      have hM1 := hM.keep (fun j h _ => hf j h)
      have m1 := (hf 132 (by omega)).trans m0
      refine G.aload_n 2 rfl rfl dL_law_241 ?_
      refine G.aload_n 0 rfl rfl dL_law_242 ?_
      refine G.iload_n 3 rfl rfl dL_law_243 ?_
      refine G.iconst (v := nI 1) dL_law_244 (by decide +kernel) ?_
      refine G.iadd dL_law_245 ?_
      refine G.topi (nI (ii + 1)) (nI_add ii 1) ?_
      refine G.sld hX hbl hbA (ii + 1) rfl (by omega) (by omega) dL_law_246 ?_
      refine G.aload_n 0 rfl rfl dL_law_247 ?_
      refine G.iload_n 3 rfl rfl dL_law_248 ?_
      refine G.iconst (v := nI 2) dL_law_249 (by decide +kernel) ?_
      refine G.iadd dL_law_250 ?_
      refine G.topi (nI (ii + 2)) (nI_add ii 2) ?_
      refine G.sld hX hbl hbA (ii + 2) rfl (by omega) (by omega) dL_law_251 ?_
      refine G.if_eq 259 dL_law_252 rfl (fun c252 => ?_) (fun c252 => ?_)
      · skip
        refine G.iconst (v := nI 0) dL_law_259 (by decide +kernel) ?_
        refine G.callV (n := 2) 132 (c_X8_late hM1 cw hN (xs (ii + 1)) (nI 0) (Or.inl rfl)) rfl (by omega) m1 rfl tb_704 tb_705 tb_706 tb_42 tb_707 (by decide +kernel) rfl ⟨(Nat.le_of_ble_eq_true rfl), (Nat.le_of_ble_eq_true rfl)⟩ ⟨rfl, rfl⟩ (Nat.le_of_ble_eq_true rfl) ⟨(Nat.le_of_ble_eq_true rfl), (Nat.le_of_ble_eq_true rfl)⟩ dL_law_260 (fun gr2 zw2 hp => ?_)
        obtain ⟨rfl, hM2, hf2⟩ := hp
        refine G.icmp_eq 932 dL_law_263 rfl (fun c263 => ?_) (fun c263 => ?_)
        · skip
          exact next _ _ _ _ _ _ _ _ _ (hC2.keep (fun j hj => hf2 j (Or.inl hj))) hM2
        · skip
          exact absurd rfl c263
      · skip
        exact absurd hb c252
    · skip
      exact absurd hb c230
  · skip
    refine G.aload_n 1 rfl rfl dL_law_219 ?_
    refine G.aload_n 0 rfl rfl dL_law_220 ?_
    refine G.iload_n 3 rfl rfl dL_law_221 ?_
    refine G.iconst (v := nI 1) dL_law_222 (by decide +kernel) ?_
    refine G.iadd dL_law_223 ?_
    refine G.topi (nI (ii + 1)) (nI_add ii 1) ?_
    refine G.sld hX hbl hbA (ii + 1) rfl (by omega) (by omega) dL_law_224 ?_
    refine G.aload_n 0 rfl rfl dL_law_225 ?_
    refine G.iload_n 3 rfl rfl dL_law_226 ?_
    refine G.iconst (v := nI 2) dL_law_227 (by decide +kernel) ?_
    refine G.iadd dL_law_228 ?_
    refine G.topi (nI (ii + 2)) (nI_add ii 2) ?_
    refine G.sld hX hbl hbA (ii + 2) rfl (by omega) (by omega) dL_law_229 ?_
    refine G.if_eq 237 dL_law_230 rfl (fun c230 => ?_) (fun c230 => ?_)
    · skip
      exact absurd c230 hb
    · skip
      refine G.iconst (v := nI 1) dL_law_233 (by decide +kernel) ?_
      refine G.goto 238 dL_law_234 rfl ?_
      refine G.callV (n := 2) 0 (c_X7_late hC (by omega) (xs (ii + 1)) (nI 1) (Or.inr rfl)) rfl (by omega) c0 rfl tb_256 tb_257 tb_258 tb_33 tb_259 (by decide +kernel) rfl ⟨(Nat.le_of_ble_eq_true rfl), (Nat.le_of_ble_eq_true rfl)⟩ ⟨rfl, rfl⟩ (Nat.le_of_ble_eq_true rfl) ⟨(Nat.le_of_ble_eq_true rfl), (Nat.le_of_ble_eq_true rfl)⟩ dL_law_238 (fun gr3 zw hp => ?_)
      obtain ⟨rfl, hC2, hf⟩ := hp
      have hM1 := hM.keep (fun j h _ => hf j h)
      have m1 := (hf 132 (by omega)).trans m0
      refine G.aload_n 2 rfl rfl dL_law_241 ?_
      refine G.aload_n 0 rfl rfl dL_law_242 ?_
      refine G.iload_n 3 rfl rfl dL_law_243 ?_
      refine G.iconst (v := nI 1) dL_law_244 (by decide +kernel) ?_
      refine G.iadd dL_law_245 ?_
      refine G.topi (nI (ii + 1)) (nI_add ii 1) ?_
      refine G.sld hX hbl hbA (ii + 1) rfl (by omega) (by omega) dL_law_246 ?_
      refine G.aload_n 0 rfl rfl dL_law_247 ?_
      refine G.iload_n 3 rfl rfl dL_law_248 ?_
      refine G.iconst (v := nI 2) dL_law_249 (by decide +kernel) ?_
      refine G.iadd dL_law_250 ?_
      refine G.topi (nI (ii + 2)) (nI_add ii 2) ?_
      refine G.sld hX hbl hbA (ii + 2) rfl (by omega) (by omega) dL_law_251 ?_
      refine G.if_eq 259 dL_law_252 rfl (fun c252 => ?_) (fun c252 => ?_)
      · skip
        exact absurd c252 hb
      · skip
        refine G.iconst (v := nI 1) dL_law_255 (by decide +kernel) ?_
        refine G.goto 260 dL_law_256 rfl ?_
        refine G.callV (n := 2) 132 (c_X8_late hM1 cw hN (xs (ii + 1)) (nI 1) (Or.inr rfl)) rfl (by omega) m1 rfl tb_704 tb_705 tb_706 tb_42 tb_707 (by decide +kernel) rfl ⟨(Nat.le_of_ble_eq_true rfl), (Nat.le_of_ble_eq_true rfl)⟩ ⟨rfl, rfl⟩ (Nat.le_of_ble_eq_true rfl) ⟨(Nat.le_of_ble_eq_true rfl), (Nat.le_of_ble_eq_true rfl)⟩ dL_law_260 (fun gr4 zw2 hp => ?_)
        obtain ⟨rfl, hM2, hf2⟩ := hp
        refine G.icmp_eq 932 dL_law_263 rfl (fun c263 => ?_) (fun c263 => ?_)
        · skip
          exact next _ _ _ _ _ _ _ _ _ (hC2.keep (fun j hj => hf2 j (Or.inl hj))) hM2
        · skip
          exact absurd rfl c263
set_option maxHeartbeats 1000000 in
theorem lb_item (hX : va_X b L xs (gs P) (gs P).heap) (hbl : b < (gs P).heap.size) (hbA : ¬ gA P b) (hL : L ≤ 3072) (hi : ii + 6 ≤ L) (hN : 153 ≤ N) (hC : isC t ad w A I O Td jd J fc df) (hM : isM t ad w A I O Td jd J fc df) (next : ∀ (w' : Nat → va_E) (A : List AR) (I : Nat → Int32) (O : List OD) (Td : Nat → List RW) (jd : Bool) (J : Nat → JR) (fc : Nat) (df : DF), isC t ad w' A I O Td jd J fc df → isM t ad w' A I O Td jd J fc df → G l t room_1 P cL_law 4 RL (some .boolean) post 600000 7302250 N ad 153 19069 932 [(0, .ref b), (1, .ref (ad 0)), (2, .ref (ad 132)), (3, .int (nI ii))] [] w') : G l t room_1 P cL_law 4 RL (some .boolean) post 600000 7302250 N ad 153 19069 268 [(0, .ref b), (1, .ref (ad 0)), (2, .ref (ad 132)), (3, .int (nI ii))] [] w := by
  obtain ⟨c0, cA, cT, cOA, cP, cC, cCR, cO, cw, cd⟩ := id hC
  obtain ⟨io, op, ot, ok, nw, fa, m0, -⟩ := id hM
  refine G.aload_n 1 rfl rfl dL_law_268 ?_
  refine G.aload_n 0 rfl rfl dL_law_269 ?_
  refine G.iload_n 3 rfl rfl dL_law_270 ?_
  refine G.iconst (v := nI 1) dL_law_271 (by decide +kernel) ?_
  refine G.iadd dL_law_272 ?_
  refine G.topi (nI (ii + 1)) (nI_add ii 1) ?_
  refine G.sld hX hbl hbA (ii + 1) rfl (by omega) (by omega) dL_law_273 ?_
  refine G.aload_n 0 rfl rfl dL_law_274 ?_
  refine G.iload_n 3 rfl rfl dL_law_275 ?_
  refine G.iconst (v := nI 2) dL_law_276 (by decide +kernel) ?_
  refine G.iadd dL_law_277 ?_
  refine G.topi (nI (ii + 2)) (nI_add ii 2) ?_
  refine G.sld hX hbl hbA (ii + 2) rfl (by omega) (by omega) dL_law_278 ?_
  refine G.callV (n := 2) 0 (c_X7_item hC (by omega) (xs (ii + 1)) (xs (ii + 2))) rfl (by omega) c0 rfl tb_264 tb_265 tb_266 tb_33 tb_267 (by decide +kernel) rfl ⟨(Nat.le_of_ble_eq_true rfl), (Nat.le_of_ble_eq_true rfl)⟩ ⟨rfl, rfl⟩ (Nat.le_of_ble_eq_true rfl) ⟨(Nat.le_of_ble_eq_true rfl), (Nat.le_of_ble_eq_true rfl)⟩ dL_law_279 (fun gr1 zw hp => ?_)
  obtain ⟨rfl, hC2, hf⟩ := hp
  have hM1 := hM.keep (fun j h _ => hf j h)
  have m1 := (hf 132 (by omega)).trans m0
  refine G.aload_n 2 rfl rfl dL_law_282 ?_
  refine G.aload_n 0 rfl rfl dL_law_283 ?_
  refine G.iload_n 3 rfl rfl dL_law_284 ?_
  refine G.iconst (v := nI 1) dL_law_285 (by decide +kernel) ?_
  refine G.iadd dL_law_286 ?_
  refine G.topi (nI (ii + 1)) (nI_add ii 1) ?_
  refine G.sld hX hbl hbA (ii + 1) rfl (by omega) (by omega) dL_law_287 ?_
  refine G.aload_n 0 rfl rfl dL_law_288 ?_
  refine G.iload_n 3 rfl rfl dL_law_289 ?_
  refine G.iconst (v := nI 2) dL_law_290 (by decide +kernel) ?_
  refine G.iadd dL_law_291 ?_
  refine G.topi (nI (ii + 2)) (nI_add ii 2) ?_
  refine G.sld hX hbl hbA (ii + 2) rfl (by omega) (by omega) dL_law_292 ?_
  refine G.callV (n := 2) 132 (c_X8_item hM1 cw hN (xs (ii + 1)) (xs (ii + 2))) rfl (by omega) m1 rfl tb_708 tb_709 tb_710 tb_42 tb_711 (by decide +kernel) rfl ⟨(Nat.le_of_ble_eq_true rfl), (Nat.le_of_ble_eq_true rfl)⟩ ⟨rfl, rfl⟩ (Nat.le_of_ble_eq_true rfl) ⟨(Nat.le_of_ble_eq_true rfl), (Nat.le_of_ble_eq_true rfl)⟩ dL_law_293 (fun gr2 zw2 hp => ?_)
  obtain ⟨rfl, hM2, hf2⟩ := hp
  refine G.icmp_eq 932 dL_law_296 rfl (fun c296 => ?_) (fun c296 => ?_)
  · skip
    exact next _ _ _ _ _ _ _ _ _ (hC2.keep (fun j hj => hf2 j (Or.inl hj))) hM2
  · skip
    exact absurd rfl c296
set_option maxHeartbeats 1000000 in
theorem lb_wipe (hX : va_X b L xs (gs P) (gs P).heap) (hbl : b < (gs P).heap.size) (hbA : ¬ gA P b) (hL : L ≤ 3072) (hi : ii + 6 ≤ L) (hN : 153 ≤ N) (hC : isC t ad w A I O Td jd J fc df) (hM : isM t ad w A I O Td jd J fc df) (next : ∀ (w' : Nat → va_E) (A : List AR) (I : Nat → Int32) (O : List OD) (Td : Nat → List RW) (jd : Bool) (J : Nat → JR) (fc : Nat) (df : DF), isC t ad w' A I O Td jd J fc df → isM t ad w' A I O Td jd J fc df → G l t room_1 P cL_law 4 RL (some .boolean) post 600000 7302250 N ad 153 19069 932 [(0, .ref b), (1, .ref (ad 0)), (2, .ref (ad 132)), (3, .int (nI ii))] [] w') : G l t room_1 P cL_law 4 RL (some .boolean) post 600000 7302250 N ad 153 19069 301 [(0, .ref b), (1, .ref (ad 0)), (2, .ref (ad 132)), (3, .int (nI ii))] [] w := by
  obtain ⟨c0, cA, cT, cOA, cP, cC, cCR, cO, cw, cd⟩ := id hC
  obtain ⟨io, op, ot, ok, nw, fa, m0, -⟩ := id hM
  refine G.aload_n 1 rfl rfl dL_law_301 ?_
  refine G.callV (n := 0) 0 (c_X7_wipe hC (by omega)) rfl (by omega) c0 rfl tb_272 tb_273 tb_274 tb_33 tb_275 (by decide +kernel) rfl ⟨(Nat.le_of_ble_eq_true rfl), (Nat.le_of_ble_eq_true rfl)⟩ ⟨rfl, rfl⟩ (Nat.le_of_ble_eq_true rfl) ⟨(Nat.le_of_ble_eq_true rfl), (Nat.le_of_ble_eq_true rfl)⟩ dL_law_302 (fun gr1 zw hp => ?_)
  obtain ⟨rfl, hC2, hf⟩ := hp
  have hM1 := hM.keep (fun j h _ => hf j h)
  have m1 := (hf 132 (by omega)).trans m0
  refine G.aload_n 2 rfl rfl dL_law_305 ?_
  refine G.callV (n := 0) 132 (c_X8_wipe hM1 cw hN) rfl (by omega) m1 rfl tb_712 tb_713 tb_714 tb_42 tb_715 (by decide +kernel) rfl ⟨(Nat.le_of_ble_eq_true rfl), (Nat.le_of_ble_eq_true rfl)⟩ ⟨rfl, rfl⟩ (Nat.le_of_ble_eq_true rfl) ⟨(Nat.le_of_ble_eq_true rfl), (Nat.le_of_ble_eq_true rfl)⟩ dL_law_306 (fun gr2 zw2 hp => ?_)
  obtain ⟨rfl, hM2, hf2⟩ := hp
  refine G.icmp_eq 932 dL_law_309 rfl (fun c309 => ?_) (fun c309 => ?_)
  · skip
    exact next _ _ _ _ _ _ _ _ _ (hC2.keep (fun j hj => hf2 j (Or.inl hj))) hM2
  · skip
    exact absurd rfl c309
set_option maxHeartbeats 1000000 in
theorem lb_read (hX : va_X b L xs (gs P) (gs P).heap) (hbl : b < (gs P).heap.size) (hbA : ¬ gA P b) (hL : L ≤ 3072) (hi : ii + 6 ≤ L) (hN : 153 ≤ N) (hC : isC t ad w A I O Td jd J fc df) (hM : isM t ad w A I O Td jd J fc df) (next : ∀ (w' : Nat → va_E) (A : List AR) (I : Nat → Int32) (O : List OD) (Td : Nat → List RW) (jd : Bool) (J : Nat → JR) (fc : Nat) (df : DF), isC t ad w' A I O Td jd J fc df → isM t ad w' A I O Td jd J fc df → G l t room_1 P cL_law 4 RL (some .boolean) post 600000 7302250 N ad 153 19069 932 [(0, .ref b), (1, .ref (ad 0)), (2, .ref (ad 132)), (3, .int (nI ii))] [] w') : G l t room_1 P cL_law 4 RL (some .boolean) post 600000 7302250 N ad 153 19069 314 [(0, .ref b), (1, .ref (ad 0)), (2, .ref (ad 132)), (3, .int (nI ii))] [] w := by
  obtain ⟨c0, cA, cT, cOA, cP, cC, cCR, cO, cw, cd⟩ := id hC
  obtain ⟨io, op, ot, ok, nw, fa, m0, -⟩ := id hM
  refine G.aload_n 1 rfl rfl dL_law_314 ?_
  refine G.aload_n 0 rfl rfl dL_law_315 ?_
  refine G.iload_n 3 rfl rfl dL_law_316 ?_
  refine G.iconst (v := nI 1) dL_law_317 (by decide +kernel) ?_
  refine G.iadd dL_law_318 ?_
  refine G.topi (nI (ii + 1)) (nI_add ii 1) ?_
  refine G.sld hX hbl hbA (ii + 1) rfl (by omega) (by omega) dL_law_319 ?_
  refine G.callV (n := 1) 0 (c_X7_read hC (by omega) (xs (ii + 1))) rfl (by omega) c0 rfl tb_280 tb_281 tb_282 tb_33 tb_283 (by decide +kernel) rfl ⟨(Nat.le_of_ble_eq_true rfl), (Nat.le_of_ble_eq_true rfl)⟩ ⟨rfl, rfl⟩ (Nat.le_of_ble_eq_true rfl) ⟨(Nat.le_of_ble_eq_true rfl), (Nat.le_of_ble_eq_true rfl)⟩ dL_law_320 (fun gr1 zw hp => ?_)
  obtain ⟨rfl, hC2, hf⟩ := hp
  have hM1 := hM.keep (fun j h _ => hf j h)
  have m1 := (hf 132 (by omega)).trans m0
  refine G.aload_n 2 rfl rfl dL_law_323 ?_
  refine G.aload_n 0 rfl rfl dL_law_324 ?_
  refine G.iload_n 3 rfl rfl dL_law_325 ?_
  refine G.iconst (v := nI 1) dL_law_326 (by decide +kernel) ?_
  refine G.iadd dL_law_327 ?_
  refine G.topi (nI (ii + 1)) (nI_add ii 1) ?_
  refine G.sld hX hbl hbA (ii + 1) rfl (by omega) (by omega) dL_law_328 ?_
  refine G.callV (n := 1) 132 (c_X8_read hM1 cw (fun h => cd _ (Nat.le_refl _) h) hN (xs (ii + 1))) rfl (by omega) m1 rfl tb_716 tb_717 tb_718 tb_42 tb_719 (by decide +kernel) rfl ⟨(Nat.le_of_ble_eq_true rfl), (Nat.le_of_ble_eq_true rfl)⟩ ⟨rfl, rfl⟩ (Nat.le_of_ble_eq_true rfl) ⟨(Nat.le_of_ble_eq_true rfl), (Nat.le_of_ble_eq_true rfl)⟩ dL_law_329 (fun gr2 zw2 hp => ?_)
  obtain ⟨rfl, hM2, hf2⟩ := hp
  refine G.icmp_eq 932 dL_law_332 rfl (fun c332 => ?_) (fun c332 => ?_)
  · skip
    exact next _ _ _ _ _ _ _ _ _ (hC2.keep (fun j hj => hf2 j (Or.inl hj))) hM2
  · skip
    exact absurd rfl c332
set_option maxHeartbeats 1000000 in
theorem lb_each (hX : va_X b L xs (gs P) (gs P).heap) (hbl : b < (gs P).heap.size) (hbA : ¬ gA P b) (hL : L ≤ 3072) (hi : ii + 6 ≤ L) (hN : 153 ≤ N) (hC : isC t ad w A I O Td jd J fc df) (hM : isM t ad w A I O Td jd J fc df) (next : ∀ (w' : Nat → va_E) (A : List AR) (I : Nat → Int32) (O : List OD) (Td : Nat → List RW) (jd : Bool) (J : Nat → JR) (fc : Nat) (df : DF), isC t ad w' A I O Td jd J fc df → isM t ad w' A I O Td jd J fc df → G l t room_1 P cL_law 4 RL (some .boolean) post 600000 7302250 N ad 153 19069 932 [(0, .ref b), (1, .ref (ad 0)), (2, .ref (ad 132)), (3, .int (nI ii))] [] w') : G l t room_1 P cL_law 4 RL (some .boolean) post 600000 7302250 N ad 153 19069 337 [(0, .ref b), (1, .ref (ad 0)), (2, .ref (ad 132)), (3, .int (nI ii))] [] w := by
  obtain ⟨c0, cA, cT, cOA, cP, cC, cCR, cO, cw, cd⟩ := id hC
  obtain ⟨io, op, ot, ok, nw, fa, m0, -⟩ := id hM
  refine G.aload_n 1 rfl rfl dL_law_337 ?_
  refine G.aload_n 0 rfl rfl dL_law_338 ?_
  refine G.iload_n 3 rfl rfl dL_law_339 ?_
  refine G.iconst (v := nI 1) dL_law_340 (by decide +kernel) ?_
  refine G.iadd dL_law_341 ?_
  refine G.topi (nI (ii + 1)) (nI_add ii 1) ?_
  refine G.sld hX hbl hbA (ii + 1) rfl (by omega) (by omega) dL_law_342 ?_
  refine G.aload_n 0 rfl rfl dL_law_343 ?_
  refine G.iload_n 3 rfl rfl dL_law_344 ?_
  refine G.iconst (v := nI 2) dL_law_345 (by decide +kernel) ?_
  refine G.iadd dL_law_346 ?_
  refine G.topi (nI (ii + 2)) (nI_add ii 2) ?_
  refine G.sld hX hbl hbA (ii + 2) rfl (by omega) (by omega) dL_law_347 ?_
  refine G.aload_n 0 rfl rfl dL_law_348 ?_
  refine G.iload_n 3 rfl rfl dL_law_349 ?_
  refine G.iconst (v := nI 3) dL_law_350 (by decide +kernel) ?_
  refine G.iadd dL_law_351 ?_
  refine G.topi (nI (ii + 3)) (nI_add ii 3) ?_
  refine G.sld hX hbl hbA (ii + 3) rfl (by omega) (by omega) dL_law_352 ?_
  refine G.aload_n 0 rfl rfl dL_law_353 ?_
  refine G.iload_n 3 rfl rfl dL_law_354 ?_
  refine G.iconst (v := nI 4) dL_law_355 (by decide +kernel) ?_
  refine G.iadd dL_law_356 ?_
  refine G.topi (nI (ii + 4)) (nI_add ii 4) ?_
  refine G.sld hX hbl hbA (ii + 4) rfl (by omega) (by omega) dL_law_357 ?_
  refine G.callV (n := 4) 0 (c_X7_each hC (by omega) (xs (ii + 1)) (xs (ii + 2)) (xs (ii + 3)) (xs (ii + 4))) rfl (by omega) c0 rfl tb_300 tb_301 tb_302 tb_33 tb_303 (by decide +kernel) rfl ⟨(Nat.le_of_ble_eq_true rfl), (Nat.le_of_ble_eq_true rfl)⟩ ⟨rfl, rfl⟩ (Nat.le_of_ble_eq_true rfl) ⟨(Nat.le_of_ble_eq_true rfl), (Nat.le_of_ble_eq_true rfl)⟩ dL_law_358 (fun gr1 zw hp => ?_)
  obtain ⟨rfl, hC2, hf⟩ := hp
  have hM1 := hM.keep (fun j h _ => hf j h)
  have m1 := (hf 132 (by omega)).trans m0
  refine G.aload_n 2 rfl rfl dL_law_361 ?_
  refine G.aload_n 0 rfl rfl dL_law_362 ?_
  refine G.iload_n 3 rfl rfl dL_law_363 ?_
  refine G.iconst (v := nI 1) dL_law_364 (by decide +kernel) ?_
  refine G.iadd dL_law_365 ?_
  refine G.topi (nI (ii + 1)) (nI_add ii 1) ?_
  refine G.sld hX hbl hbA (ii + 1) rfl (by omega) (by omega) dL_law_366 ?_
  refine G.aload_n 0 rfl rfl dL_law_367 ?_
  refine G.iload_n 3 rfl rfl dL_law_368 ?_
  refine G.iconst (v := nI 2) dL_law_369 (by decide +kernel) ?_
  refine G.iadd dL_law_370 ?_
  refine G.topi (nI (ii + 2)) (nI_add ii 2) ?_
  refine G.sld hX hbl hbA (ii + 2) rfl (by omega) (by omega) dL_law_371 ?_
  refine G.aload_n 0 rfl rfl dL_law_372 ?_
  refine G.iload_n 3 rfl rfl dL_law_373 ?_
  refine G.iconst (v := nI 3) dL_law_374 (by decide +kernel) ?_
  refine G.iadd dL_law_375 ?_
  refine G.topi (nI (ii + 3)) (nI_add ii 3) ?_
  refine G.sld hX hbl hbA (ii + 3) rfl (by omega) (by omega) dL_law_376 ?_
  refine G.aload_n 0 rfl rfl dL_law_377 ?_
  refine G.iload_n 3 rfl rfl dL_law_378 ?_
  refine G.iconst (v := nI 4) dL_law_379 (by decide +kernel) ?_
  refine G.iadd dL_law_380 ?_
  refine G.topi (nI (ii + 4)) (nI_add ii 4) ?_
  refine G.sld hX hbl hbA (ii + 4) rfl (by omega) (by omega) dL_law_381 ?_
  refine G.callV (n := 4) 132 (c_X8_each hM1 cw (fun h => cd _ (Nat.le_refl _) h) hN (xs (ii + 1)) (xs (ii + 2)) (xs (ii + 3)) (xs (ii + 4))) rfl (by omega) m1 rfl tb_724 tb_725 tb_726 tb_42 tb_727 (by decide +kernel) rfl ⟨(Nat.le_of_ble_eq_true rfl), (Nat.le_of_ble_eq_true rfl)⟩ ⟨rfl, rfl⟩ (Nat.le_of_ble_eq_true rfl) ⟨(Nat.le_of_ble_eq_true rfl), (Nat.le_of_ble_eq_true rfl)⟩ dL_law_382 (fun gr2 zw2 hp => ?_)
  obtain ⟨rfl, hM2, hf2⟩ := hp
  refine G.icmp_eq 932 dL_law_385 rfl (fun c385 => ?_) (fun c385 => ?_)
  · skip
    exact next _ _ _ _ _ _ _ _ _ (hC2.keep (fun j hj => hf2 j (Or.inl hj))) hM2
  · skip
    exact absurd rfl c385
set_option maxHeartbeats 1000000 in
theorem lb_spans (hX : va_X b L xs (gs P) (gs P).heap) (hbl : b < (gs P).heap.size) (hbA : ¬ gA P b) (hL : L ≤ 3072) (hi : ii + 6 ≤ L) (hN : 153 ≤ N) (hC : isC t ad w A I O Td jd J fc df) (hM : isM t ad w A I O Td jd J fc df) (next : ∀ (w' : Nat → va_E) (A : List AR) (I : Nat → Int32) (O : List OD) (Td : Nat → List RW) (jd : Bool) (J : Nat → JR) (fc : Nat) (df : DF), isC t ad w' A I O Td jd J fc df → isM t ad w' A I O Td jd J fc df → G l t room_1 P cL_law 4 RL (some .boolean) post 600000 7302250 N ad 153 19069 932 [(0, .ref b), (1, .ref (ad 0)), (2, .ref (ad 132)), (3, .int (nI ii))] [] w') : G l t room_1 P cL_law 4 RL (some .boolean) post 600000 7302250 N ad 153 19069 390 [(0, .ref b), (1, .ref (ad 0)), (2, .ref (ad 132)), (3, .int (nI ii))] [] w := by
  obtain ⟨c0, cA, cT, cOA, cP, cC, cCR, cO, cw, cd⟩ := id hC
  obtain ⟨io, op, ot, ok, nw, fa, m0, -⟩ := id hM
  refine G.aload_n 1 rfl rfl dL_law_390 ?_
  refine G.aload_n 0 rfl rfl dL_law_391 ?_
  refine G.iload_n 3 rfl rfl dL_law_392 ?_
  refine G.iconst (v := nI 1) dL_law_393 (by decide +kernel) ?_
  refine G.iadd dL_law_394 ?_
  refine G.topi (nI (ii + 1)) (nI_add ii 1) ?_
  refine G.sld hX hbl hbA (ii + 1) rfl (by omega) (by omega) dL_law_395 ?_
  refine G.aload_n 0 rfl rfl dL_law_396 ?_
  refine G.iload_n 3 rfl rfl dL_law_397 ?_
  refine G.iconst (v := nI 2) dL_law_398 (by decide +kernel) ?_
  refine G.iadd dL_law_399 ?_
  refine G.topi (nI (ii + 2)) (nI_add ii 2) ?_
  refine G.sld hX hbl hbA (ii + 2) rfl (by omega) (by omega) dL_law_400 ?_
  refine G.aload_n 0 rfl rfl dL_law_401 ?_
  refine G.iload_n 3 rfl rfl dL_law_402 ?_
  refine G.iconst (v := nI 3) dL_law_403 (by decide +kernel) ?_
  refine G.iadd dL_law_404 ?_
  refine G.topi (nI (ii + 3)) (nI_add ii 3) ?_
  refine G.sld hX hbl hbA (ii + 3) rfl (by omega) (by omega) dL_law_405 ?_
  refine G.callV (n := 3) 0 (c_X7_spans hC (by omega) (xs (ii + 1)) (xs (ii + 2)) (xs (ii + 3))) rfl (by omega) c0 rfl tb_312 tb_313 tb_314 tb_33 tb_315 (by decide +kernel) rfl ⟨(Nat.le_of_ble_eq_true rfl), (Nat.le_of_ble_eq_true rfl)⟩ ⟨rfl, rfl⟩ (Nat.le_of_ble_eq_true rfl) ⟨(Nat.le_of_ble_eq_true rfl), (Nat.le_of_ble_eq_true rfl)⟩ dL_law_406 (fun gr1 zw hp => ?_)
  obtain ⟨rfl, hC2, hf⟩ := hp
  have hM1 := hM.keep (fun j h _ => hf j h)
  have m1 := (hf 132 (by omega)).trans m0
  refine G.aload_n 2 rfl rfl dL_law_409 ?_
  refine G.aload_n 0 rfl rfl dL_law_410 ?_
  refine G.iload_n 3 rfl rfl dL_law_411 ?_
  refine G.iconst (v := nI 1) dL_law_412 (by decide +kernel) ?_
  refine G.iadd dL_law_413 ?_
  refine G.topi (nI (ii + 1)) (nI_add ii 1) ?_
  refine G.sld hX hbl hbA (ii + 1) rfl (by omega) (by omega) dL_law_414 ?_
  refine G.aload_n 0 rfl rfl dL_law_415 ?_
  refine G.iload_n 3 rfl rfl dL_law_416 ?_
  refine G.iconst (v := nI 2) dL_law_417 (by decide +kernel) ?_
  refine G.iadd dL_law_418 ?_
  refine G.topi (nI (ii + 2)) (nI_add ii 2) ?_
  refine G.sld hX hbl hbA (ii + 2) rfl (by omega) (by omega) dL_law_419 ?_
  refine G.aload_n 0 rfl rfl dL_law_420 ?_
  refine G.iload_n 3 rfl rfl dL_law_421 ?_
  refine G.iconst (v := nI 3) dL_law_422 (by decide +kernel) ?_
  refine G.iadd dL_law_423 ?_
  refine G.topi (nI (ii + 3)) (nI_add ii 3) ?_
  refine G.sld hX hbl hbA (ii + 3) rfl (by omega) (by omega) dL_law_424 ?_
  refine G.callV (n := 3) 132 (c_X8_spans hM1 cw (fun h => cd _ (Nat.le_refl _) h) hN (xs (ii + 1)) (xs (ii + 2)) (xs (ii + 3))) rfl (by omega) m1 rfl tb_732 tb_733 tb_734 tb_42 tb_735 (by decide +kernel) rfl ⟨(Nat.le_of_ble_eq_true rfl), (Nat.le_of_ble_eq_true rfl)⟩ ⟨rfl, rfl⟩ (Nat.le_of_ble_eq_true rfl) ⟨(Nat.le_of_ble_eq_true rfl), (Nat.le_of_ble_eq_true rfl)⟩ dL_law_425 (fun gr2 zw2 hp => ?_)
  obtain ⟨rfl, hM2, hf2⟩ := hp
  refine G.icmp_eq 932 dL_law_428 rfl (fun c428 => ?_) (fun c428 => ?_)
  · skip
    exact next _ _ _ _ _ _ _ _ _ (hC2.keep (fun j hj => hf2 j (Or.inl hj))) hM2
  · skip
    exact absurd rfl c428
set_option maxHeartbeats 1000000 in
theorem lb_join (hX : va_X b L xs (gs P) (gs P).heap) (hbl : b < (gs P).heap.size) (hbA : ¬ gA P b) (hL : L ≤ 3072) (hi : ii + 6 ≤ L) (hN : 153 ≤ N) (hC : isC t ad w A I O Td jd J fc df) (hM : isM t ad w A I O Td jd J fc df) (next : ∀ (w' : Nat → va_E) (A : List AR) (I : Nat → Int32) (O : List OD) (Td : Nat → List RW) (jd : Bool) (J : Nat → JR) (fc : Nat) (df : DF), isC t ad w' A I O Td jd J fc df → isM t ad w' A I O Td jd J fc df → G l t room_1 P cL_law 4 RL (some .boolean) post 600000 7302250 N ad 153 19069 932 [(0, .ref b), (1, .ref (ad 0)), (2, .ref (ad 132)), (3, .int (nI ii))] [] w') : G l t room_1 P cL_law 4 RL (some .boolean) post 600000 7302250 N ad 153 19069 433 [(0, .ref b), (1, .ref (ad 0)), (2, .ref (ad 132)), (3, .int (nI ii))] [] w := by
  obtain ⟨c0, cA, cT, cOA, cP, cC, cCR, cO, cw, cd⟩ := id hC
  obtain ⟨io, op, ot, ok, nw, fa, m0, -⟩ := id hM
  refine G.aload_n 1 rfl rfl dL_law_433 ?_
  refine G.aload_n 0 rfl rfl dL_law_434 ?_
  refine G.iload_n 3 rfl rfl dL_law_435 ?_
  refine G.iconst (v := nI 1) dL_law_436 (by decide +kernel) ?_
  refine G.iadd dL_law_437 ?_
  refine G.topi (nI (ii + 1)) (nI_add ii 1) ?_
  refine G.sld hX hbl hbA (ii + 1) rfl (by omega) (by omega) dL_law_438 ?_
  refine G.aload_n 0 rfl rfl dL_law_439 ?_
  refine G.iload_n 3 rfl rfl dL_law_440 ?_
  refine G.iconst (v := nI 2) dL_law_441 (by decide +kernel) ?_
  refine G.iadd dL_law_442 ?_
  refine G.topi (nI (ii + 2)) (nI_add ii 2) ?_
  refine G.sld hX hbl hbA (ii + 2) rfl (by omega) (by omega) dL_law_443 ?_
  refine G.aload_n 0 rfl rfl dL_law_444 ?_
  refine G.iload_n 3 rfl rfl dL_law_445 ?_
  refine G.iconst (v := nI 3) dL_law_446 (by decide +kernel) ?_
  refine G.iadd dL_law_447 ?_
  refine G.topi (nI (ii + 3)) (nI_add ii 3) ?_
  refine G.sld hX hbl hbA (ii + 3) rfl (by omega) (by omega) dL_law_448 ?_
  refine G.callV (n := 3) 0 (c_X7_join hC (by omega) (xs (ii + 1)) (xs (ii + 2)) (xs (ii + 3))) rfl (by omega) c0 rfl tb_316 tb_317 tb_318 tb_33 tb_319 (by decide +kernel) rfl ⟨(Nat.le_of_ble_eq_true rfl), (Nat.le_of_ble_eq_true rfl)⟩ ⟨rfl, rfl⟩ (Nat.le_of_ble_eq_true rfl) ⟨(Nat.le_of_ble_eq_true rfl), (Nat.le_of_ble_eq_true rfl)⟩ dL_law_449 (fun gr1 zw hp => ?_)
  obtain ⟨rfl, hC2, hf⟩ := hp
  have hM1 := hM.keep (fun j h _ => hf j h)
  have m1 := (hf 132 (by omega)).trans m0
  refine G.aload_n 2 rfl rfl dL_law_452 ?_
  refine G.aload_n 0 rfl rfl dL_law_453 ?_
  refine G.iload_n 3 rfl rfl dL_law_454 ?_
  refine G.iconst (v := nI 1) dL_law_455 (by decide +kernel) ?_
  refine G.iadd dL_law_456 ?_
  refine G.topi (nI (ii + 1)) (nI_add ii 1) ?_
  refine G.sld hX hbl hbA (ii + 1) rfl (by omega) (by omega) dL_law_457 ?_
  refine G.aload_n 0 rfl rfl dL_law_458 ?_
  refine G.iload_n 3 rfl rfl dL_law_459 ?_
  refine G.iconst (v := nI 2) dL_law_460 (by decide +kernel) ?_
  refine G.iadd dL_law_461 ?_
  refine G.topi (nI (ii + 2)) (nI_add ii 2) ?_
  refine G.sld hX hbl hbA (ii + 2) rfl (by omega) (by omega) dL_law_462 ?_
  refine G.aload_n 0 rfl rfl dL_law_463 ?_
  refine G.iload_n 3 rfl rfl dL_law_464 ?_
  refine G.iconst (v := nI 3) dL_law_465 (by decide +kernel) ?_
  refine G.iadd dL_law_466 ?_
  refine G.topi (nI (ii + 3)) (nI_add ii 3) ?_
  refine G.sld hX hbl hbA (ii + 3) rfl (by omega) (by omega) dL_law_467 ?_
  refine G.callV (n := 3) 132 (c_X8_join hM1 cw (fun h => cd _ (Nat.le_refl _) h) hN (xs (ii + 1)) (xs (ii + 2)) (xs (ii + 3))) rfl (by omega) m1 rfl tb_736 tb_737 tb_738 tb_42 tb_739 (by decide +kernel) rfl ⟨(Nat.le_of_ble_eq_true rfl), (Nat.le_of_ble_eq_true rfl)⟩ ⟨rfl, rfl⟩ (Nat.le_of_ble_eq_true rfl) ⟨(Nat.le_of_ble_eq_true rfl), (Nat.le_of_ble_eq_true rfl)⟩ dL_law_468 (fun gr2 zw2 hp => ?_)
  obtain ⟨rfl, hM2, hf2⟩ := hp
  refine G.icmp_eq 932 dL_law_471 rfl (fun c471 => ?_) (fun c471 => ?_)
  · skip
    exact next _ _ _ _ _ _ _ _ _ (hC2.keep (fun j hj => hf2 j (Or.inl hj))) hM2
  · skip
    exact absurd rfl c471
set_option maxHeartbeats 1000000 in
theorem lb_meet (hX : va_X b L xs (gs P) (gs P).heap) (hbl : b < (gs P).heap.size) (hbA : ¬ gA P b) (hL : L ≤ 3072) (hi : ii + 6 ≤ L) (hN : 153 ≤ N) (hC : isC t ad w A I O Td jd J fc df) (hM : isM t ad w A I O Td jd J fc df) (next : ∀ (w' : Nat → va_E) (A : List AR) (I : Nat → Int32) (O : List OD) (Td : Nat → List RW) (jd : Bool) (J : Nat → JR) (fc : Nat) (df : DF), isC t ad w' A I O Td jd J fc df → isM t ad w' A I O Td jd J fc df → G l t room_1 P cL_law 4 RL (some .boolean) post 600000 7302250 N ad 153 19069 932 [(0, .ref b), (1, .ref (ad 0)), (2, .ref (ad 132)), (3, .int (nI ii))] [] w') : G l t room_1 P cL_law 4 RL (some .boolean) post 600000 7302250 N ad 153 19069 476 [(0, .ref b), (1, .ref (ad 0)), (2, .ref (ad 132)), (3, .int (nI ii))] [] w := by
  obtain ⟨c0, cA, cT, cOA, cP, cC, cCR, cO, cw, cd⟩ := id hC
  obtain ⟨io, op, ot, ok, nw, fa, m0, -⟩ := id hM
  refine G.aload_n 1 rfl rfl dL_law_476 ?_
  refine G.aload_n 0 rfl rfl dL_law_477 ?_
  refine G.iload_n 3 rfl rfl dL_law_478 ?_
  refine G.iconst (v := nI 1) dL_law_479 (by decide +kernel) ?_
  refine G.iadd dL_law_480 ?_
  refine G.topi (nI (ii + 1)) (nI_add ii 1) ?_
  refine G.sld hX hbl hbA (ii + 1) rfl (by omega) (by omega) dL_law_481 ?_
  refine G.aload_n 0 rfl rfl dL_law_482 ?_
  refine G.iload_n 3 rfl rfl dL_law_483 ?_
  refine G.iconst (v := nI 2) dL_law_484 (by decide +kernel) ?_
  refine G.iadd dL_law_485 ?_
  refine G.topi (nI (ii + 2)) (nI_add ii 2) ?_
  refine G.sld hX hbl hbA (ii + 2) rfl (by omega) (by omega) dL_law_486 ?_
  refine G.callV (n := 2) 0 (c_X7_meet hC (by omega) (xs (ii + 1)) (xs (ii + 2))) rfl (by omega) c0 rfl tb_320 tb_321 tb_322 tb_33 tb_323 (by decide +kernel) rfl ⟨(Nat.le_of_ble_eq_true rfl), (Nat.le_of_ble_eq_true rfl)⟩ ⟨rfl, rfl⟩ (Nat.le_of_ble_eq_true rfl) ⟨(Nat.le_of_ble_eq_true rfl), (Nat.le_of_ble_eq_true rfl)⟩ dL_law_487 (fun gr1 zw hp => ?_)
  obtain ⟨rfl, hC2, hf⟩ := hp
  have hM1 := hM.keep (fun j h _ => hf j h)
  have m1 := (hf 132 (by omega)).trans m0
  refine G.aload_n 2 rfl rfl dL_law_490 ?_
  refine G.aload_n 0 rfl rfl dL_law_491 ?_
  refine G.iload_n 3 rfl rfl dL_law_492 ?_
  refine G.iconst (v := nI 1) dL_law_493 (by decide +kernel) ?_
  refine G.iadd dL_law_494 ?_
  refine G.topi (nI (ii + 1)) (nI_add ii 1) ?_
  refine G.sld hX hbl hbA (ii + 1) rfl (by omega) (by omega) dL_law_495 ?_
  refine G.aload_n 0 rfl rfl dL_law_496 ?_
  refine G.iload_n 3 rfl rfl dL_law_497 ?_
  refine G.iconst (v := nI 2) dL_law_498 (by decide +kernel) ?_
  refine G.iadd dL_law_499 ?_
  refine G.topi (nI (ii + 2)) (nI_add ii 2) ?_
  refine G.sld hX hbl hbA (ii + 2) rfl (by omega) (by omega) dL_law_500 ?_
  refine G.callV (n := 2) 132 (c_X8_meet hM1 cw (fun h => cd _ (Nat.le_refl _) h) hN (xs (ii + 1)) (xs (ii + 2))) rfl (by omega) m1 rfl tb_740 tb_741 tb_742 tb_42 tb_743 (by decide +kernel) rfl ⟨(Nat.le_of_ble_eq_true rfl), (Nat.le_of_ble_eq_true rfl)⟩ ⟨rfl, rfl⟩ (Nat.le_of_ble_eq_true rfl) ⟨(Nat.le_of_ble_eq_true rfl), (Nat.le_of_ble_eq_true rfl)⟩ dL_law_501 (fun gr2 zw2 hp => ?_)
  obtain ⟨rfl, hM2, hf2⟩ := hp
  refine G.icmp_eq 932 dL_law_504 rfl (fun c504 => ?_) (fun c504 => ?_)
  · skip
    exact next _ _ _ _ _ _ _ _ _ (hC2.keep (fun j hj => hf2 j (Or.inl hj))) hM2
  · skip
    exact absurd rfl c504
set_option maxHeartbeats 1000000 in
theorem lb_falls (hX : va_X b L xs (gs P) (gs P).heap) (hbl : b < (gs P).heap.size) (hbA : ¬ gA P b) (hL : L ≤ 3072) (hi : ii + 6 ≤ L) (hN : 153 ≤ N) (hC : isC t ad w A I O Td jd J fc df) (hM : isM t ad w A I O Td jd J fc df) (next : ∀ (w' : Nat → va_E) (A : List AR) (I : Nat → Int32) (O : List OD) (Td : Nat → List RW) (jd : Bool) (J : Nat → JR) (fc : Nat) (df : DF), isC t ad w' A I O Td jd J fc df → isM t ad w' A I O Td jd J fc df → G l t room_1 P cL_law 4 RL (some .boolean) post 600000 7302250 N ad 153 19069 932 [(0, .ref b), (1, .ref (ad 0)), (2, .ref (ad 132)), (3, .int (nI ii))] [] w') : G l t room_1 P cL_law 4 RL (some .boolean) post 600000 7302250 N ad 153 19069 509 [(0, .ref b), (1, .ref (ad 0)), (2, .ref (ad 132)), (3, .int (nI ii))] [] w := by
  obtain ⟨c0, cA, cT, cOA, cP, cC, cCR, cO, cw, cd⟩ := id hC
  obtain ⟨io, op, ot, ok, nw, fa, m0, -⟩ := id hM
  refine G.aload_n 1 rfl rfl dL_law_509 ?_
  refine G.aload_n 0 rfl rfl dL_law_510 ?_
  refine G.iload_n 3 rfl rfl dL_law_511 ?_
  refine G.iconst (v := nI 1) dL_law_512 (by decide +kernel) ?_
  refine G.iadd dL_law_513 ?_
  refine G.topi (nI (ii + 1)) (nI_add ii 1) ?_
  refine G.sld hX hbl hbA (ii + 1) rfl (by omega) (by omega) dL_law_514 ?_
  refine G.aload_n 0 rfl rfl dL_law_515 ?_
  refine G.iload_n 3 rfl rfl dL_law_516 ?_
  refine G.iconst (v := nI 2) dL_law_517 (by decide +kernel) ?_
  refine G.iadd dL_law_518 ?_
  refine G.topi (nI (ii + 2)) (nI_add ii 2) ?_
  refine G.sld hX hbl hbA (ii + 2) rfl (by omega) (by omega) dL_law_519 ?_
  refine G.callV (n := 2) 0 (c_X7_falls hC (by omega) (xs (ii + 1)) (xs (ii + 2))) rfl (by omega) c0 rfl tb_324 tb_325 tb_326 tb_33 tb_327 (by decide +kernel) rfl ⟨(Nat.le_of_ble_eq_true rfl), (Nat.le_of_ble_eq_true rfl)⟩ ⟨rfl, rfl⟩ (Nat.le_of_ble_eq_true rfl) ⟨(Nat.le_of_ble_eq_true rfl), (Nat.le_of_ble_eq_true rfl)⟩ dL_law_520 (fun gr1 zw hp => ?_)
  obtain ⟨rfl, hC2, hf⟩ := hp
  have hM1 := hM.keep (fun j h _ => hf j h)
  have m1 := (hf 132 (by omega)).trans m0
  refine G.aload_n 2 rfl rfl dL_law_523 ?_
  refine G.aload_n 0 rfl rfl dL_law_524 ?_
  refine G.iload_n 3 rfl rfl dL_law_525 ?_
  refine G.iconst (v := nI 1) dL_law_526 (by decide +kernel) ?_
  refine G.iadd dL_law_527 ?_
  refine G.topi (nI (ii + 1)) (nI_add ii 1) ?_
  refine G.sld hX hbl hbA (ii + 1) rfl (by omega) (by omega) dL_law_528 ?_
  refine G.aload_n 0 rfl rfl dL_law_529 ?_
  refine G.iload_n 3 rfl rfl dL_law_530 ?_
  refine G.iconst (v := nI 2) dL_law_531 (by decide +kernel) ?_
  refine G.iadd dL_law_532 ?_
  refine G.topi (nI (ii + 2)) (nI_add ii 2) ?_
  refine G.sld hX hbl hbA (ii + 2) rfl (by omega) (by omega) dL_law_533 ?_
  refine G.callV (n := 2) 132 (c_X8_falls hM1 cw (fun h => cd _ (Nat.le_refl _) h) hN (xs (ii + 1)) (xs (ii + 2))) rfl (by omega) m1 rfl tb_744 tb_745 tb_746 tb_42 tb_747 (by decide +kernel) rfl ⟨(Nat.le_of_ble_eq_true rfl), (Nat.le_of_ble_eq_true rfl)⟩ ⟨rfl, rfl⟩ (Nat.le_of_ble_eq_true rfl) ⟨(Nat.le_of_ble_eq_true rfl), (Nat.le_of_ble_eq_true rfl)⟩ dL_law_534 (fun gr2 zw2 hp => ?_)
  obtain ⟨rfl, hM2, hf2⟩ := hp
  refine G.icmp_eq 932 dL_law_537 rfl (fun c537 => ?_) (fun c537 => ?_)
  · skip
    exact next _ _ _ _ _ _ _ _ _ (hC2.keep (fun j hj => hf2 j (Or.inl hj))) hM2
  · skip
    exact absurd rfl c537
set_option maxHeartbeats 1000000 in
theorem lb_first (hX : va_X b L xs (gs P) (gs P).heap) (hbl : b < (gs P).heap.size) (hbA : ¬ gA P b) (hL : L ≤ 3072) (hi : ii + 6 ≤ L) (hN : 153 ≤ N) (hC : isC t ad w A I O Td jd J fc df) (hM : isM t ad w A I O Td jd J fc df) (next : ∀ (w' : Nat → va_E) (A : List AR) (I : Nat → Int32) (O : List OD) (Td : Nat → List RW) (jd : Bool) (J : Nat → JR) (fc : Nat) (df : DF), isC t ad w' A I O Td jd J fc df → isM t ad w' A I O Td jd J fc df → G l t room_1 P cL_law 4 RL (some .boolean) post 600000 7302250 N ad 153 19069 932 [(0, .ref b), (1, .ref (ad 0)), (2, .ref (ad 132)), (3, .int (nI ii))] [] w') : G l t room_1 P cL_law 4 RL (some .boolean) post 600000 7302250 N ad 153 19069 542 [(0, .ref b), (1, .ref (ad 0)), (2, .ref (ad 132)), (3, .int (nI ii))] [] w := by
  obtain ⟨c0, cA, cT, cOA, cP, cC, cCR, cO, cw, cd⟩ := id hC
  obtain ⟨io, op, ot, ok, nw, fa, m0, -⟩ := id hM
  refine G.aload_n 1 rfl rfl dL_law_542 ?_
  refine G.aload_n 0 rfl rfl dL_law_543 ?_
  refine G.iload_n 3 rfl rfl dL_law_544 ?_
  refine G.iconst (v := nI 1) dL_law_545 (by decide +kernel) ?_
  refine G.iadd dL_law_546 ?_
  refine G.topi (nI (ii + 1)) (nI_add ii 1) ?_
  refine G.sld hX hbl hbA (ii + 1) rfl (by omega) (by omega) dL_law_547 ?_
  refine G.aload_n 0 rfl rfl dL_law_548 ?_
  refine G.iload_n 3 rfl rfl dL_law_549 ?_
  refine G.iconst (v := nI 2) dL_law_550 (by decide +kernel) ?_
  refine G.iadd dL_law_551 ?_
  refine G.topi (nI (ii + 2)) (nI_add ii 2) ?_
  refine G.sld hX hbl hbA (ii + 2) rfl (by omega) (by omega) dL_law_552 ?_
  refine G.callV (n := 2) 0 (c_X7_first hC (by omega) (xs (ii + 1)) (xs (ii + 2))) rfl (by omega) c0 rfl tb_328 tb_329 tb_330 tb_33 tb_331 (by decide +kernel) rfl ⟨(Nat.le_of_ble_eq_true rfl), (Nat.le_of_ble_eq_true rfl)⟩ ⟨rfl, rfl⟩ (Nat.le_of_ble_eq_true rfl) ⟨(Nat.le_of_ble_eq_true rfl), (Nat.le_of_ble_eq_true rfl)⟩ dL_law_553 (fun gr1 zw hp => ?_)
  obtain ⟨rfl, hC2, hf⟩ := hp
  have hM1 := hM.keep (fun j h _ => hf j h)
  have m1 := (hf 132 (by omega)).trans m0
  refine G.aload_n 2 rfl rfl dL_law_556 ?_
  refine G.aload_n 0 rfl rfl dL_law_557 ?_
  refine G.iload_n 3 rfl rfl dL_law_558 ?_
  refine G.iconst (v := nI 1) dL_law_559 (by decide +kernel) ?_
  refine G.iadd dL_law_560 ?_
  refine G.topi (nI (ii + 1)) (nI_add ii 1) ?_
  refine G.sld hX hbl hbA (ii + 1) rfl (by omega) (by omega) dL_law_561 ?_
  refine G.aload_n 0 rfl rfl dL_law_562 ?_
  refine G.iload_n 3 rfl rfl dL_law_563 ?_
  refine G.iconst (v := nI 2) dL_law_564 (by decide +kernel) ?_
  refine G.iadd dL_law_565 ?_
  refine G.topi (nI (ii + 2)) (nI_add ii 2) ?_
  refine G.sld hX hbl hbA (ii + 2) rfl (by omega) (by omega) dL_law_566 ?_
  refine G.callV (n := 2) 132 (c_X8_first hM1 cw (fun h => cd _ (Nat.le_refl _) h) hN (xs (ii + 1)) (xs (ii + 2))) rfl (by omega) m1 rfl tb_748 tb_749 tb_750 tb_42 tb_751 (by decide +kernel) rfl ⟨(Nat.le_of_ble_eq_true rfl), (Nat.le_of_ble_eq_true rfl)⟩ ⟨rfl, rfl⟩ (Nat.le_of_ble_eq_true rfl) ⟨(Nat.le_of_ble_eq_true rfl), (Nat.le_of_ble_eq_true rfl)⟩ dL_law_567 (fun gr2 zw2 hp => ?_)
  obtain ⟨rfl, hM2, hf2⟩ := hp
  refine G.icmp_eq 932 dL_law_570 rfl (fun c570 => ?_) (fun c570 => ?_)
  · skip
    exact next _ _ _ _ _ _ _ _ _ (hC2.keep (fun j hj => hf2 j (Or.inl hj))) hM2
  · skip
    exact absurd rfl c570
set_option maxHeartbeats 1000000 in
theorem lb_drop (hX : va_X b L xs (gs P) (gs P).heap) (hbl : b < (gs P).heap.size) (hbA : ¬ gA P b) (hL : L ≤ 3072) (hi : ii + 6 ≤ L) (hN : 153 ≤ N) (hC : isC t ad w A I O Td jd J fc df) (hM : isM t ad w A I O Td jd J fc df) (next : ∀ (w' : Nat → va_E) (A : List AR) (I : Nat → Int32) (O : List OD) (Td : Nat → List RW) (jd : Bool) (J : Nat → JR) (fc : Nat) (df : DF), isC t ad w' A I O Td jd J fc df → isM t ad w' A I O Td jd J fc df → G l t room_1 P cL_law 4 RL (some .boolean) post 600000 7302250 N ad 153 19069 932 [(0, .ref b), (1, .ref (ad 0)), (2, .ref (ad 132)), (3, .int (nI ii))] [] w') : G l t room_1 P cL_law 4 RL (some .boolean) post 600000 7302250 N ad 153 19069 575 [(0, .ref b), (1, .ref (ad 0)), (2, .ref (ad 132)), (3, .int (nI ii))] [] w := by
  obtain ⟨c0, cA, cT, cOA, cP, cC, cCR, cO, cw, cd⟩ := id hC
  obtain ⟨io, op, ot, ok, nw, fa, m0, -⟩ := id hM
  refine G.aload_n 1 rfl rfl dL_law_575 ?_
  refine G.callV (n := 0) 0 (c_X7_drop hC (by omega)) rfl (by omega) c0 rfl tb_332 tb_333 tb_334 tb_33 tb_335 (by decide +kernel) rfl ⟨(Nat.le_of_ble_eq_true rfl), (Nat.le_of_ble_eq_true rfl)⟩ ⟨rfl, rfl⟩ (Nat.le_of_ble_eq_true rfl) ⟨(Nat.le_of_ble_eq_true rfl), (Nat.le_of_ble_eq_true rfl)⟩ dL_law_576 (fun gr1 zw hp => ?_)
  obtain ⟨rfl, hC2, hf⟩ := hp
  have hM1 := hM.keep (fun j h _ => hf j h)
  have m1 := (hf 132 (by omega)).trans m0
  refine G.aload_n 2 rfl rfl dL_law_579 ?_
  refine G.callV (n := 0) 132 (c_X8_drop hM1 cw hN) rfl (by omega) m1 rfl tb_752 tb_753 tb_754 tb_42 tb_755 (by decide +kernel) rfl ⟨(Nat.le_of_ble_eq_true rfl), (Nat.le_of_ble_eq_true rfl)⟩ ⟨rfl, rfl⟩ (Nat.le_of_ble_eq_true rfl) ⟨(Nat.le_of_ble_eq_true rfl), (Nat.le_of_ble_eq_true rfl)⟩ dL_law_580 (fun gr2 zw2 hp => ?_)
  obtain ⟨rfl, hM2, hf2⟩ := hp
  refine G.icmp_eq 932 dL_law_583 rfl (fun c583 => ?_) (fun c583 => ?_)
  · skip
    exact next _ _ _ _ _ _ _ _ _ (hC2.keep (fun j hj => hf2 j (Or.inl hj))) hM2
  · skip
    exact absurd rfl c583
set_option maxHeartbeats 1000000 in
theorem lb_judge (hX : va_X b L xs (gs P) (gs P).heap) (hbl : b < (gs P).heap.size) (hbA : ¬ gA P b) (hL : L ≤ 3072) (hi : ii + 6 ≤ L) (hN : 153 ≤ N) (hC : isC t ad w A I O Td jd J fc df) (hM : isM t ad w A I O Td jd J fc df) (next : ∀ (w' : Nat → va_E) (A : List AR) (I : Nat → Int32) (O : List OD) (Td : Nat → List RW) (jd : Bool) (J : Nat → JR) (fc : Nat) (df : DF), isC t ad w' A I O Td jd J fc df → isM t ad w' A I O Td jd J fc df → G l t room_1 P cL_law 4 RL (some .boolean) post 600000 7302250 N ad 153 19069 932 [(0, .ref b), (1, .ref (ad 0)), (2, .ref (ad 132)), (3, .int (nI ii))] [] w') : G l t room_1 P cL_law 4 RL (some .boolean) post 600000 7302250 N ad 153 19069 588 [(0, .ref b), (1, .ref (ad 0)), (2, .ref (ad 132)), (3, .int (nI ii))] [] w := by
  obtain ⟨c0, cA, cT, cOA, cP, cC, cCR, cO, cw, cd⟩ := id hC
  obtain ⟨io, op, ot, ok, nw, fa, m0, -⟩ := id hM
  refine G.aload_n 1 rfl rfl dL_law_588 ?_
  refine G.callV (n := 0) 0 (c_X7_judge hC (by omega)) rfl (by omega) c0 rfl tb_340 tb_341 tb_342 tb_33 tb_343 (by decide +kernel) rfl ⟨(Nat.le_of_ble_eq_true rfl), (Nat.le_of_ble_eq_true rfl)⟩ ⟨rfl, rfl⟩ (Nat.le_of_ble_eq_true rfl) ⟨(Nat.le_of_ble_eq_true rfl), (Nat.le_of_ble_eq_true rfl)⟩ dL_law_589 (fun gr1 zw hp => ?_)
  obtain ⟨hj1, hj2, hj3, hf⟩ := hp
  have hM1 := hM.keep (fun j h _ => hf j h)
  have m1 := (hf 132 (by omega)).trans m0
  by_cases hO : O.length = 0
  · skip
    obtain ⟨rfl, hC2⟩ := hj1 hO
    refine G.aload_n 2 rfl rfl dL_law_592 ?_
    refine G.callV (n := 0) 132 (c_X8_judge hM1 cw hN) rfl (by omega) m1 rfl tb_756 tb_757 tb_758 tb_42 tb_759 (by decide +kernel) rfl ⟨(Nat.le_of_ble_eq_true rfl), (Nat.le_of_ble_eq_true rfl)⟩ ⟨rfl, rfl⟩ (Nat.le_of_ble_eq_true rfl) ⟨(Nat.le_of_ble_eq_true rfl), (Nat.le_of_ble_eq_true rfl)⟩ dL_law_593 (fun gr2 zw2 hp => ?_)
    obtain ⟨hk1, hk2, hk3, hf2⟩ := hp
    obtain ⟨rfl, hM2⟩ := hk1 hO
    refine G.icmp_eq 932 dL_law_596 rfl (fun c596 => ?_) (fun c596 => ?_)
    · skip
      exact next _ _ _ _ _ _ _ _ _ (hC2.keep (fun j hj => hf2 j (Or.inl hj))) hM2
    · skip
      exact absurd rfl c596
  · skip
    by_cases hF : fc < 3000
    · skip
      obtain ⟨rfl, hC2⟩ := hj3 hO hF
      refine G.aload_n 2 rfl rfl dL_law_592 ?_
      refine G.callV (n := 0) 132 (c_X8_judge hM1 cw hN) rfl (by omega) m1 rfl tb_756 tb_757 tb_758 tb_42 tb_759 (by decide +kernel) rfl ⟨(Nat.le_of_ble_eq_true rfl), (Nat.le_of_ble_eq_true rfl)⟩ ⟨rfl, rfl⟩ (Nat.le_of_ble_eq_true rfl) ⟨(Nat.le_of_ble_eq_true rfl), (Nat.le_of_ble_eq_true rfl)⟩ dL_law_593 (fun gr3 zw2 hp => ?_)
      obtain ⟨hk1, hk2, hk3, hf2⟩ := hp
      obtain ⟨rfl, hM2⟩ := hk3 hO hF
      refine G.icmp_eq 932 dL_law_596 rfl (fun c596 => ?_) (fun c596 => ?_)
      · skip
        exact next _ _ _ _ _ _ _ _ _ (hC2.keep (fun j hj => hf2 j (Or.inl hj))) hM2
      · skip
        exact absurd rfl c596
    · skip
      obtain ⟨rfl, hC2⟩ := hj2 hO (by omega)
      refine G.aload_n 2 rfl rfl dL_law_592 ?_
      refine G.callV (n := 0) 132 (c_X8_judge hM1 cw hN) rfl (by omega) m1 rfl tb_756 tb_757 tb_758 tb_42 tb_759 (by decide +kernel) rfl ⟨(Nat.le_of_ble_eq_true rfl), (Nat.le_of_ble_eq_true rfl)⟩ ⟨rfl, rfl⟩ (Nat.le_of_ble_eq_true rfl) ⟨(Nat.le_of_ble_eq_true rfl), (Nat.le_of_ble_eq_true rfl)⟩ dL_law_593 (fun gr4 zw2 hp => ?_)
      obtain ⟨hk1, hk2, hk3, hf2⟩ := hp
      obtain ⟨rfl, hM2⟩ := hk2 hO (by omega)
      refine G.icmp_eq 932 dL_law_596 rfl (fun c596 => ?_) (fun c596 => ?_)
      · skip
        exact next _ _ _ _ _ _ _ _ _ (hC2.keep (fun j hj => hf2 j (Or.inl hj))) hM2
      · skip
        exact absurd rfl c596
set_option maxHeartbeats 1000000 in
theorem lb_rows (hX : va_X b L xs (gs P) (gs P).heap) (hbl : b < (gs P).heap.size) (hbA : ¬ gA P b) (hL : L ≤ 3072) (hi : ii + 6 ≤ L) (hN : 153 ≤ N) (hC : isC t ad w A I O Td jd J fc df) (hM : isM t ad w A I O Td jd J fc df) (next : ∀ (w' : Nat → va_E) (A : List AR) (I : Nat → Int32) (O : List OD) (Td : Nat → List RW) (jd : Bool) (J : Nat → JR) (fc : Nat) (df : DF), isC t ad w' A I O Td jd J fc df → isM t ad w' A I O Td jd J fc df → G l t room_1 P cL_law 4 RL (some .boolean) post 600000 7302250 N ad 153 19069 932 [(0, .ref b), (1, .ref (ad 0)), (2, .ref (ad 132)), (3, .int (nI ii))] [] w') : G l t room_1 P cL_law 4 RL (some .boolean) post 600000 7302250 N ad 153 19069 601 [(0, .ref b), (1, .ref (ad 0)), (2, .ref (ad 132)), (3, .int (nI ii))] [] w := by
  obtain ⟨c0, cA, cT, cOA, cP, cC, cCR, cO, cw, cd⟩ := id hC
  obtain ⟨io, op, ot, ok, nw, fa, m0, -⟩ := id hM
  refine G.aload_n 1 rfl rfl dL_law_601 ?_
  refine G.aload_n 0 rfl rfl dL_law_602 ?_
  refine G.iload_n 3 rfl rfl dL_law_603 ?_
  refine G.iconst (v := nI 1) dL_law_604 (by decide +kernel) ?_
  refine G.iadd dL_law_605 ?_
  refine G.topi (nI (ii + 1)) (nI_add ii 1) ?_
  refine G.sld hX hbl hbA (ii + 1) rfl (by omega) (by omega) dL_law_606 ?_
  refine G.callV (n := 1) 0 (c_X7_rows hC (by omega) (xs (ii + 1))) rfl (by omega) c0 rfl tb_484 tb_485 tb_486 tb_33 tb_487 (by decide +kernel) rfl ⟨(Nat.le_of_ble_eq_true rfl), (Nat.le_of_ble_eq_true rfl)⟩ ⟨rfl, rfl⟩ (Nat.le_of_ble_eq_true rfl) ⟨(Nat.le_of_ble_eq_true rfl), (Nat.le_of_ble_eq_true rfl)⟩ dL_law_607 (fun gr2 gw1 hp => ?_)
  obtain ⟨rfl, rfl⟩ := hp
  refine G.aload_n 2 rfl rfl dL_law_610 ?_
  refine G.aload_n 0 rfl rfl dL_law_611 ?_
  refine G.iload_n 3 rfl rfl dL_law_612 ?_
  refine G.iconst (v := nI 1) dL_law_613 (by decide +kernel) ?_
  refine G.iadd dL_law_614 ?_
  refine G.topi (nI (ii + 1)) (nI_add ii 1) ?_
  refine G.sld hX hbl hbA (ii + 1) rfl (by omega) (by omega) dL_law_615 ?_
  refine G.callV (n := 1) 132 (c_X8_rows hM cw hN (xs (ii + 1))) rfl (by omega) m0 rfl tb_807 tb_808 tb_809 tb_42 tb_810 (by decide +kernel) rfl ⟨(Nat.le_of_ble_eq_true rfl), (Nat.le_of_ble_eq_true rfl)⟩ ⟨rfl, rfl⟩ (Nat.le_of_ble_eq_true rfl) ⟨(Nat.le_of_ble_eq_true rfl), (Nat.le_of_ble_eq_true rfl)⟩ dL_law_616 (fun gr4 gw3 hp => ?_)
  obtain ⟨rfl, rfl⟩ := hp
  refine G.icmp_eq 932 dL_law_619 rfl (fun c619 => ?_) (fun c619 => ?_)
  · skip
    exact next _ _ _ _ _ _ _ _ _ hC hM
  · skip
    exact absurd rfl c619
set_option maxHeartbeats 1000000 in
theorem lb_told (hX : va_X b L xs (gs P) (gs P).heap) (hbl : b < (gs P).heap.size) (hbA : ¬ gA P b) (hL : L ≤ 3072) (hi : ii + 6 ≤ L) (hN : 153 ≤ N) (hC : isC t ad w A I O Td jd J fc df) (hM : isM t ad w A I O Td jd J fc df) (next : ∀ (w' : Nat → va_E) (A : List AR) (I : Nat → Int32) (O : List OD) (Td : Nat → List RW) (jd : Bool) (J : Nat → JR) (fc : Nat) (df : DF), isC t ad w' A I O Td jd J fc df → isM t ad w' A I O Td jd J fc df → G l t room_1 P cL_law 4 RL (some .boolean) post 600000 7302250 N ad 153 19069 932 [(0, .ref b), (1, .ref (ad 0)), (2, .ref (ad 132)), (3, .int (nI ii))] [] w') : G l t room_1 P cL_law 4 RL (some .boolean) post 600000 7302250 N ad 153 19069 624 [(0, .ref b), (1, .ref (ad 0)), (2, .ref (ad 132)), (3, .int (nI ii))] [] w := by
  obtain ⟨c0, cA, cT, cOA, cP, cC, cCR, cO, cw, cd⟩ := id hC
  obtain ⟨io, op, ot, ok, nw, fa, m0, -⟩ := id hM
  refine G.aload_n 1 rfl rfl dL_law_624 ?_
  refine G.aload_n 0 rfl rfl dL_law_625 ?_
  refine G.iload_n 3 rfl rfl dL_law_626 ?_
  refine G.iconst (v := nI 1) dL_law_627 (by decide +kernel) ?_
  refine G.iadd dL_law_628 ?_
  refine G.topi (nI (ii + 1)) (nI_add ii 1) ?_
  refine G.sld hX hbl hbA (ii + 1) rfl (by omega) (by omega) dL_law_629 ?_
  refine G.aload_n 0 rfl rfl dL_law_630 ?_
  refine G.iload_n 3 rfl rfl dL_law_631 ?_
  refine G.iconst (v := nI 2) dL_law_632 (by decide +kernel) ?_
  refine G.iadd dL_law_633 ?_
  refine G.topi (nI (ii + 2)) (nI_add ii 2) ?_
  refine G.sld hX hbl hbA (ii + 2) rfl (by omega) (by omega) dL_law_634 ?_
  refine G.aload_n 0 rfl rfl dL_law_635 ?_
  refine G.iload_n 3 rfl rfl dL_law_636 ?_
  refine G.iconst (v := nI 3) dL_law_637 (by decide +kernel) ?_
  refine G.iadd dL_law_638 ?_
  refine G.topi (nI (ii + 3)) (nI_add ii 3) ?_
  refine G.sld hX hbl hbA (ii + 3) rfl (by omega) (by omega) dL_law_639 ?_
  refine G.callV (n := 3) 0 (c_X7_told hC (by omega) (xs (ii + 1)) (xs (ii + 2)) (xs (ii + 3))) rfl (by omega) c0 rfl tb_493 tb_494 tb_495 tb_33 tb_496 (by decide +kernel) rfl ⟨(Nat.le_of_ble_eq_true rfl), (Nat.le_of_ble_eq_true rfl)⟩ ⟨rfl, rfl⟩ (Nat.le_of_ble_eq_true rfl) ⟨(Nat.le_of_ble_eq_true rfl), (Nat.le_of_ble_eq_true rfl)⟩ dL_law_640 (fun gr2 gw1 hp => ?_)
  obtain ⟨rfl, rfl⟩ := hp
  refine G.aload_n 2 rfl rfl dL_law_643 ?_
  refine G.aload_n 0 rfl rfl dL_law_644 ?_
  refine G.iload_n 3 rfl rfl dL_law_645 ?_
  refine G.iconst (v := nI 1) dL_law_646 (by decide +kernel) ?_
  refine G.iadd dL_law_647 ?_
  refine G.topi (nI (ii + 1)) (nI_add ii 1) ?_
  refine G.sld hX hbl hbA (ii + 1) rfl (by omega) (by omega) dL_law_648 ?_
  refine G.aload_n 0 rfl rfl dL_law_649 ?_
  refine G.iload_n 3 rfl rfl dL_law_650 ?_
  refine G.iconst (v := nI 2) dL_law_651 (by decide +kernel) ?_
  refine G.iadd dL_law_652 ?_
  refine G.topi (nI (ii + 2)) (nI_add ii 2) ?_
  refine G.sld hX hbl hbA (ii + 2) rfl (by omega) (by omega) dL_law_653 ?_
  refine G.aload_n 0 rfl rfl dL_law_654 ?_
  refine G.iload_n 3 rfl rfl dL_law_655 ?_
  refine G.iconst (v := nI 3) dL_law_656 (by decide +kernel) ?_
  refine G.iadd dL_law_657 ?_
  refine G.topi (nI (ii + 3)) (nI_add ii 3) ?_
  refine G.sld hX hbl hbA (ii + 3) rfl (by omega) (by omega) dL_law_658 ?_
  refine G.callV (n := 3) 132 (c_X8_told hM cw hN (xs (ii + 1)) (xs (ii + 2)) (xs (ii + 3))) rfl (by omega) m0 rfl tb_811 tb_812 tb_813 tb_42 tb_814 (by decide +kernel) rfl ⟨(Nat.le_of_ble_eq_true rfl), (Nat.le_of_ble_eq_true rfl)⟩ ⟨rfl, rfl⟩ (Nat.le_of_ble_eq_true rfl) ⟨(Nat.le_of_ble_eq_true rfl), (Nat.le_of_ble_eq_true rfl)⟩ dL_law_659 (fun gr4 gw3 hp => ?_)
  obtain ⟨rfl, rfl⟩ := hp
  refine G.icmp_eq 932 dL_law_662 rfl (fun c662 => ?_) (fun c662 => ?_)
  · skip
    exact next _ _ _ _ _ _ _ _ _ hC hM
  · skip
    exact absurd rfl c662
set_option maxHeartbeats 1000000 in
theorem lb_value (hX : va_X b L xs (gs P) (gs P).heap) (hbl : b < (gs P).heap.size) (hbA : ¬ gA P b) (hL : L ≤ 3072) (hi : ii + 6 ≤ L) (hN : 153 ≤ N) (hC : isC t ad w A I O Td jd J fc df) (hM : isM t ad w A I O Td jd J fc df) (next : ∀ (w' : Nat → va_E) (A : List AR) (I : Nat → Int32) (O : List OD) (Td : Nat → List RW) (jd : Bool) (J : Nat → JR) (fc : Nat) (df : DF), isC t ad w' A I O Td jd J fc df → isM t ad w' A I O Td jd J fc df → G l t room_1 P cL_law 4 RL (some .boolean) post 600000 7302250 N ad 153 19069 932 [(0, .ref b), (1, .ref (ad 0)), (2, .ref (ad 132)), (3, .int (nI ii))] [] w') : G l t room_1 P cL_law 4 RL (some .boolean) post 600000 7302250 N ad 153 19069 667 [(0, .ref b), (1, .ref (ad 0)), (2, .ref (ad 132)), (3, .int (nI ii))] [] w := by
  obtain ⟨c0, cA, cT, cOA, cP, cC, cCR, cO, cw, cd⟩ := id hC
  obtain ⟨io, op, ot, ok, nw, fa, m0, -⟩ := id hM
  refine G.aload_n 1 rfl rfl dL_law_667 ?_
  refine G.aload_n 0 rfl rfl dL_law_668 ?_
  refine G.iload_n 3 rfl rfl dL_law_669 ?_
  refine G.iconst (v := nI 1) dL_law_670 (by decide +kernel) ?_
  refine G.iadd dL_law_671 ?_
  refine G.topi (nI (ii + 1)) (nI_add ii 1) ?_
  refine G.sld hX hbl hbA (ii + 1) rfl (by omega) (by omega) dL_law_672 ?_
  refine G.aload_n 0 rfl rfl dL_law_673 ?_
  refine G.iload_n 3 rfl rfl dL_law_674 ?_
  refine G.iconst (v := nI 2) dL_law_675 (by decide +kernel) ?_
  refine G.iadd dL_law_676 ?_
  refine G.topi (nI (ii + 2)) (nI_add ii 2) ?_
  refine G.sld hX hbl hbA (ii + 2) rfl (by omega) (by omega) dL_law_677 ?_
  refine G.callV (n := 2) 0 (c_X7_value hC (by omega) (xs (ii + 1)) (xs (ii + 2))) rfl (by omega) c0 rfl tb_499 tb_500 tb_501 tb_33 tb_502 (by decide +kernel) rfl ⟨(Nat.le_of_ble_eq_true rfl), (Nat.le_of_ble_eq_true rfl)⟩ ⟨rfl, rfl⟩ (Nat.le_of_ble_eq_true rfl) ⟨(Nat.le_of_ble_eq_true rfl), (Nat.le_of_ble_eq_true rfl)⟩ dL_law_678 (fun gr2 gw1 hp => ?_)
  obtain ⟨rfl, rfl⟩ := hp
  refine G.aload_n 2 rfl rfl dL_law_681 ?_
  refine G.aload_n 0 rfl rfl dL_law_682 ?_
  refine G.iload_n 3 rfl rfl dL_law_683 ?_
  refine G.iconst (v := nI 1) dL_law_684 (by decide +kernel) ?_
  refine G.iadd dL_law_685 ?_
  refine G.topi (nI (ii + 1)) (nI_add ii 1) ?_
  refine G.sld hX hbl hbA (ii + 1) rfl (by omega) (by omega) dL_law_686 ?_
  refine G.aload_n 0 rfl rfl dL_law_687 ?_
  refine G.iload_n 3 rfl rfl dL_law_688 ?_
  refine G.iconst (v := nI 2) dL_law_689 (by decide +kernel) ?_
  refine G.iadd dL_law_690 ?_
  refine G.topi (nI (ii + 2)) (nI_add ii 2) ?_
  refine G.sld hX hbl hbA (ii + 2) rfl (by omega) (by omega) dL_law_691 ?_
  refine G.callV (n := 2) 132 (c_X8_value hM cw hN (xs (ii + 1)) (xs (ii + 2))) rfl (by omega) m0 rfl tb_815 tb_816 tb_817 tb_42 tb_818 (by decide +kernel) rfl ⟨(Nat.le_of_ble_eq_true rfl), (Nat.le_of_ble_eq_true rfl)⟩ ⟨rfl, rfl⟩ (Nat.le_of_ble_eq_true rfl) ⟨(Nat.le_of_ble_eq_true rfl), (Nat.le_of_ble_eq_true rfl)⟩ dL_law_692 (fun gr4 gw3 hp => ?_)
  obtain ⟨rfl, rfl⟩ := hp
  refine G.lcmp dL_law_695 ?_
  refine G.if_eq 932 dL_law_696 rfl (fun c696 => ?_) (fun c696 => ?_)
  · skip
    exact next _ _ _ _ _ _ _ _ _ hC hM
  · skip
    exact absurd (lgc_eq.mpr rfl) c696
set_option maxHeartbeats 1000000 in
theorem lb_fails (hX : va_X b L xs (gs P) (gs P).heap) (hbl : b < (gs P).heap.size) (hbA : ¬ gA P b) (hL : L ≤ 3072) (hi : ii + 6 ≤ L) (hN : 153 ≤ N) (hC : isC t ad w A I O Td jd J fc df) (hM : isM t ad w A I O Td jd J fc df) (next : ∀ (w' : Nat → va_E) (A : List AR) (I : Nat → Int32) (O : List OD) (Td : Nat → List RW) (jd : Bool) (J : Nat → JR) (fc : Nat) (df : DF), isC t ad w' A I O Td jd J fc df → isM t ad w' A I O Td jd J fc df → G l t room_1 P cL_law 4 RL (some .boolean) post 600000 7302250 N ad 153 19069 932 [(0, .ref b), (1, .ref (ad 0)), (2, .ref (ad 132)), (3, .int (nI ii))] [] w') : G l t room_1 P cL_law 4 RL (some .boolean) post 600000 7302250 N ad 153 19069 701 [(0, .ref b), (1, .ref (ad 0)), (2, .ref (ad 132)), (3, .int (nI ii))] [] w := by
  obtain ⟨c0, cA, cT, cOA, cP, cC, cCR, cO, cw, cd⟩ := id hC
  obtain ⟨io, op, ot, ok, nw, fa, m0, -⟩ := id hM
  refine G.aload_n 1 rfl rfl dL_law_701 ?_
  refine G.aload_n 0 rfl rfl dL_law_702 ?_
  refine G.iload_n 3 rfl rfl dL_law_703 ?_
  refine G.iconst (v := nI 1) dL_law_704 (by decide +kernel) ?_
  refine G.iadd dL_law_705 ?_
  refine G.topi (nI (ii + 1)) (nI_add ii 1) ?_
  refine G.sld hX hbl hbA (ii + 1) rfl (by omega) (by omega) dL_law_706 ?_
  refine G.aload_n 0 rfl rfl dL_law_707 ?_
  refine G.iload_n 3 rfl rfl dL_law_708 ?_
  refine G.iconst (v := nI 2) dL_law_709 (by decide +kernel) ?_
  refine G.iadd dL_law_710 ?_
  refine G.topi (nI (ii + 2)) (nI_add ii 2) ?_
  refine G.sld hX hbl hbA (ii + 2) rfl (by omega) (by omega) dL_law_711 ?_
  refine G.callV (n := 2) 0 (c_X7_fails hC (by omega) (xs (ii + 1)) (xs (ii + 2))) rfl (by omega) c0 rfl tb_504 tb_505 tb_506 tb_33 tb_507 (by decide +kernel) rfl ⟨(Nat.le_of_ble_eq_true rfl), (Nat.le_of_ble_eq_true rfl)⟩ ⟨rfl, rfl⟩ (Nat.le_of_ble_eq_true rfl) ⟨(Nat.le_of_ble_eq_true rfl), (Nat.le_of_ble_eq_true rfl)⟩ dL_law_712 (fun gr2 gw1 hp => ?_)
  obtain ⟨rfl, rfl⟩ := hp
  refine G.aload_n 2 rfl rfl dL_law_715 ?_
  refine G.aload_n 0 rfl rfl dL_law_716 ?_
  refine G.iload_n 3 rfl rfl dL_law_717 ?_
  refine G.iconst (v := nI 1) dL_law_718 (by decide +kernel) ?_
  refine G.iadd dL_law_719 ?_
  refine G.topi (nI (ii + 1)) (nI_add ii 1) ?_
  refine G.sld hX hbl hbA (ii + 1) rfl (by omega) (by omega) dL_law_720 ?_
  refine G.aload_n 0 rfl rfl dL_law_721 ?_
  refine G.iload_n 3 rfl rfl dL_law_722 ?_
  refine G.iconst (v := nI 2) dL_law_723 (by decide +kernel) ?_
  refine G.iadd dL_law_724 ?_
  refine G.topi (nI (ii + 2)) (nI_add ii 2) ?_
  refine G.sld hX hbl hbA (ii + 2) rfl (by omega) (by omega) dL_law_725 ?_
  refine G.callV (n := 2) 132 (c_X8_fails hM cw hN (xs (ii + 1)) (xs (ii + 2))) rfl (by omega) m0 rfl tb_819 tb_820 tb_821 tb_42 tb_822 (by decide +kernel) rfl ⟨(Nat.le_of_ble_eq_true rfl), (Nat.le_of_ble_eq_true rfl)⟩ ⟨rfl, rfl⟩ (Nat.le_of_ble_eq_true rfl) ⟨(Nat.le_of_ble_eq_true rfl), (Nat.le_of_ble_eq_true rfl)⟩ dL_law_726 (fun gr4 gw3 hp => ?_)
  obtain ⟨rfl, rfl⟩ := hp
  refine G.icmp_eq 932 dL_law_729 rfl (fun c729 => ?_) (fun c729 => ?_)
  · skip
    exact next _ _ _ _ _ _ _ _ _ hC hM
  · skip
    exact absurd rfl c729
set_option maxHeartbeats 1000000 in
theorem lb_tell (hX : va_X b L xs (gs P) (gs P).heap) (hbl : b < (gs P).heap.size) (hbA : ¬ gA P b) (hL : L ≤ 3072) (hi : ii + 6 ≤ L) (hN : 153 ≤ N) (hC : isC t ad w A I O Td jd J fc df) (hM : isM t ad w A I O Td jd J fc df) (next : ∀ (w' : Nat → va_E) (A : List AR) (I : Nat → Int32) (O : List OD) (Td : Nat → List RW) (jd : Bool) (J : Nat → JR) (fc : Nat) (df : DF), isC t ad w' A I O Td jd J fc df → isM t ad w' A I O Td jd J fc df → G l t room_1 P cL_law 4 RL (some .boolean) post 600000 7302250 N ad 153 19069 932 [(0, .ref b), (1, .ref (ad 0)), (2, .ref (ad 132)), (3, .int (nI ii))] [] w') : G l t room_1 P cL_law 4 RL (some .boolean) post 600000 7302250 N ad 153 19069 734 [(0, .ref b), (1, .ref (ad 0)), (2, .ref (ad 132)), (3, .int (nI ii))] [] w := by
  obtain ⟨c0, cA, cT, cOA, cP, cC, cCR, cO, cw, cd⟩ := id hC
  obtain ⟨io, op, ot, ok, nw, fa, m0, -⟩ := id hM
  refine G.aload_n 1 rfl rfl dL_law_734 ?_
  refine G.aload_n 0 rfl rfl dL_law_735 ?_
  refine G.iload_n 3 rfl rfl dL_law_736 ?_
  refine G.iconst (v := nI 1) dL_law_737 (by decide +kernel) ?_
  refine G.iadd dL_law_738 ?_
  refine G.topi (nI (ii + 1)) (nI_add ii 1) ?_
  refine G.sld hX hbl hbA (ii + 1) rfl (by omega) (by omega) dL_law_739 ?_
  refine G.aload_n 0 rfl rfl dL_law_740 ?_
  refine G.iload_n 3 rfl rfl dL_law_741 ?_
  refine G.iconst (v := nI 2) dL_law_742 (by decide +kernel) ?_
  refine G.iadd dL_law_743 ?_
  refine G.topi (nI (ii + 2)) (nI_add ii 2) ?_
  refine G.sld hX hbl hbA (ii + 2) rfl (by omega) (by omega) dL_law_744 ?_
  refine G.aload_n 0 rfl rfl dL_law_745 ?_
  refine G.iload_n 3 rfl rfl dL_law_746 ?_
  refine G.iconst (v := nI 3) dL_law_747 (by decide +kernel) ?_
  refine G.iadd dL_law_748 ?_
  refine G.topi (nI (ii + 3)) (nI_add ii 3) ?_
  refine G.sld hX hbl hbA (ii + 3) rfl (by omega) (by omega) dL_law_749 ?_
  refine G.aload_n 0 rfl rfl dL_law_750 ?_
  refine G.iload_n 3 rfl rfl dL_law_751 ?_
  refine G.iconst (v := nI 4) dL_law_752 (by decide +kernel) ?_
  refine G.iadd dL_law_753 ?_
  refine G.topi (nI (ii + 4)) (nI_add ii 4) ?_
  refine G.sld hX hbl hbA (ii + 4) rfl (by omega) (by omega) dL_law_754 ?_
  refine G.i2l dL_law_755 ?_
  refine G.bipush (v := nI 32) dL_law_756 (by decide +kernel) ?_
  refine G.lshl dL_law_758 ?_
  refine G.aload_n 0 rfl rfl dL_law_759 ?_
  refine G.iload_n 3 rfl rfl dL_law_760 ?_
  refine G.iconst (v := nI 5) dL_law_761 (by decide +kernel) ?_
  refine G.iadd dL_law_762 ?_
  refine G.topi (nI (ii + 5)) (nI_add ii 5) ?_
  refine G.sld hX hbl hbA (ii + 5) rfl (by omega) (by omega) dL_law_763 ?_
  refine G.i2l dL_law_764 ?_
  refine G.ldc2_w dL_law_765 tb_867 ?_
  refine G.land dL_law_768 ?_
  refine G.lor dL_law_769 ?_
  refine G.callV (n := 4) 0 (c_X7_tell hC (by omega) (xs (ii + 1)) (xs (ii + 2)) (xs (ii + 3)) (tv (xs (ii + 4)) (xs (ii + 5)))) rfl (by omega) c0 rfl tb_508 tb_509 tb_510 tb_33 tb_511 (by decide +kernel) rfl ⟨(Nat.le_of_ble_eq_true rfl), (Nat.le_of_ble_eq_true rfl)⟩ ⟨rfl, rfl⟩ (Nat.le_of_ble_eq_true rfl) ⟨(Nat.le_of_ble_eq_true rfl), (Nat.le_of_ble_eq_true rfl)⟩ dL_law_770 (fun gr1 zw hp => ?_)
  obtain ⟨rfl, hC2, hf⟩ := hp
  have hM1 := hM.keep (fun j h _ => hf j h)
  have m1 := (hf 132 (by omega)).trans m0
  refine G.aload_n 2 rfl rfl dL_law_773 ?_
  refine G.aload_n 0 rfl rfl dL_law_774 ?_
  refine G.iload_n 3 rfl rfl dL_law_775 ?_
  refine G.iconst (v := nI 1) dL_law_776 (by decide +kernel) ?_
  refine G.iadd dL_law_777 ?_
  refine G.topi (nI (ii + 1)) (nI_add ii 1) ?_
  refine G.sld hX hbl hbA (ii + 1) rfl (by omega) (by omega) dL_law_778 ?_
  refine G.aload_n 0 rfl rfl dL_law_779 ?_
  refine G.iload_n 3 rfl rfl dL_law_780 ?_
  refine G.iconst (v := nI 2) dL_law_781 (by decide +kernel) ?_
  refine G.iadd dL_law_782 ?_
  refine G.topi (nI (ii + 2)) (nI_add ii 2) ?_
  refine G.sld hX hbl hbA (ii + 2) rfl (by omega) (by omega) dL_law_783 ?_
  refine G.aload_n 0 rfl rfl dL_law_784 ?_
  refine G.iload_n 3 rfl rfl dL_law_785 ?_
  refine G.iconst (v := nI 3) dL_law_786 (by decide +kernel) ?_
  refine G.iadd dL_law_787 ?_
  refine G.topi (nI (ii + 3)) (nI_add ii 3) ?_
  refine G.sld hX hbl hbA (ii + 3) rfl (by omega) (by omega) dL_law_788 ?_
  refine G.aload_n 0 rfl rfl dL_law_789 ?_
  refine G.iload_n 3 rfl rfl dL_law_790 ?_
  refine G.iconst (v := nI 4) dL_law_791 (by decide +kernel) ?_
  refine G.iadd dL_law_792 ?_
  refine G.topi (nI (ii + 4)) (nI_add ii 4) ?_
  refine G.sld hX hbl hbA (ii + 4) rfl (by omega) (by omega) dL_law_793 ?_
  refine G.i2l dL_law_794 ?_
  refine G.bipush (v := nI 32) dL_law_795 (by decide +kernel) ?_
  refine G.lshl dL_law_797 ?_
  refine G.aload_n 0 rfl rfl dL_law_798 ?_
  refine G.iload_n 3 rfl rfl dL_law_799 ?_
  refine G.iconst (v := nI 5) dL_law_800 (by decide +kernel) ?_
  refine G.iadd dL_law_801 ?_
  refine G.topi (nI (ii + 5)) (nI_add ii 5) ?_
  refine G.sld hX hbl hbA (ii + 5) rfl (by omega) (by omega) dL_law_802 ?_
  refine G.i2l dL_law_803 ?_
  refine G.ldc2_w dL_law_804 tb_867 ?_
  refine G.land dL_law_807 ?_
  refine G.lor dL_law_808 ?_
  refine G.callV (n := 4) 132 (c_X8_tell hM1 cw hN (xs (ii + 1)) (xs (ii + 2)) (xs (ii + 3)) (tv (xs (ii + 4)) (xs (ii + 5)))) rfl (by omega) m1 rfl tb_823 tb_824 tb_825 tb_42 tb_826 (by decide +kernel) rfl ⟨(Nat.le_of_ble_eq_true rfl), (Nat.le_of_ble_eq_true rfl)⟩ ⟨rfl, rfl⟩ (Nat.le_of_ble_eq_true rfl) ⟨(Nat.le_of_ble_eq_true rfl), (Nat.le_of_ble_eq_true rfl)⟩ dL_law_809 (fun gr2 zw2 hp => ?_)
  obtain ⟨rfl, hM2, hf2⟩ := hp
  refine G.icmp_eq 932 dL_law_812 rfl (fun c812 => ?_) (fun c812 => ?_)
  · skip
    exact next _ _ _ _ _ _ _ _ _ (hC2.keep (fun j hj => hf2 j (Or.inl hj))) hM2
  · skip
    exact absurd rfl c812
set_option maxHeartbeats 1000000 in
theorem lb_untell (hX : va_X b L xs (gs P) (gs P).heap) (hbl : b < (gs P).heap.size) (hbA : ¬ gA P b) (hL : L ≤ 3072) (hi : ii + 6 ≤ L) (hN : 153 ≤ N) (hC : isC t ad w A I O Td jd J fc df) (hM : isM t ad w A I O Td jd J fc df) (next : ∀ (w' : Nat → va_E) (A : List AR) (I : Nat → Int32) (O : List OD) (Td : Nat → List RW) (jd : Bool) (J : Nat → JR) (fc : Nat) (df : DF), isC t ad w' A I O Td jd J fc df → isM t ad w' A I O Td jd J fc df → G l t room_1 P cL_law 4 RL (some .boolean) post 600000 7302250 N ad 153 19069 932 [(0, .ref b), (1, .ref (ad 0)), (2, .ref (ad 132)), (3, .int (nI ii))] [] w') : G l t room_1 P cL_law 4 RL (some .boolean) post 600000 7302250 N ad 153 19069 817 [(0, .ref b), (1, .ref (ad 0)), (2, .ref (ad 132)), (3, .int (nI ii))] [] w := by
  obtain ⟨c0, cA, cT, cOA, cP, cC, cCR, cO, cw, cd⟩ := id hC
  obtain ⟨io, op, ot, ok, nw, fa, m0, -⟩ := id hM
  refine G.aload_n 1 rfl rfl dL_law_817 ?_
  refine G.aload_n 0 rfl rfl dL_law_818 ?_
  refine G.iload_n 3 rfl rfl dL_law_819 ?_
  refine G.iconst (v := nI 1) dL_law_820 (by decide +kernel) ?_
  refine G.iadd dL_law_821 ?_
  refine G.topi (nI (ii + 1)) (nI_add ii 1) ?_
  refine G.sld hX hbl hbA (ii + 1) rfl (by omega) (by omega) dL_law_822 ?_
  refine G.callV (n := 1) 0 (c_X7_untell hC (by omega) (xs (ii + 1))) rfl (by omega) c0 rfl tb_513 tb_514 tb_515 tb_33 tb_516 (by decide +kernel) rfl ⟨(Nat.le_of_ble_eq_true rfl), (Nat.le_of_ble_eq_true rfl)⟩ ⟨rfl, rfl⟩ (Nat.le_of_ble_eq_true rfl) ⟨(Nat.le_of_ble_eq_true rfl), (Nat.le_of_ble_eq_true rfl)⟩ dL_law_823 (fun gr1 zw hp => ?_)
  obtain ⟨rfl, hC2, hf⟩ := hp
  have hM1 := hM.keep (fun j h _ => hf j h)
  have m1 := (hf 132 (by omega)).trans m0
  refine G.aload_n 2 rfl rfl dL_law_826 ?_
  refine G.aload_n 0 rfl rfl dL_law_827 ?_
  refine G.iload_n 3 rfl rfl dL_law_828 ?_
  refine G.iconst (v := nI 1) dL_law_829 (by decide +kernel) ?_
  refine G.iadd dL_law_830 ?_
  refine G.topi (nI (ii + 1)) (nI_add ii 1) ?_
  refine G.sld hX hbl hbA (ii + 1) rfl (by omega) (by omega) dL_law_831 ?_
  refine G.callV (n := 1) 132 (c_X8_untell hM1 cw hN (xs (ii + 1))) rfl (by omega) m1 rfl tb_827 tb_828 tb_829 tb_42 tb_830 (by decide +kernel) rfl ⟨(Nat.le_of_ble_eq_true rfl), (Nat.le_of_ble_eq_true rfl)⟩ ⟨rfl, rfl⟩ (Nat.le_of_ble_eq_true rfl) ⟨(Nat.le_of_ble_eq_true rfl), (Nat.le_of_ble_eq_true rfl)⟩ dL_law_832 (fun gr2 zw2 hp => ?_)
  obtain ⟨rfl, hM2, hf2⟩ := hp
  refine G.icmp_eq 932 dL_law_835 rfl (fun c835 => ?_) (fun c835 => ?_)
  · skip
    exact next _ _ _ _ _ _ _ _ _ (hC2.keep (fun j hj => hf2 j (Or.inl hj))) hM2
  · skip
    exact absurd rfl c835
set_option maxHeartbeats 1000000 in
theorem lb_compare (hX : va_X b L xs (gs P) (gs P).heap) (hbl : b < (gs P).heap.size) (hbA : ¬ gA P b) (hL : L ≤ 3072) (hi : ii + 6 ≤ L) (hN : 153 ≤ N) (hC : isC t ad w A I O Td jd J fc df) (hM : isM t ad w A I O Td jd J fc df) (next : ∀ (w' : Nat → va_E) (A : List AR) (I : Nat → Int32) (O : List OD) (Td : Nat → List RW) (jd : Bool) (J : Nat → JR) (fc : Nat) (df : DF), isC t ad w' A I O Td jd J fc df → isM t ad w' A I O Td jd J fc df → G l t room_1 P cL_law 4 RL (some .boolean) post 600000 7302250 N ad 153 19069 932 [(0, .ref b), (1, .ref (ad 0)), (2, .ref (ad 132)), (3, .int (nI ii))] [] w') : G l t room_1 P cL_law 4 RL (some .boolean) post 600000 7302250 N ad 153 19069 840 [(0, .ref b), (1, .ref (ad 0)), (2, .ref (ad 132)), (3, .int (nI ii))] [] w := by
  obtain ⟨c0, cA, cT, cOA, cP, cC, cCR, cO, cw, cd⟩ := id hC
  obtain ⟨io, op, ot, ok, nw, fa, m0, -⟩ := id hM
  refine G.aload_n 1 rfl rfl dL_law_840 ?_
  refine G.aload_n 0 rfl rfl dL_law_841 ?_
  refine G.iload_n 3 rfl rfl dL_law_842 ?_
  refine G.iconst (v := nI 1) dL_law_843 (by decide +kernel) ?_
  refine G.iadd dL_law_844 ?_
  refine G.topi (nI (ii + 1)) (nI_add ii 1) ?_
  refine G.sld hX hbl hbA (ii + 1) rfl (by omega) (by omega) dL_law_845 ?_
  refine G.aload_n 0 rfl rfl dL_law_846 ?_
  refine G.iload_n 3 rfl rfl dL_law_847 ?_
  refine G.iconst (v := nI 2) dL_law_848 (by decide +kernel) ?_
  refine G.iadd dL_law_849 ?_
  refine G.topi (nI (ii + 2)) (nI_add ii 2) ?_
  refine G.sld hX hbl hbA (ii + 2) rfl (by omega) (by omega) dL_law_850 ?_
  refine G.callV (n := 2) 0 (c_X7_compare hC (by omega) (xs (ii + 1)) (xs (ii + 2))) rfl (by omega) c0 rfl tb_517 tb_518 tb_519 tb_33 tb_520 (by decide +kernel) rfl ⟨(Nat.le_of_ble_eq_true rfl), (Nat.le_of_ble_eq_true rfl)⟩ ⟨rfl, rfl⟩ (Nat.le_of_ble_eq_true rfl) ⟨(Nat.le_of_ble_eq_true rfl), (Nat.le_of_ble_eq_true rfl)⟩ dL_law_851 (fun gr1 zw hp => ?_)
  obtain ⟨rfl, hC2, hf⟩ := hp
  have hM1 := hM.keep (fun j h _ => hf j h)
  have m1 := (hf 132 (by omega)).trans m0
  refine G.aload_n 2 rfl rfl dL_law_854 ?_
  refine G.aload_n 0 rfl rfl dL_law_855 ?_
  refine G.iload_n 3 rfl rfl dL_law_856 ?_
  refine G.iconst (v := nI 1) dL_law_857 (by decide +kernel) ?_
  refine G.iadd dL_law_858 ?_
  refine G.topi (nI (ii + 1)) (nI_add ii 1) ?_
  refine G.sld hX hbl hbA (ii + 1) rfl (by omega) (by omega) dL_law_859 ?_
  refine G.aload_n 0 rfl rfl dL_law_860 ?_
  refine G.iload_n 3 rfl rfl dL_law_861 ?_
  refine G.iconst (v := nI 2) dL_law_862 (by decide +kernel) ?_
  refine G.iadd dL_law_863 ?_
  refine G.topi (nI (ii + 2)) (nI_add ii 2) ?_
  refine G.sld hX hbl hbA (ii + 2) rfl (by omega) (by omega) dL_law_864 ?_
  refine G.callV (n := 2) 132 (c_X8_compare hM1 cw hN (xs (ii + 1)) (xs (ii + 2))) rfl (by omega) m1 rfl tb_831 tb_832 tb_833 tb_42 tb_834 (by decide +kernel) rfl ⟨(Nat.le_of_ble_eq_true rfl), (Nat.le_of_ble_eq_true rfl)⟩ ⟨rfl, rfl⟩ (Nat.le_of_ble_eq_true rfl) ⟨(Nat.le_of_ble_eq_true rfl), (Nat.le_of_ble_eq_true rfl)⟩ dL_law_865 (fun gr2 zw2 hp => ?_)
  obtain ⟨rfl, hM2, hf2⟩ := hp
  refine G.icmp_eq 932 dL_law_868 rfl (fun c868 => ?_) (fun c868 => ?_)
  · skip
    exact next _ _ _ _ _ _ _ _ _ (hC2.keep (fun j hj => hf2 j (Or.inl hj))) hM2
  · skip
    exact absurd rfl c868
set_option maxHeartbeats 1000000 in
theorem lb_where (hX : va_X b L xs (gs P) (gs P).heap) (hbl : b < (gs P).heap.size) (hbA : ¬ gA P b) (hL : L ≤ 3072) (hi : ii + 6 ≤ L) (hN : 153 ≤ N) (hC : isC t ad w A I O Td jd J fc df) (hM : isM t ad w A I O Td jd J fc df) (next : ∀ (w' : Nat → va_E) (A : List AR) (I : Nat → Int32) (O : List OD) (Td : Nat → List RW) (jd : Bool) (J : Nat → JR) (fc : Nat) (df : DF), isC t ad w' A I O Td jd J fc df → isM t ad w' A I O Td jd J fc df → G l t room_1 P cL_law 4 RL (some .boolean) post 600000 7302250 N ad 153 19069 932 [(0, .ref b), (1, .ref (ad 0)), (2, .ref (ad 132)), (3, .int (nI ii))] [] w') : G l t room_1 P cL_law 4 RL (some .boolean) post 600000 7302250 N ad 153 19069 873 [(0, .ref b), (1, .ref (ad 0)), (2, .ref (ad 132)), (3, .int (nI ii))] [] w := by
  obtain ⟨c0, cA, cT, cOA, cP, cC, cCR, cO, cw, cd⟩ := id hC
  obtain ⟨io, op, ot, ok, nw, fa, m0, -⟩ := id hM
  refine G.aload_n 1 rfl rfl dL_law_873 ?_
  refine G.aload_n 0 rfl rfl dL_law_874 ?_
  refine G.iload_n 3 rfl rfl dL_law_875 ?_
  refine G.iconst (v := nI 1) dL_law_876 (by decide +kernel) ?_
  refine G.iadd dL_law_877 ?_
  refine G.topi (nI (ii + 1)) (nI_add ii 1) ?_
  refine G.sld hX hbl hbA (ii + 1) rfl (by omega) (by omega) dL_law_878 ?_
  refine G.callV (n := 1) 0 (c_X7_where hC (by omega) (xs (ii + 1))) rfl (by omega) c0 rfl tb_574 tb_575 tb_576 tb_33 tb_577 (by decide +kernel) rfl ⟨(Nat.le_of_ble_eq_true rfl), (Nat.le_of_ble_eq_true rfl)⟩ ⟨rfl, rfl⟩ (Nat.le_of_ble_eq_true rfl) ⟨(Nat.le_of_ble_eq_true rfl), (Nat.le_of_ble_eq_true rfl)⟩ dL_law_879 (fun gr2 gw1 hp => ?_)
  obtain ⟨rfl, rfl⟩ := hp
  refine G.aload_n 2 rfl rfl dL_law_882 ?_
  refine G.aload_n 0 rfl rfl dL_law_883 ?_
  refine G.iload_n 3 rfl rfl dL_law_884 ?_
  refine G.iconst (v := nI 1) dL_law_885 (by decide +kernel) ?_
  refine G.iadd dL_law_886 ?_
  refine G.topi (nI (ii + 1)) (nI_add ii 1) ?_
  refine G.sld hX hbl hbA (ii + 1) rfl (by omega) (by omega) dL_law_887 ?_
  refine G.callV (n := 1) 132 (c_X8_where hM cw hN (xs (ii + 1))) rfl (by omega) m0 rfl tb_855 tb_856 tb_857 tb_42 tb_858 (by decide +kernel) rfl ⟨(Nat.le_of_ble_eq_true rfl), (Nat.le_of_ble_eq_true rfl)⟩ ⟨rfl, rfl⟩ (Nat.le_of_ble_eq_true rfl) ⟨(Nat.le_of_ble_eq_true rfl), (Nat.le_of_ble_eq_true rfl)⟩ dL_law_888 (fun gr4 gw3 hp => ?_)
  obtain ⟨rfl, rfl⟩ := hp
  refine G.icmp_eq 932 dL_law_891 rfl (fun c891 => ?_) (fun c891 => ?_)
  · skip
    exact next _ _ _ _ _ _ _ _ _ hC hM
  · skip
    exact absurd rfl c891
set_option maxHeartbeats 1000000 in
theorem lb_count (hX : va_X b L xs (gs P) (gs P).heap) (hbl : b < (gs P).heap.size) (hbA : ¬ gA P b) (hL : L ≤ 3072) (hi : ii + 6 ≤ L) (hN : 153 ≤ N) (hC : isC t ad w A I O Td jd J fc df) (hM : isM t ad w A I O Td jd J fc df) (next : ∀ (w' : Nat → va_E) (A : List AR) (I : Nat → Int32) (O : List OD) (Td : Nat → List RW) (jd : Bool) (J : Nat → JR) (fc : Nat) (df : DF), isC t ad w' A I O Td jd J fc df → isM t ad w' A I O Td jd J fc df → G l t room_1 P cL_law 4 RL (some .boolean) post 600000 7302250 N ad 153 19069 932 [(0, .ref b), (1, .ref (ad 0)), (2, .ref (ad 132)), (3, .int (nI ii))] [] w') : G l t room_1 P cL_law 4 RL (some .boolean) post 600000 7302250 N ad 153 19069 896 [(0, .ref b), (1, .ref (ad 0)), (2, .ref (ad 132)), (3, .int (nI ii))] [] w := by
  obtain ⟨c0, cA, cT, cOA, cP, cC, cCR, cO, cw, cd⟩ := id hC
  obtain ⟨io, op, ot, ok, nw, fa, m0, -⟩ := id hM
  refine G.aload_n 1 rfl rfl dL_law_896 ?_
  refine G.aload_n 0 rfl rfl dL_law_897 ?_
  refine G.iload_n 3 rfl rfl dL_law_898 ?_
  refine G.iconst (v := nI 1) dL_law_899 (by decide +kernel) ?_
  refine G.iadd dL_law_900 ?_
  refine G.topi (nI (ii + 1)) (nI_add ii 1) ?_
  refine G.sld hX hbl hbA (ii + 1) rfl (by omega) (by omega) dL_law_901 ?_
  refine G.callV (n := 1) 0 (c_X7_count hC (by omega) (xs (ii + 1))) rfl (by omega) c0 rfl tb_586 tb_587 tb_588 tb_33 tb_589 (by decide +kernel) rfl ⟨(Nat.le_of_ble_eq_true rfl), (Nat.le_of_ble_eq_true rfl)⟩ ⟨rfl, rfl⟩ (Nat.le_of_ble_eq_true rfl) ⟨(Nat.le_of_ble_eq_true rfl), (Nat.le_of_ble_eq_true rfl)⟩ dL_law_902 (fun gr2 gw1 hp => ?_)
  obtain ⟨rfl, rfl⟩ := hp
  refine G.aload_n 2 rfl rfl dL_law_905 ?_
  refine G.aload_n 0 rfl rfl dL_law_906 ?_
  refine G.iload_n 3 rfl rfl dL_law_907 ?_
  refine G.iconst (v := nI 1) dL_law_908 (by decide +kernel) ?_
  refine G.iadd dL_law_909 ?_
  refine G.topi (nI (ii + 1)) (nI_add ii 1) ?_
  refine G.sld hX hbl hbA (ii + 1) rfl (by omega) (by omega) dL_law_910 ?_
  refine G.callV (n := 1) 132 (c_X8_count hM cw hN (xs (ii + 1))) rfl (by omega) m0 rfl tb_859 tb_860 tb_861 tb_42 tb_862 (by decide +kernel) rfl ⟨(Nat.le_of_ble_eq_true rfl), (Nat.le_of_ble_eq_true rfl)⟩ ⟨rfl, rfl⟩ (Nat.le_of_ble_eq_true rfl) ⟨(Nat.le_of_ble_eq_true rfl), (Nat.le_of_ble_eq_true rfl)⟩ dL_law_911 (fun gr4 gw3 hp => ?_)
  obtain ⟨rfl, rfl⟩ := hp
  refine G.icmp_eq 932 dL_law_914 rfl (fun c914 => ?_) (fun c914 => ?_)
  · skip
    exact next _ _ _ _ _ _ _ _ _ hC hM
  · skip
    exact absurd rfl c914
set_option maxHeartbeats 1000000 in
theorem lb_clear (hX : va_X b L xs (gs P) (gs P).heap) (hbl : b < (gs P).heap.size) (hbA : ¬ gA P b) (hL : L ≤ 3072) (hi : ii + 6 ≤ L) (hN : 153 ≤ N) (hC : isC t ad w A I O Td jd J fc df) (hM : isM t ad w A I O Td jd J fc df) (next : ∀ (w' : Nat → va_E) (A : List AR) (I : Nat → Int32) (O : List OD) (Td : Nat → List RW) (jd : Bool) (J : Nat → JR) (fc : Nat) (df : DF), isC t ad w' A I O Td jd J fc df → isM t ad w' A I O Td jd J fc df → G l t room_1 P cL_law 4 RL (some .boolean) post 600000 7302250 N ad 153 19069 932 [(0, .ref b), (1, .ref (ad 0)), (2, .ref (ad 132)), (3, .int (nI ii))] [] w') : G l t room_1 P cL_law 4 RL (some .boolean) post 600000 7302250 N ad 153 19069 919 [(0, .ref b), (1, .ref (ad 0)), (2, .ref (ad 132)), (3, .int (nI ii))] [] w := by
  obtain ⟨c0, cA, cT, cOA, cP, cC, cCR, cO, cw, cd⟩ := id hC
  obtain ⟨io, op, ot, ok, nw, fa, m0, -⟩ := id hM
  refine G.aload_n 1 rfl rfl dL_law_919 ?_
  refine G.callV (n := 0) 0 (c_X7_clear hC (by omega)) rfl (by omega) c0 rfl tb_590 tb_591 tb_592 tb_33 tb_593 (by decide +kernel) rfl ⟨(Nat.le_of_ble_eq_true rfl), (Nat.le_of_ble_eq_true rfl)⟩ ⟨rfl, rfl⟩ (Nat.le_of_ble_eq_true rfl) ⟨(Nat.le_of_ble_eq_true rfl), (Nat.le_of_ble_eq_true rfl)⟩ dL_law_920 (fun gr1 zw hp => ?_)
  obtain ⟨rfl, hC2, hf⟩ := hp
  have hM1 := hM.keep (fun j h _ => hf j h)
  have m1 := (hf 132 (by omega)).trans m0
  refine G.aload_n 2 rfl rfl dL_law_923 ?_
  refine G.callV (n := 0) 132 (c_X8_clear hM1 cw hN) rfl (by omega) m1 rfl tb_863 tb_864 tb_865 tb_42 tb_866 (by decide +kernel) rfl ⟨(Nat.le_of_ble_eq_true rfl), (Nat.le_of_ble_eq_true rfl)⟩ ⟨rfl, rfl⟩ (Nat.le_of_ble_eq_true rfl) ⟨(Nat.le_of_ble_eq_true rfl), (Nat.le_of_ble_eq_true rfl)⟩ dL_law_924 (fun gr2 zw2 hp => ?_)
  obtain ⟨rfl, hM2, hf2⟩ := hp
  refine G.icmp_eq 932 dL_law_927 rfl (fun c927 => ?_) (fun c927 => ?_)
  · skip
    exact next _ _ _ _ _ _ _ _ _ (hC2.keep (fun j hj => hf2 j (Or.inl hj))) hM2
  · skip
    exact absurd rfl c927
end LawOps

