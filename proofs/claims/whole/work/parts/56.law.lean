/-- the script stands where it stood -/
def ScrX (g : Gp) (x : Cx) (b L : Nat) (xs : Nat → Int32) : Prop := va_X b L xs x.s x.s.heap ∧ b < x.s.heap.size ∧ ¬ AA g b ∧ L ≤ 2560
section LAWR
variable {g : Gp} {x : Cx} {cc : ByteArray} {own : String} {nL fr lo pc b L : Nat} {xs : Nat → Int32} {lv : List (Nat × Value)} {rest : List Value} {ad : Nat → Nat} {σ : Sg}
theorem r_sld (K : Ok g x cc own nL fr lo) (hX : ScrX g x b L xs) {i : Nat} (hi : i < L) (d : decode cc pc = .ok (.iaload, 1)) (k : GJ g x nL (pc + 1) lv (.int (xs i) :: rest) ad σ) : GJ g x nL pc lv (.int (nI i) :: .ref b :: rest) ad σ := by
  intro H locs ls hW hS h
  have hL := hX.2.2.2
  refine va_sld K.1 K.2.1 hX.1 hX.2.1 hX.2.2.1 hS (vp_in_nI hi (by omega)) d ?_
  rw [nI_clamp (by omega)]
  exact k H locs ls hW hS h
theorem r_slen (K : Ok g x cc own nL fr lo) (hX : ScrX g x b L xs) (d : decode cc pc = .ok (.arraylength, 1)) (k : GJ g x nL (pc + 1) lv (.int (nI L) :: rest) ad σ) : GJ g x nL pc lv (.ref b :: rest) ad σ :=
  fun H locs ls hW hS h => va_slen K.1 K.2.1 hX.1 hX.2.1 hX.2.2.1 hS d (k H locs ls hW hS h)
end LAWR
set_option maxHeartbeats 1000000 in
set_option maxRecDepth 10000 in
/-- the law at write -/
theorem law_0 {g : Gp} {x : Cx} {b L i : Nat} {xs : Nat → Int32} {ad : Nat → Nat} {σ : Sg} (K : Ok g x cL_law RL 4 2048 84000) (hX : ScrX g x b L xs) (hi : i + 5 ≤ L) (hv : Inv σ) (k : ∀ (a2 : Nat → Nat) (s2 : Sg), Inv s2 → GJ g x 4 1037 [(0, .ref (b)), (1, .ref (a2 61)), (2, .ref (a2 71)), (3, .int (nI (i)))] [] a2 s2) : GJ g x 4 148 [(0, .ref (b)), (1, .ref (ad 61)), (2, .ref (ad 71)), (3, .int (nI (i)))] [] ad σ := by
  obtain ⟨T, X, Fc, Fm, C0, C1, M0, M1, kf, hG, hC, hM⟩ := id hv
  have hL := hX.2.2.2
  refine r_aload_n K 1 rfl rfl dL_law_148 ?_
  refine r_aload_n K 0 rfl rfl dL_law_149 ?_
  refine r_iload_n K 3 rfl rfl dL_law_150 ?_
  refine r_iconst K ((nI (1))) (by decide) dL_law_151 ?_
  refine r_iadd K dL_law_152 ?_
  refine r_topi (nI_add _ _) ?_
  refine r_sld K hX (i := i + 1) (by omega) dL_law_153 ?_
  refine r_i2l K dL_law_154 ?_
  refine r_bipush K ((nI (32))) (by decide) dL_law_155 ?_
  refine r_lshl K dL_law_157 ?_
  refine r_aload_n K 0 rfl rfl dL_law_158 ?_
  refine r_iload_n K 3 rfl rfl dL_law_159 ?_
  refine r_iconst K ((nI (2))) (by decide) dL_law_160 ?_
  refine r_iadd K dL_law_161 ?_
  refine r_topi (nI_add _ _) ?_
  refine r_sld K hX (i := i + 2) (by omega) dL_law_162 ?_
  refine r_i2l K dL_law_163 ?_
  refine r_ldc2 K (v := (lN (4294967295))) kl_RL_13 dL_law_164 ?_
  refine r_land K dL_law_167 ?_
  refine r_lor K dL_law_168 ?_
  refine r_aload_n K 0 rfl rfl dL_law_169 ?_
  refine r_iload_n K 3 rfl rfl dL_law_170 ?_
  refine r_iconst K ((nI (3))) (by decide) dL_law_171 ?_
  refine r_iadd K dL_law_172 ?_
  refine r_topi (nI_add _ _) ?_
  refine r_sld K hX (i := i + 3) (by omega) dL_law_173 ?_
  refine r_callV K 61 (As := [.long (((((xs (i + 1))).toInt64) <<< (((nI (32))).toInt64 &&& 63)) ||| ((((xs (i + 2))).toInt64) &&& (lN (4294967295)))), .int (xs (i + 3))]) (rest := []) mv_X6_write ml_RL_15 (c_write hG.2.1 hC.2.1 ((((((xs (i + 1))).toInt64) <<< (((nI (32))).toInt64 &&& 63)) ||| ((((xs (i + 2))).toInt64) &&& (lN (4294967295))))) ((xs (i + 3)))) (by decide) rfl rfl rfl rfl (Nat.le_of_ble_eq_true rfl) ⟨by decide, by decide⟩ dL_law_174 (fun r_1 ad_1 s_1 h_1 => ?_)
  obtain ⟨rfl, rfl, hs1, g1⟩ := h_1
  refine r_st (st' := [.int (wrS X ((xs (i + 3))))]) rfl ?_
  have hC1 := CR_write hC hs1 g1
  have hM1 := MR_c hM (cS_of hs1 (by decide) (by decide) (by decide))
  refine r_aload_n K 2 rfl rfl dL_law_177 ?_
  refine r_aload_n K 0 rfl rfl dL_law_178 ?_
  refine r_iload_n K 3 rfl rfl dL_law_179 ?_
  refine r_iconst K ((nI (1))) (by decide) dL_law_180 ?_
  refine r_iadd K dL_law_181 ?_
  refine r_topi (nI_add _ _) ?_
  refine r_sld K hX (i := i + 1) (by omega) dL_law_182 ?_
  refine r_i2l K dL_law_183 ?_
  refine r_bipush K ((nI (32))) (by decide) dL_law_184 ?_
  refine r_lshl K dL_law_186 ?_
  refine r_aload_n K 0 rfl rfl dL_law_187 ?_
  refine r_iload_n K 3 rfl rfl dL_law_188 ?_
  refine r_iconst K ((nI (2))) (by decide) dL_law_189 ?_
  refine r_iadd K dL_law_190 ?_
  refine r_topi (nI_add _ _) ?_
  refine r_sld K hX (i := i + 2) (by omega) dL_law_191 ?_
  refine r_i2l K dL_law_192 ?_
  refine r_ldc2 K (v := (lN (4294967295))) kl_RL_13 dL_law_193 ?_
  refine r_land K dL_law_196 ?_
  refine r_lor K dL_law_197 ?_
  refine r_aload_n K 0 rfl rfl dL_law_198 ?_
  refine r_iload_n K 3 rfl rfl dL_law_199 ?_
  refine r_iconst K ((nI (3))) (by decide) dL_law_200 ?_
  refine r_iadd K dL_law_201 ?_
  refine r_topi (nI_add _ _) ?_
  refine r_sld K hX (i := i + 3) (by omega) dL_law_202 ?_
  refine r_callV K 71 (As := [.long (((((xs (i + 1))).toInt64) <<< (((nI (32))).toInt64 &&& 63)) ||| ((((xs (i + 2))).toInt64) &&& (lN (4294967295)))), .int (xs (i + 3))]) (rest := [.int (wrS X ((xs (i + 3))))]) mv_X7_write ml_RL_19 (m_write hG.2.1 hM1.2.1 ((((((xs (i + 1))).toInt64) <<< (((nI (32))).toInt64 &&& 63)) ||| ((((xs (i + 2))).toInt64) &&& (lN (4294967295))))) ((xs (i + 3)))) (by decide) rfl rfl rfl rfl (Nat.le_of_ble_eq_true rfl) ⟨by decide, by decide⟩ dL_law_203 (fun r_2 ad_2 s_2 h_2 => ?_)
  obtain ⟨rfl, rfl, hs2, g2⟩ := h_2
  refine r_st (st' := [.int (wrS X ((xs (i + 3)))), .int (wrS X ((xs (i + 3))))]) rfl ?_
  have hM2 := MR_write hM1 hs2 g2
  have hC2 := CR_m hC1 (mS_of hs2 (by decide) (by decide) (by decide))
  refine r_icmp_eq K 1037 dL_law_206 (by decide) (fun _ => ?_) (fun z => absurd (rfl) z)
  exact k _ _ ⟨_, _, _, _, _, _, _, _, _, ⟨hG.1, XOk_wr hG.2.1 ((((((xs (i + 1))).toInt64) <<< (((nI (32))).toInt64 &&& 63)) ||| ((((xs (i + 2))).toInt64) &&& (lN (4294967295))))) ((xs (i + 3))), hG.2.2⟩, hC2, hM2⟩
set_option maxHeartbeats 1000000 in
set_option maxRecDepth 10000 in
/-- the law at erase -/
theorem law_1 {g : Gp} {x : Cx} {b L i : Nat} {xs : Nat → Int32} {ad : Nat → Nat} {σ : Sg} (K : Ok g x cL_law RL 4 2048 84000) (hX : ScrX g x b L xs) (hi : i + 5 ≤ L) (hv : Inv σ) (k : ∀ (a2 : Nat → Nat) (s2 : Sg), Inv s2 → GJ g x 4 1037 [(0, .ref (b)), (1, .ref (a2 61)), (2, .ref (a2 71)), (3, .int (nI (i)))] [] a2 s2) : GJ g x 4 211 [(0, .ref (b)), (1, .ref (ad 61)), (2, .ref (ad 71)), (3, .int (nI (i)))] [] ad σ := by
  obtain ⟨T, X, Fc, Fm, C0, C1, M0, M1, kf, hG, hC, hM⟩ := id hv
  have hL := hX.2.2.2
  refine r_aload_n K 1 rfl rfl dL_law_211 ?_
  refine r_callV K 61 (As := []) (rest := []) mv_X6_erase ml_RL_20 (c_erase hC.2.1 ) (by decide) rfl rfl rfl rfl (Nat.le_of_ble_eq_true rfl) ⟨by decide, by decide⟩ dL_law_212 (fun r_1 ad_1 s_1 h_1 => ?_)
  obtain ⟨rfl, rfl, hs1, g1⟩ := h_1
  refine r_st (st' := [.int (nI (X 0 0))]) rfl ?_
  have hC1 := CR_erase hC hs1 g1
  have hM1 := MR_c hM (cS_of hs1 (by decide) (by decide) (by decide))
  refine r_aload_n K 2 rfl rfl dL_law_215 ?_
  refine r_callV K 71 (As := []) (rest := [.int (nI (X 0 0))]) mv_X7_erase ml_RL_24 (m_erase hM1.2.1 ) (by decide) rfl rfl rfl rfl (Nat.le_of_ble_eq_true rfl) ⟨by decide, by decide⟩ dL_law_216 (fun r_2 ad_2 s_2 h_2 => ?_)
  obtain ⟨rfl, rfl, hs2, g2⟩ := h_2
  refine r_st (st' := [.int (nI (X 0 0)), .int (nI (X 0 0))]) rfl ?_
  have hM2 := MR_erase hM1 hs2 g2
  have hC2 := CR_m hC1 (mS_of hs2 (by decide) (by decide) (by decide))
  refine r_icmp_eq K 1037 dL_law_219 (by decide) (fun _ => ?_) (fun z => absurd (rfl) z)
  exact k _ _ ⟨_, _, _, _, _, _, _, _, _, ⟨hG.1, XOk_era hG.2.1, hG.2.2⟩, hC2, hM2⟩
set_option maxHeartbeats 1000000 in
set_option maxRecDepth 10000 in
/-- the law at fault -/
theorem law_2 {g : Gp} {x : Cx} {b L i : Nat} {xs : Nat → Int32} {ad : Nat → Nat} {σ : Sg} (K : Ok g x cL_law RL 4 2048 84000) (hX : ScrX g x b L xs) (hi : i + 5 ≤ L) (hv : Inv σ) (k : ∀ (a2 : Nat → Nat) (s2 : Sg), Inv s2 → GJ g x 4 1037 [(0, .ref (b)), (1, .ref (a2 61)), (2, .ref (a2 71)), (3, .int (nI (i)))] [] a2 s2) : GJ g x 4 224 [(0, .ref (b)), (1, .ref (ad 61)), (2, .ref (ad 71)), (3, .int (nI (i)))] [] ad σ := by
  obtain ⟨T, X, Fc, Fm, C0, C1, M0, M1, kf, hG, hC, hM⟩ := id hv
  have hL := hX.2.2.2
  refine r_aload_n K 1 rfl rfl dL_law_224 ?_
  refine r_callV K 61 (As := []) (rest := []) mv_X6_fault ml_RL_25 (c_fault hG.2.1 hC.2.1 hG.1 hC.1 hC.2.2.2.2.2.2.1 ) (by decide) rfl rfl rfl rfl (Nat.le_of_ble_eq_true rfl) ⟨by decide, by decide⟩ dL_law_225 (fun r_1 ad_1 s_1 h_1 => ?_)
  obtain ⟨rfl, rfl, hs1, g1⟩ := h_1
  refine r_st (st' := [.int (fltR X T)]) rfl ?_
  have hC1 := CR_fault hC hs1 g1
  have hM1 := MR_c hM (cS_of hs1 (by decide) (by decide) (by decide))
  refine r_aload_n K 2 rfl rfl dL_law_228 ?_
  refine r_callV K 71 (As := []) (rest := [.int (fltR X T)]) mv_X7_fault ml_RL_28 (m_fault hG.2.1 hM1.2.1 hG.1 hM1.1 ) (by decide) rfl rfl rfl rfl (Nat.le_of_ble_eq_true rfl) ⟨by decide, by decide⟩ dL_law_229 (fun r_2 ad_2 s_2 h_2 => ?_)
  obtain ⟨rfl, rfl, hs2⟩ := h_2
  refine r_st (st' := [.int (fltR X T), .int (fltR X T)]) rfl ?_
  have hM2 := MR_fault hM1 hs2
  have hC2 := CR_m hC1 (mS_of hs2 (by decide) (by decide) (by decide))
  refine r_icmp_eq K 1037 dL_law_232 (by decide) (fun _ => ?_) (fun z => absurd (rfl) z)
  exact k _ _ ⟨_, _, _, _, _, _, _, _, _, hG, hC2, hM2⟩
set_option maxHeartbeats 1000000 in
set_option maxRecDepth 10000 in
/-- the law at river -/
theorem law_3 {g : Gp} {x : Cx} {b L i : Nat} {xs : Nat → Int32} {ad : Nat → Nat} {σ : Sg} (K : Ok g x cL_law RL 4 2048 84000) (hX : ScrX g x b L xs) (hi : i + 5 ≤ L) (hv : Inv σ) (k : ∀ (a2 : Nat → Nat) (s2 : Sg), Inv s2 → GJ g x 4 1037 [(0, .ref (b)), (1, .ref (a2 61)), (2, .ref (a2 71)), (3, .int (nI (i)))] [] a2 s2) : GJ g x 4 237 [(0, .ref (b)), (1, .ref (ad 61)), (2, .ref (ad 71)), (3, .int (nI (i)))] [] ad σ := by
  obtain ⟨T, X, Fc, Fm, C0, C1, M0, M1, kf, hG, hC, hM⟩ := id hv
  have hL := hX.2.2.2
  refine r_aload_n K 1 rfl rfl dL_law_237 ?_
  refine r_callV K 61 (As := []) (rest := []) mv_X6_river ml_RL_29 (c_river hG.2.1 hC.2.1 hG.1 hC.1 hC.2.2.2.2.2.2.1 hC.2.2.1 hC.2.2.2.2.2.1 ) (by decide) rfl rfl rfl rfl (Nat.le_of_ble_eq_true rfl) ⟨by decide, by decide⟩ dL_law_238 (fun r_1 ad_1 s_1 h_1 => ?_)
  obtain ⟨rfl, rfl, hs1, g0, g1, g2, g3, g4, g5, g6⟩ := h_1
  refine r_st (st' := [.int (rivR X T)]) rfl ?_
  have hC1 := CR_river hC hs1 g0 g1 g2 g3 g4 (RepP_river hC.2.2.2.2.2.2.2 hs1 g5 g6)
  have hM1 := MR_c hM (cS_of hs1 (by decide) (by decide) (by decide))
  refine r_aload_n K 2 rfl rfl dL_law_241 ?_
  refine r_callV K 71 (As := []) (rest := [.int (rivR X T)]) mv_X7_river ml_RL_32 (m_river hG.2.1 hM1.2.1 hG.1 hM1.1 hM1.2.2.1 hM1.2.2.2.2.2 ) (by decide) rfl rfl rfl rfl (Nat.le_of_ble_eq_true rfl) ⟨by decide, by decide⟩ dL_law_242 (fun r_2 ad_2 s_2 h_2 => ?_)
  obtain ⟨rfl, rfl, hs2, m0, m1, m2, m3⟩ := h_2
  refine r_st (st' := [.int (rivR X T), .int (rivR X T)]) rfl ?_
  have hM2 := MR_river hM1 hs2 m0 m1 m2 m3
  have hC2 := CR_m hC1 (mS_of hs2 (by decide) (by decide) (by decide))
  refine r_icmp_eq K 1037 dL_law_245 (by decide) (fun _ => ?_) (fun z => absurd (rfl) z)
  exact k _ _ ⟨_, _, _, _, _, _, _, _, _, LgI_river hG, hC2, hM2⟩
set_option maxHeartbeats 1000000 in
set_option maxRecDepth 10000 in
/-- the law at reach -/
theorem law_4 {g : Gp} {x : Cx} {b L i : Nat} {xs : Nat → Int32} {ad : Nat → Nat} {σ : Sg} (K : Ok g x cL_law RL 4 2048 84000) (hX : ScrX g x b L xs) (hi : i + 5 ≤ L) (hv : Inv σ) (k : ∀ (a2 : Nat → Nat) (s2 : Sg), Inv s2 → GJ g x 4 1037 [(0, .ref (b)), (1, .ref (a2 61)), (2, .ref (a2 71)), (3, .int (nI (i)))] [] a2 s2) : GJ g x 4 250 [(0, .ref (b)), (1, .ref (ad 61)), (2, .ref (ad 71)), (3, .int (nI (i)))] [] ad σ := by
  obtain ⟨T, X, Fc, Fm, C0, C1, M0, M1, kf, hG, hC, hM⟩ := id hv
  have hL := hX.2.2.2
  refine r_aload_n K 1 rfl rfl dL_law_250 ?_
  refine r_aload_n K 0 rfl rfl dL_law_251 ?_
  refine r_iload_n K 3 rfl rfl dL_law_252 ?_
  refine r_iconst K ((nI (1))) (by decide) dL_law_253 ?_
  refine r_iadd K dL_law_254 ?_
  refine r_topi (nI_add _ _) ?_
  refine r_sld K hX (i := i + 1) (by omega) dL_law_255 ?_
  refine r_aload_n K 0 rfl rfl dL_law_256 ?_
  refine r_iload_n K 3 rfl rfl dL_law_257 ?_
  refine r_iconst K ((nI (2))) (by decide) dL_law_258 ?_
  refine r_iadd K dL_law_259 ?_
  refine r_topi (nI_add _ _) ?_
  refine r_sld K hX (i := i + 2) (by omega) dL_law_260 ?_
  refine r_callVp K 61 (As := [.int (xs (i + 1)), .int (xs (i + 2))]) mv_X6_reach ml_RL_33 (c_reach hG.1 hC.1 ((xs (i + 1))) ((xs (i + 2)))) (by decide) rfl rfl rfl rfl (Nat.le_of_ble_eq_true rfl) ⟨by decide, by decide⟩ dL_law_261 ?_
  refine r_aload_n K 2 rfl rfl dL_law_264 ?_
  refine r_aload_n K 0 rfl rfl dL_law_265 ?_
  refine r_iload_n K 3 rfl rfl dL_law_266 ?_
  refine r_iconst K ((nI (1))) (by decide) dL_law_267 ?_
  refine r_iadd K dL_law_268 ?_
  refine r_topi (nI_add _ _) ?_
  refine r_sld K hX (i := i + 1) (by omega) dL_law_269 ?_
  refine r_aload_n K 0 rfl rfl dL_law_270 ?_
  refine r_iload_n K 3 rfl rfl dL_law_271 ?_
  refine r_iconst K ((nI (2))) (by decide) dL_law_272 ?_
  refine r_iadd K dL_law_273 ?_
  refine r_topi (nI_add _ _) ?_
  refine r_sld K hX (i := i + 2) (by omega) dL_law_274 ?_
  refine r_callVp K 71 (As := [.int (xs (i + 1)), .int (xs (i + 2))]) mv_X7_reach ml_RL_37 (m_reach hG.1 hM.1 ((xs (i + 1))) ((xs (i + 2)))) (by decide) rfl rfl rfl rfl (Nat.le_of_ble_eq_true rfl) ⟨by decide, by decide⟩ dL_law_275 ?_
  refine r_icmp_eq K 1037 dL_law_278 (by decide) (fun _ => ?_) (fun z => absurd (rfl) z)
  exact k _ _ hv
set_option maxHeartbeats 1000000 in
set_option maxRecDepth 10000 in
/-- the law at wind -/
theorem law_5 {g : Gp} {x : Cx} {b L i : Nat} {xs : Nat → Int32} {ad : Nat → Nat} {σ : Sg} (K : Ok g x cL_law RL 4 2048 84000) (hX : ScrX g x b L xs) (hi : i + 5 ≤ L) (hv : Inv σ) (k : ∀ (a2 : Nat → Nat) (s2 : Sg), Inv s2 → GJ g x 4 1037 [(0, .ref (b)), (1, .ref (a2 61)), (2, .ref (a2 71)), (3, .int (nI (i)))] [] a2 s2) : GJ g x 4 283 [(0, .ref (b)), (1, .ref (ad 61)), (2, .ref (ad 71)), (3, .int (nI (i)))] [] ad σ := by
  obtain ⟨T, X, Fc, Fm, C0, C1, M0, M1, kf, hG, hC, hM⟩ := id hv
  have hL := hX.2.2.2
  refine r_aload_n K 1 rfl rfl dL_law_283 ?_
  refine r_aload_n K 0 rfl rfl dL_law_284 ?_
  refine r_iload_n K 3 rfl rfl dL_law_285 ?_
  refine r_iconst K ((nI (1))) (by decide) dL_law_286 ?_
  refine r_iadd K dL_law_287 ?_
  refine r_topi (nI_add _ _) ?_
  refine r_sld K hX (i := i + 1) (by omega) dL_law_288 ?_
  refine r_aload_n K 0 rfl rfl dL_law_289 ?_
  refine r_iload_n K 3 rfl rfl dL_law_290 ?_
  refine r_iconst K ((nI (2))) (by decide) dL_law_291 ?_
  refine r_iadd K dL_law_292 ?_
  refine r_topi (nI_add _ _) ?_
  refine r_sld K hX (i := i + 2) (by omega) dL_law_293 ?_
  refine r_aload_n K 0 rfl rfl dL_law_294 ?_
  refine r_iload_n K 3 rfl rfl dL_law_295 ?_
  refine r_iconst K ((nI (3))) (by decide) dL_law_296 ?_
  refine r_iadd K dL_law_297 ?_
  refine r_topi (nI_add _ _) ?_
  refine r_sld K hX (i := i + 3) (by omega) dL_law_298 ?_
  refine r_callVp K 61 (As := [.int (xs (i + 1)), .int (xs (i + 2)), .int (xs (i + 3))]) mv_X6_wind ml_RL_38 (c_wind hG.1 hC.1 ((xs (i + 1))) ((xs (i + 2))) ((xs (i + 3)))) (by decide) rfl rfl rfl rfl (Nat.le_of_ble_eq_true rfl) ⟨by decide, by decide⟩ dL_law_299 ?_
  refine r_aload_n K 2 rfl rfl dL_law_302 ?_
  refine r_aload_n K 0 rfl rfl dL_law_303 ?_
  refine r_iload_n K 3 rfl rfl dL_law_304 ?_
  refine r_iconst K ((nI (1))) (by decide) dL_law_305 ?_
  refine r_iadd K dL_law_306 ?_
  refine r_topi (nI_add _ _) ?_
  refine r_sld K hX (i := i + 1) (by omega) dL_law_307 ?_
  refine r_aload_n K 0 rfl rfl dL_law_308 ?_
  refine r_iload_n K 3 rfl rfl dL_law_309 ?_
  refine r_iconst K ((nI (2))) (by decide) dL_law_310 ?_
  refine r_iadd K dL_law_311 ?_
  refine r_topi (nI_add _ _) ?_
  refine r_sld K hX (i := i + 2) (by omega) dL_law_312 ?_
  refine r_aload_n K 0 rfl rfl dL_law_313 ?_
  refine r_iload_n K 3 rfl rfl dL_law_314 ?_
  refine r_iconst K ((nI (3))) (by decide) dL_law_315 ?_
  refine r_iadd K dL_law_316 ?_
  refine r_topi (nI_add _ _) ?_
  refine r_sld K hX (i := i + 3) (by omega) dL_law_317 ?_
  refine r_callVp K 71 (As := [.int (xs (i + 1)), .int (xs (i + 2)), .int (xs (i + 3))]) mv_X7_wind ml_RL_42 (m_wind hG.1 hM.1 ((xs (i + 1))) ((xs (i + 2))) ((xs (i + 3)))) (by decide) rfl rfl rfl rfl (Nat.le_of_ble_eq_true rfl) ⟨by decide, by decide⟩ dL_law_318 ?_
  refine r_icmp_eq K 1037 dL_law_321 (by decide) (fun _ => ?_) (fun z => absurd (rfl) z)
  exact k _ _ hv
set_option maxHeartbeats 1000000 in
set_option maxRecDepth 10000 in
/-- the law at barge -/
theorem law_6 {g : Gp} {x : Cx} {b L i : Nat} {xs : Nat → Int32} {ad : Nat → Nat} {σ : Sg} (K : Ok g x cL_law RL 4 2048 84000) (hX : ScrX g x b L xs) (hi : i + 5 ≤ L) (hv : Inv σ) (k : ∀ (a2 : Nat → Nat) (s2 : Sg), Inv s2 → GJ g x 4 1037 [(0, .ref (b)), (1, .ref (a2 61)), (2, .ref (a2 71)), (3, .int (nI (i)))] [] a2 s2) : GJ g x 4 326 [(0, .ref (b)), (1, .ref (ad 61)), (2, .ref (ad 71)), (3, .int (nI (i)))] [] ad σ := by
  obtain ⟨T, X, Fc, Fm, C0, C1, M0, M1, kf, hG, hC, hM⟩ := id hv
  have hL := hX.2.2.2
  refine r_aload_n K 1 rfl rfl dL_law_326 ?_
  refine r_aload_n K 0 rfl rfl dL_law_327 ?_
  refine r_iload_n K 3 rfl rfl dL_law_328 ?_
  refine r_iconst K ((nI (1))) (by decide) dL_law_329 ?_
  refine r_iadd K dL_law_330 ?_
  refine r_topi (nI_add _ _) ?_
  refine r_sld K hX (i := i + 1) (by omega) dL_law_331 ?_
  refine r_aload_n K 0 rfl rfl dL_law_332 ?_
  refine r_iload_n K 3 rfl rfl dL_law_333 ?_
  refine r_iconst K ((nI (2))) (by decide) dL_law_334 ?_
  refine r_iadd K dL_law_335 ?_
  refine r_topi (nI_add _ _) ?_
  refine r_sld K hX (i := i + 2) (by omega) dL_law_336 ?_
  refine r_callVp K 61 (As := [.int (xs (i + 1)), .int (xs (i + 2))]) mv_X6_barge ml_RL_43 (c_barge hG.1 hC.1 ((xs (i + 1))) ((xs (i + 2)))) (by decide) rfl rfl rfl rfl (Nat.le_of_ble_eq_true rfl) ⟨by decide, by decide⟩ dL_law_337 ?_
  refine r_aload_n K 2 rfl rfl dL_law_340 ?_
  refine r_aload_n K 0 rfl rfl dL_law_341 ?_
  refine r_iload_n K 3 rfl rfl dL_law_342 ?_
  refine r_iconst K ((nI (1))) (by decide) dL_law_343 ?_
  refine r_iadd K dL_law_344 ?_
  refine r_topi (nI_add _ _) ?_
  refine r_sld K hX (i := i + 1) (by omega) dL_law_345 ?_
  refine r_aload_n K 0 rfl rfl dL_law_346 ?_
  refine r_iload_n K 3 rfl rfl dL_law_347 ?_
  refine r_iconst K ((nI (2))) (by decide) dL_law_348 ?_
  refine r_iadd K dL_law_349 ?_
  refine r_topi (nI_add _ _) ?_
  refine r_sld K hX (i := i + 2) (by omega) dL_law_350 ?_
  refine r_callVp K 71 (As := [.int (xs (i + 1)), .int (xs (i + 2))]) mv_X7_barge ml_RL_46 (m_barge hG.1 hM.1 ((xs (i + 1))) ((xs (i + 2)))) (by decide) rfl rfl rfl rfl (Nat.le_of_ble_eq_true rfl) ⟨by decide, by decide⟩ dL_law_351 ?_
  refine r_icmp_eq K 1037 dL_law_354 (by decide) (fun _ => ?_) (fun z => absurd (rfl) z)
  exact k _ _ hv
set_option maxHeartbeats 1000000 in
set_option maxRecDepth 10000 in
/-- the law at as -/
theorem law_7 {g : Gp} {x : Cx} {b L i : Nat} {xs : Nat → Int32} {ad : Nat → Nat} {σ : Sg} (K : Ok g x cL_law RL 4 2048 84000) (hX : ScrX g x b L xs) (hi : i + 5 ≤ L) (hv : Inv σ) (k : ∀ (a2 : Nat → Nat) (s2 : Sg), Inv s2 → GJ g x 4 1037 [(0, .ref (b)), (1, .ref (a2 61)), (2, .ref (a2 71)), (3, .int (nI (i)))] [] a2 s2) : GJ g x 4 359 [(0, .ref (b)), (1, .ref (ad 61)), (2, .ref (ad 71)), (3, .int (nI (i)))] [] ad σ := by
  obtain ⟨T, X, Fc, Fm, C0, C1, M0, M1, kf, hG, hC, hM⟩ := id hv
  have hL := hX.2.2.2
  refine r_aload_n K 1 rfl rfl dL_law_359 ?_
  refine r_aload_n K 0 rfl rfl dL_law_360 ?_
  refine r_iload_n K 3 rfl rfl dL_law_361 ?_
  refine r_iconst K ((nI (1))) (by decide) dL_law_362 ?_
  refine r_iadd K dL_law_363 ?_
  refine r_topi (nI_add _ _) ?_
  refine r_sld K hX (i := i + 1) (by omega) dL_law_364 ?_
  refine r_aload_n K 0 rfl rfl dL_law_365 ?_
  refine r_iload_n K 3 rfl rfl dL_law_366 ?_
  refine r_iconst K ((nI (2))) (by decide) dL_law_367 ?_
  refine r_iadd K dL_law_368 ?_
  refine r_topi (nI_add _ _) ?_
  refine r_sld K hX (i := i + 2) (by omega) dL_law_369 ?_
  refine r_callVp K 61 (As := [.int (xs (i + 1)), .int (xs (i + 2))]) mv_X6_as ml_RL_47 (c_as hG.1 hC.1 ((xs (i + 1))) ((xs (i + 2)))) (by decide) rfl rfl rfl rfl (Nat.le_of_ble_eq_true rfl) ⟨by decide, by decide⟩ dL_law_370 ?_
  refine r_aload_n K 2 rfl rfl dL_law_373 ?_
  refine r_aload_n K 0 rfl rfl dL_law_374 ?_
  refine r_iload_n K 3 rfl rfl dL_law_375 ?_
  refine r_iconst K ((nI (1))) (by decide) dL_law_376 ?_
  refine r_iadd K dL_law_377 ?_
  refine r_topi (nI_add _ _) ?_
  refine r_sld K hX (i := i + 1) (by omega) dL_law_378 ?_
  refine r_aload_n K 0 rfl rfl dL_law_379 ?_
  refine r_iload_n K 3 rfl rfl dL_law_380 ?_
  refine r_iconst K ((nI (2))) (by decide) dL_law_381 ?_
  refine r_iadd K dL_law_382 ?_
  refine r_topi (nI_add _ _) ?_
  refine r_sld K hX (i := i + 2) (by omega) dL_law_383 ?_
  refine r_callVp K 71 (As := [.int (xs (i + 1)), .int (xs (i + 2))]) mv_X7_as ml_RL_50 (m_as hG.1 hM.1 ((xs (i + 1))) ((xs (i + 2)))) (by decide) rfl rfl rfl rfl (Nat.le_of_ble_eq_true rfl) ⟨by decide, by decide⟩ dL_law_384 ?_
  refine r_icmp_eq K 1037 dL_law_387 (by decide) (fun _ => ?_) (fun z => absurd (rfl) z)
  exact k _ _ hv
set_option maxHeartbeats 1000000 in
set_option maxRecDepth 10000 in
/-- the law at yards -/
theorem law_8 {g : Gp} {x : Cx} {b L i : Nat} {xs : Nat → Int32} {ad : Nat → Nat} {σ : Sg} (K : Ok g x cL_law RL 4 2048 84000) (hX : ScrX g x b L xs) (hi : i + 5 ≤ L) (hv : Inv σ) (k : ∀ (a2 : Nat → Nat) (s2 : Sg), Inv s2 → GJ g x 4 1037 [(0, .ref (b)), (1, .ref (a2 61)), (2, .ref (a2 71)), (3, .int (nI (i)))] [] a2 s2) : GJ g x 4 392 [(0, .ref (b)), (1, .ref (ad 61)), (2, .ref (ad 71)), (3, .int (nI (i)))] [] ad σ := by
  obtain ⟨T, X, Fc, Fm, C0, C1, M0, M1, kf, hG, hC, hM⟩ := id hv
  have hL := hX.2.2.2
  refine r_aload_n K 1 rfl rfl dL_law_392 ?_
  refine r_aload_n K 0 rfl rfl dL_law_393 ?_
  refine r_iload_n K 3 rfl rfl dL_law_394 ?_
  refine r_iconst K ((nI (1))) (by decide) dL_law_395 ?_
  refine r_iadd K dL_law_396 ?_
  refine r_topi (nI_add _ _) ?_
  refine r_sld K hX (i := i + 1) (by omega) dL_law_397 ?_
  refine r_aload_n K 0 rfl rfl dL_law_398 ?_
  refine r_iload_n K 3 rfl rfl dL_law_399 ?_
  refine r_iconst K ((nI (2))) (by decide) dL_law_400 ?_
  refine r_iadd K dL_law_401 ?_
  refine r_topi (nI_add _ _) ?_
  refine r_sld K hX (i := i + 2) (by omega) dL_law_402 ?_
  refine r_aload_n K 0 rfl rfl dL_law_403 ?_
  refine r_iload_n K 3 rfl rfl dL_law_404 ?_
  refine r_iconst K ((nI (3))) (by decide) dL_law_405 ?_
  refine r_iadd K dL_law_406 ?_
  refine r_topi (nI_add _ _) ?_
  refine r_sld K hX (i := i + 3) (by omega) dL_law_407 ?_
  refine r_aload_n K 0 rfl rfl dL_law_408 ?_
  refine r_iload_n K 3 rfl rfl dL_law_409 ?_
  refine r_iconst K ((nI (4))) (by decide) dL_law_410 ?_
  refine r_iadd K dL_law_411 ?_
  refine r_topi (nI_add _ _) ?_
  refine r_sld K hX (i := i + 4) (by omega) dL_law_412 ?_
  refine r_callVp K 61 (As := [.int (xs (i + 1)), .int (xs (i + 2)), .int (xs (i + 3)), .int (xs (i + 4))]) mv_X6_yards ml_RL_51 (c_yards hG.1 hC.1 ((xs (i + 1))) ((xs (i + 2))) ((xs (i + 3))) ((xs (i + 4)))) (by decide) rfl rfl rfl rfl (Nat.le_of_ble_eq_true rfl) ⟨by decide, by decide⟩ dL_law_413 ?_
  refine r_aload_n K 2 rfl rfl dL_law_416 ?_
  refine r_aload_n K 0 rfl rfl dL_law_417 ?_
  refine r_iload_n K 3 rfl rfl dL_law_418 ?_
  refine r_iconst K ((nI (1))) (by decide) dL_law_419 ?_
  refine r_iadd K dL_law_420 ?_
  refine r_topi (nI_add _ _) ?_
  refine r_sld K hX (i := i + 1) (by omega) dL_law_421 ?_
  refine r_aload_n K 0 rfl rfl dL_law_422 ?_
  refine r_iload_n K 3 rfl rfl dL_law_423 ?_
  refine r_iconst K ((nI (2))) (by decide) dL_law_424 ?_
  refine r_iadd K dL_law_425 ?_
  refine r_topi (nI_add _ _) ?_
  refine r_sld K hX (i := i + 2) (by omega) dL_law_426 ?_
  refine r_aload_n K 0 rfl rfl dL_law_427 ?_
  refine r_iload_n K 3 rfl rfl dL_law_428 ?_
  refine r_iconst K ((nI (3))) (by decide) dL_law_429 ?_
  refine r_iadd K dL_law_430 ?_
  refine r_topi (nI_add _ _) ?_
  refine r_sld K hX (i := i + 3) (by omega) dL_law_431 ?_
  refine r_aload_n K 0 rfl rfl dL_law_432 ?_
  refine r_iload_n K 3 rfl rfl dL_law_433 ?_
  refine r_iconst K ((nI (4))) (by decide) dL_law_434 ?_
  refine r_iadd K dL_law_435 ?_
  refine r_topi (nI_add _ _) ?_
  refine r_sld K hX (i := i + 4) (by omega) dL_law_436 ?_
  refine r_callVp K 71 (As := [.int (xs (i + 1)), .int (xs (i + 2)), .int (xs (i + 3)), .int (xs (i + 4))]) mv_X7_yards ml_RL_55 (m_yards hG.1 hM.1 ((xs (i + 1))) ((xs (i + 2))) ((xs (i + 3))) ((xs (i + 4)))) (by decide) rfl rfl rfl rfl (Nat.le_of_ble_eq_true rfl) ⟨by decide, by decide⟩ dL_law_437 ?_
  refine r_icmp_eq K 1037 dL_law_440 (by decide) (fun _ => ?_) (fun z => absurd (rfl) z)
  exact k _ _ hv
set_option maxHeartbeats 1000000 in
set_option maxRecDepth 10000 in
/-- the law at cord -/
theorem law_9 {g : Gp} {x : Cx} {b L i : Nat} {xs : Nat → Int32} {ad : Nat → Nat} {σ : Sg} (K : Ok g x cL_law RL 4 2048 84000) (hX : ScrX g x b L xs) (hi : i + 5 ≤ L) (hv : Inv σ) (k : ∀ (a2 : Nat → Nat) (s2 : Sg), Inv s2 → GJ g x 4 1037 [(0, .ref (b)), (1, .ref (a2 61)), (2, .ref (a2 71)), (3, .int (nI (i)))] [] a2 s2) : GJ g x 4 445 [(0, .ref (b)), (1, .ref (ad 61)), (2, .ref (ad 71)), (3, .int (nI (i)))] [] ad σ := by
  obtain ⟨T, X, Fc, Fm, C0, C1, M0, M1, kf, hG, hC, hM⟩ := id hv
  have hL := hX.2.2.2
  refine r_aload_n K 1 rfl rfl dL_law_445 ?_
  refine r_aload_n K 0 rfl rfl dL_law_446 ?_
  refine r_iload_n K 3 rfl rfl dL_law_447 ?_
  refine r_iconst K ((nI (1))) (by decide) dL_law_448 ?_
  refine r_iadd K dL_law_449 ?_
  refine r_topi (nI_add _ _) ?_
  refine r_sld K hX (i := i + 1) (by omega) dL_law_450 ?_
  refine r_aload_n K 0 rfl rfl dL_law_451 ?_
  refine r_iload_n K 3 rfl rfl dL_law_452 ?_
  refine r_iconst K ((nI (2))) (by decide) dL_law_453 ?_
  refine r_iadd K dL_law_454 ?_
  refine r_topi (nI_add _ _) ?_
  refine r_sld K hX (i := i + 2) (by omega) dL_law_455 ?_
  refine r_callV K 61 (As := [.int (xs (i + 1)), .int (xs (i + 2))]) (rest := []) mv_X6_cord ml_RL_56 (c_cord hG.1 hC.1 hG.2.2.1.1 hC.2.2.1 ((xs (i + 1))) ((xs (i + 2)))) (by decide) rfl rfl rfl rfl (Nat.le_of_ble_eq_true rfl) ⟨by decide, by decide⟩ dL_law_456 (fun r_1 ad_1 s_1 h_1 => ?_)
  obtain ⟨rfl, rfl, hs1, g1⟩ := h_1
  refine r_st (st' := [.int (cordR T Fc ((xs (i + 1))) ((xs (i + 2))))]) rfl ?_
  have hC1 := CR_cord hC hs1 g1
  have hM1 := MR_c hM (cS_of hs1 (by decide) (by decide) (by decide))
  refine r_aload_n K 2 rfl rfl dL_law_459 ?_
  refine r_aload_n K 0 rfl rfl dL_law_460 ?_
  refine r_iload_n K 3 rfl rfl dL_law_461 ?_
  refine r_iconst K ((nI (1))) (by decide) dL_law_462 ?_
  refine r_iadd K dL_law_463 ?_
  refine r_topi (nI_add _ _) ?_
  refine r_sld K hX (i := i + 1) (by omega) dL_law_464 ?_
  refine r_aload_n K 0 rfl rfl dL_law_465 ?_
  refine r_iload_n K 3 rfl rfl dL_law_466 ?_
  refine r_iconst K ((nI (2))) (by decide) dL_law_467 ?_
  refine r_iadd K dL_law_468 ?_
  refine r_topi (nI_add _ _) ?_
  refine r_sld K hX (i := i + 2) (by omega) dL_law_469 ?_
  refine r_callV K 71 (As := [.int (xs (i + 1)), .int (xs (i + 2))]) (rest := [.int (cordR T Fc ((xs (i + 1))) ((xs (i + 2))))]) mv_X7_cord ml_RL_59 (m_cord hG.1 hM1.1 hG.2.2.1.2.1 hM1.2.2.1 ((xs (i + 1))) ((xs (i + 2)))) (by decide) rfl rfl rfl rfl (Nat.le_of_ble_eq_true rfl) ⟨by decide, by decide⟩ dL_law_470 (fun r_2 ad_2 s_2 h_2 => ?_)
  obtain ⟨rfl, rfl, hs2, g2⟩ := h_2
  refine r_st (st' := [.int (cordR T Fm ((xs (i + 1))) ((xs (i + 2)))), .int (cordR T Fc ((xs (i + 1))) ((xs (i + 2))))]) rfl ?_
  have hM2 := MR_now hM1 hs2 g2
  have hC2 := CR_m hC1 (mS_of hs2 (by decide) (by decide) (by decide))
  refine r_icmp_eq K 1037 dL_law_473 (by decide) (fun _ => ?_) (fun z => absurd (cordR_rel hG.2.2.1.2.2 ((xs (i + 1))) ((xs (i + 2)))) z)
  exact k _ _ ⟨_, _, _, _, _, _, _, _, _, ⟨hG.1, hG.2.1, KOk_cord hG.2.2.1 ((xs (i + 1))) ((xs (i + 2))), hG.2.2.2⟩, hC2, hM2⟩
set_option maxHeartbeats 1000000 in
set_option maxRecDepth 10000 in
/-- the law at go -/
theorem law_10 {g : Gp} {x : Cx} {b L i : Nat} {xs : Nat → Int32} {ad : Nat → Nat} {σ : Sg} (K : Ok g x cL_law RL 4 2048 84000) (hX : ScrX g x b L xs) (hi : i + 5 ≤ L) (hv : Inv σ) (k : ∀ (a2 : Nat → Nat) (s2 : Sg), Inv s2 → GJ g x 4 1037 [(0, .ref (b)), (1, .ref (a2 61)), (2, .ref (a2 71)), (3, .int (nI (i)))] [] a2 s2) : GJ g x 4 478 [(0, .ref (b)), (1, .ref (ad 61)), (2, .ref (ad 71)), (3, .int (nI (i)))] [] ad σ := by
  obtain ⟨T, X, Fc, Fm, C0, C1, M0, M1, kf, hG, hC, hM⟩ := id hv
  have hL := hX.2.2.2
  refine r_aload_n K 1 rfl rfl dL_law_478 ?_
  refine r_aload_n K 0 rfl rfl dL_law_479 ?_
  refine r_iload_n K 3 rfl rfl dL_law_480 ?_
  refine r_iconst K ((nI (1))) (by decide) dL_law_481 ?_
  refine r_iadd K dL_law_482 ?_
  refine r_topi (nI_add _ _) ?_
  refine r_sld K hX (i := i + 1) (by omega) dL_law_483 ?_
  refine r_callV K 61 (As := [.int (xs (i + 1))]) (rest := []) mv_X6_go ml_RL_60 (c_go hG.1 hC.1 hG.2.2.1.1 hC.2.2.1 ((xs (i + 1)))) (by decide) rfl rfl rfl rfl (Nat.le_of_ble_eq_true rfl) ⟨by decide, by decide⟩ dL_law_484 (fun r_1 ad_1 s_1 h_1 => ?_)
  obtain ⟨rfl, rfl, hs1, g1⟩ := h_1
  refine r_st (st' := [.int (goR Fc ((xs (i + 1))))]) rfl ?_
  have hC1 := CR_go hC hs1 g1
  have hM1 := MR_c hM (cS_of hs1 (by decide) (by decide) (by decide))
  refine r_aload_n K 2 rfl rfl dL_law_487 ?_
  refine r_aload_n K 0 rfl rfl dL_law_488 ?_
  refine r_iload_n K 3 rfl rfl dL_law_489 ?_
  refine r_iconst K ((nI (1))) (by decide) dL_law_490 ?_
  refine r_iadd K dL_law_491 ?_
  refine r_topi (nI_add _ _) ?_
  refine r_sld K hX (i := i + 1) (by omega) dL_law_492 ?_
  refine r_callV K 71 (As := [.int (xs (i + 1))]) (rest := [.int (goR Fc ((xs (i + 1))))]) mv_X7_go ml_RL_64 (m_go hG.1 hM1.1 hG.2.2.1.2.1 hM1.2.2.1 ((xs (i + 1)))) (by decide) rfl rfl rfl rfl (Nat.le_of_ble_eq_true rfl) ⟨by decide, by decide⟩ dL_law_493 (fun r_2 ad_2 s_2 h_2 => ?_)
  obtain ⟨rfl, rfl, hs2, g2⟩ := h_2
  refine r_st (st' := [.int (goR Fm ((xs (i + 1)))), .int (goR Fc ((xs (i + 1))))]) rfl ?_
  have hM2 := MR_now hM1 hs2 g2
  have hC2 := CR_m hC1 (mS_of hs2 (by decide) (by decide) (by decide))
  refine r_icmp_eq K 1037 dL_law_496 (by decide) (fun _ => ?_) (fun z => absurd (goR_rel hG.2.2.1.2.2 ((xs (i + 1)))) z)
  exact k _ _ ⟨_, _, _, _, _, _, _, _, _, ⟨hG.1, hG.2.1, KOk_go hG.1 hG.2.2.1 ((xs (i + 1))), hG.2.2.2⟩, hC2, hM2⟩
set_option maxHeartbeats 1000000 in
set_option maxRecDepth 10000 in
/-- the law at at -/
theorem law_11 {g : Gp} {x : Cx} {b L i : Nat} {xs : Nat → Int32} {ad : Nat → Nat} {σ : Sg} (K : Ok g x cL_law RL 4 2048 84000) (hX : ScrX g x b L xs) (hi : i + 5 ≤ L) (hv : Inv σ) (k : ∀ (a2 : Nat → Nat) (s2 : Sg), Inv s2 → GJ g x 4 1037 [(0, .ref (b)), (1, .ref (a2 61)), (2, .ref (a2 71)), (3, .int (nI (i)))] [] a2 s2) : GJ g x 4 501 [(0, .ref (b)), (1, .ref (ad 61)), (2, .ref (ad 71)), (3, .int (nI (i)))] [] ad σ := by
  obtain ⟨T, X, Fc, Fm, C0, C1, M0, M1, kf, hG, hC, hM⟩ := id hv
  have hL := hX.2.2.2
  refine r_aload_n K 1 rfl rfl dL_law_501 ?_
  refine r_aload_n K 0 rfl rfl dL_law_502 ?_
  refine r_iload_n K 3 rfl rfl dL_law_503 ?_
  refine r_iconst K ((nI (1))) (by decide) dL_law_504 ?_
  refine r_iadd K dL_law_505 ?_
  refine r_topi (nI_add _ _) ?_
  refine r_sld K hX (i := i + 1) (by omega) dL_law_506 ?_
  refine r_aload_n K 0 rfl rfl dL_law_507 ?_
  refine r_iload_n K 3 rfl rfl dL_law_508 ?_
  refine r_iconst K ((nI (2))) (by decide) dL_law_509 ?_
  refine r_iadd K dL_law_510 ?_
  refine r_topi (nI_add _ _) ?_
  refine r_sld K hX (i := i + 2) (by omega) dL_law_511 ?_
  refine r_callVp K 61 (As := [.int (xs (i + 1)), .int (xs (i + 2))]) mv_X6_at ml_RL_65 (c_at hG.1 hC.1 hG.2.2.1.1 hC.2.2.1 ((xs (i + 1))) ((xs (i + 2)))) (by decide) rfl rfl rfl rfl (Nat.le_of_ble_eq_true rfl) ⟨by decide, by decide⟩ dL_law_512 ?_
  refine r_aload_n K 2 rfl rfl dL_law_515 ?_
  refine r_aload_n K 0 rfl rfl dL_law_516 ?_
  refine r_iload_n K 3 rfl rfl dL_law_517 ?_
  refine r_iconst K ((nI (1))) (by decide) dL_law_518 ?_
  refine r_iadd K dL_law_519 ?_
  refine r_topi (nI_add _ _) ?_
  refine r_sld K hX (i := i + 1) (by omega) dL_law_520 ?_
  refine r_aload_n K 0 rfl rfl dL_law_521 ?_
  refine r_iload_n K 3 rfl rfl dL_law_522 ?_
  refine r_iconst K ((nI (2))) (by decide) dL_law_523 ?_
  refine r_iadd K dL_law_524 ?_
  refine r_topi (nI_add _ _) ?_
  refine r_sld K hX (i := i + 2) (by omega) dL_law_525 ?_
  refine r_callVp K 71 (As := [.int (xs (i + 1)), .int (xs (i + 2))]) mv_X7_at ml_RL_68 (m_at hG.1 hM.1 hG.2.2.1.2.1 hM.2.2.1 ((xs (i + 1))) ((xs (i + 2)))) (by decide) rfl rfl rfl rfl (Nat.le_of_ble_eq_true rfl) ⟨by decide, by decide⟩ dL_law_526 ?_
  refine r_icmp_eq K 1037 dL_law_529 (by decide) (fun _ => ?_) (fun z => absurd ((at_rel hG.2.2.1.2.2 ((xs (i + 1))) ((xs (i + 2))))) z)
  exact k _ _ hv
set_option maxHeartbeats 1000000 in
set_option maxRecDepth 10000 in
/-- the law at knots -/
theorem law_12 {g : Gp} {x : Cx} {b L i : Nat} {xs : Nat → Int32} {ad : Nat → Nat} {σ : Sg} (K : Ok g x cL_law RL 4 2048 84000) (hX : ScrX g x b L xs) (hi : i + 5 ≤ L) (hv : Inv σ) (k : ∀ (a2 : Nat → Nat) (s2 : Sg), Inv s2 → GJ g x 4 1037 [(0, .ref (b)), (1, .ref (a2 61)), (2, .ref (a2 71)), (3, .int (nI (i)))] [] a2 s2) : GJ g x 4 534 [(0, .ref (b)), (1, .ref (ad 61)), (2, .ref (ad 71)), (3, .int (nI (i)))] [] ad σ := by
  obtain ⟨T, X, Fc, Fm, C0, C1, M0, M1, kf, hG, hC, hM⟩ := id hv
  have hL := hX.2.2.2
  refine r_aload_n K 1 rfl rfl dL_law_534 ?_
  refine r_aload_n K 0 rfl rfl dL_law_535 ?_
  refine r_iload_n K 3 rfl rfl dL_law_536 ?_
  refine r_iconst K ((nI (1))) (by decide) dL_law_537 ?_
  refine r_iadd K dL_law_538 ?_
  refine r_topi (nI_add _ _) ?_
  refine r_sld K hX (i := i + 1) (by omega) dL_law_539 ?_
  refine r_callVp K 61 (As := [.int (xs (i + 1))]) mv_X6_knots ml_RL_69 (c_knots hG.1 hC.1 hG.2.2.1.1 hC.2.2.1 ((xs (i + 1)))) (by decide) rfl rfl rfl rfl (Nat.le_of_ble_eq_true rfl) ⟨by decide, by decide⟩ dL_law_540 ?_
  refine r_aload_n K 2 rfl rfl dL_law_543 ?_
  refine r_aload_n K 0 rfl rfl dL_law_544 ?_
  refine r_iload_n K 3 rfl rfl dL_law_545 ?_
  refine r_iconst K ((nI (1))) (by decide) dL_law_546 ?_
  refine r_iadd K dL_law_547 ?_
  refine r_topi (nI_add _ _) ?_
  refine r_sld K hX (i := i + 1) (by omega) dL_law_548 ?_
  refine r_callVp K 71 (As := [.int (xs (i + 1))]) mv_X7_knots ml_RL_72 (m_knots hG.1 hM.1 hG.2.2.1.2.1 hM.2.2.1 ((xs (i + 1)))) (by decide) rfl rfl rfl rfl (Nat.le_of_ble_eq_true rfl) ⟨by decide, by decide⟩ dL_law_549 ?_
  refine r_icmp_eq K 1037 dL_law_552 (by decide) (fun _ => ?_) (fun z => absurd ((kn_rel hG.2.2.1.2.2 ((xs (i + 1))))) z)
  exact k _ _ hv
set_option maxHeartbeats 1000000 in
set_option maxRecDepth 10000 in
/-- the law at keep -/
theorem law_13 {g : Gp} {x : Cx} {b L i : Nat} {xs : Nat → Int32} {ad : Nat → Nat} {σ : Sg} (K : Ok g x cL_law RL 4 2048 84000) (hX : ScrX g x b L xs) (hi : i + 5 ≤ L) (hv : Inv σ) (k : ∀ (a2 : Nat → Nat) (s2 : Sg), Inv s2 → GJ g x 4 1037 [(0, .ref (b)), (1, .ref (a2 61)), (2, .ref (a2 71)), (3, .int (nI (i)))] [] a2 s2) : GJ g x 4 557 [(0, .ref (b)), (1, .ref (ad 61)), (2, .ref (ad 71)), (3, .int (nI (i)))] [] ad σ := by
  obtain ⟨T, X, Fc, Fm, C0, C1, M0, M1, kf, hG, hC, hM⟩ := id hv
  have hL := hX.2.2.2
  refine r_aload_n K 1 rfl rfl dL_law_557 ?_
  refine r_aload_n K 0 rfl rfl dL_law_558 ?_
  refine r_iload_n K 3 rfl rfl dL_law_559 ?_
  refine r_iconst K ((nI (1))) (by decide) dL_law_560 ?_
  refine r_iadd K dL_law_561 ?_
  refine r_topi (nI_add _ _) ?_
  refine r_sld K hX (i := i + 1) (by omega) dL_law_562 ?_
  refine r_callV K 61 (As := [.int (xs (i + 1))]) (rest := []) mv_X6_keep ml_RL_73 (c_keep hC.2.2.1 hC.2.2.2.1 hC.2.2.2.2.1 hC.2.2.2.2.2.1 ((xs (i + 1)))) (by decide) rfl rfl rfl rfl (Nat.le_of_ble_eq_true rfl) ⟨by decide, by decide⟩ dL_law_563 (fun r_1 ad_1 s_1 h_1 => ?_)
  obtain ⟨rfl, rfl, hs1, g1, g2, g3⟩ := h_1
  refine r_st (st' := [.int (keepR Fc ((xs (i + 1))))]) rfl ?_
  have hC1 := CR_keep hC hs1 g1 g2 g3
  have hM1 := MR_c hM (cS_of hs1 (by decide) (by decide) (by decide))
  refine r_aload_n K 2 rfl rfl dL_law_566 ?_
  refine r_aload_n K 0 rfl rfl dL_law_567 ?_
  refine r_iload_n K 3 rfl rfl dL_law_568 ?_
  refine r_iconst K ((nI (1))) (by decide) dL_law_569 ?_
  refine r_iadd K dL_law_570 ?_
  refine r_topi (nI_add _ _) ?_
  refine r_sld K hX (i := i + 1) (by omega) dL_law_571 ?_
  refine r_callV K 71 (As := [.int (xs (i + 1))]) (rest := [.int (keepR Fc ((xs (i + 1))))]) mv_X7_keep ml_RL_76 (m_keep hM1.2.2.1 hM1.2.2.2.1 hM1.2.2.2.2.1 hM1.2.2.2.2.2 ((xs (i + 1)))) (by decide) rfl rfl rfl rfl (Nat.le_of_ble_eq_true rfl) ⟨by decide, by decide⟩ dL_law_572 (fun r_2 ad_2 s_2 h_2 => ?_)
  obtain ⟨rfl, rfl, hs2, m1, m2, m3⟩ := h_2
  refine r_st (st' := [.int (keepR Fm ((xs (i + 1)))), .int (keepR Fc ((xs (i + 1))))]) rfl ?_
  have hM2 := MR_keep hM1 hs2 m1 m2 m3
  have hC2 := CR_m hC1 (mS_of hs2 (by decide) (by decide) (by decide))
  refine r_icmp_eq K 1037 dL_law_575 (by decide) (fun _ => ?_) (fun z => absurd (keepR_rel hG.2.2.1.2.2 ((xs (i + 1)))) z)
  exact k _ _ ⟨_, _, _, _, _, _, _, _, _, ⟨hG.1, hG.2.1, hG.2.2.1, keepB_le hG.2.2.2.1 ((xs (i + 1))), KOk_keep hG.2.2.1 hG.2.2.2.2.1 ((xs (i + 1))), KOk_keep hG.2.2.1 hG.2.2.2.2.2 ((xs (i + 1)))⟩, hC2, hM2⟩
set_option maxHeartbeats 1000000 in
set_option maxRecDepth 10000 in
/-- the law at back -/
theorem law_14 {g : Gp} {x : Cx} {b L i : Nat} {xs : Nat → Int32} {ad : Nat → Nat} {σ : Sg} (K : Ok g x cL_law RL 4 2048 84000) (hX : ScrX g x b L xs) (hi : i + 5 ≤ L) (hv : Inv σ) (k : ∀ (a2 : Nat → Nat) (s2 : Sg), Inv s2 → GJ g x 4 1037 [(0, .ref (b)), (1, .ref (a2 61)), (2, .ref (a2 71)), (3, .int (nI (i)))] [] a2 s2) : GJ g x 4 580 [(0, .ref (b)), (1, .ref (ad 61)), (2, .ref (ad 71)), (3, .int (nI (i)))] [] ad σ := by
  obtain ⟨T, X, Fc, Fm, C0, C1, M0, M1, kf, hG, hC, hM⟩ := id hv
  have hL := hX.2.2.2
  refine r_aload_n K 1 rfl rfl dL_law_580 ?_
  refine r_aload_n K 0 rfl rfl dL_law_581 ?_
  refine r_iload_n K 3 rfl rfl dL_law_582 ?_
  refine r_iconst K ((nI (1))) (by decide) dL_law_583 ?_
  refine r_iadd K dL_law_584 ?_
  refine r_topi (nI_add _ _) ?_
  refine r_sld K hX (i := i + 1) (by omega) dL_law_585 ?_
  refine r_callV K 61 (As := [.int (xs (i + 1))]) (rest := []) mv_X6_back ml_RL_77 (c_back hC.2.2.1 hC.2.2.2.1 hC.2.2.2.2.1 hC.2.2.2.2.2.1 hG.2.2.2.1 ((xs (i + 1)))) (by decide) rfl rfl rfl rfl (Nat.le_of_ble_eq_true rfl) ⟨by decide, by decide⟩ dL_law_586 (fun r_1 ad_1 s_1 h_1 => ?_)
  obtain ⟨rfl, rfl, hs1, g1⟩ := h_1
  refine r_st (st' := [.int (backR C0 C1 kf ((xs (i + 1))))]) rfl ?_
  have hC1 := CR_back hC hs1 g1
  have hM1 := MR_c hM (cS_of hs1 (by decide) (by decide) (by decide))
  refine r_aload_n K 2 rfl rfl dL_law_589 ?_
  refine r_aload_n K 0 rfl rfl dL_law_590 ?_
  refine r_iload_n K 3 rfl rfl dL_law_591 ?_
  refine r_iconst K ((nI (1))) (by decide) dL_law_592 ?_
  refine r_iadd K dL_law_593 ?_
  refine r_topi (nI_add _ _) ?_
  refine r_sld K hX (i := i + 1) (by omega) dL_law_594 ?_
  refine r_callV K 71 (As := [.int (xs (i + 1))]) (rest := [.int (backR C0 C1 kf ((xs (i + 1))))]) mv_X7_back ml_RL_80 (m_back hM1.2.2.1 hM1.2.2.2.1 hM1.2.2.2.2.1 hM1.2.2.2.2.2 hG.2.2.2.1 ((xs (i + 1)))) (by decide) rfl rfl rfl rfl (Nat.le_of_ble_eq_true rfl) ⟨by decide, by decide⟩ dL_law_595 (fun r_2 ad_2 s_2 h_2 => ?_)
  obtain ⟨rfl, rfl, hs2, g2⟩ := h_2
  refine r_st (st' := [.int (backR M0 M1 kf ((xs (i + 1)))), .int (backR C0 C1 kf ((xs (i + 1))))]) rfl ?_
  have hM2 := MR_now hM1 hs2 g2
  have hC2 := CR_m hC1 (mS_of hs2 (by decide) (by decide) (by decide))
  refine r_icmp_eq K 1037 dL_law_598 (by decide) (fun _ => ?_) (fun z => absurd (backR_rel hG.2.2.2.2.1 hG.2.2.2.2.2 ((xs (i + 1)))) z)
  exact k _ _ ⟨_, _, _, _, _, _, _, _, _, ⟨hG.1, hG.2.1, KOk_back hG.2.2.1 hG.2.2.2.2.1 hG.2.2.2.2.2 ((xs (i + 1))), hG.2.2.2⟩, hC2, hM2⟩
set_option maxHeartbeats 1000000 in
set_option maxRecDepth 10000 in
/-- the law at soonest -/
theorem law_15 {g : Gp} {x : Cx} {b L i : Nat} {xs : Nat → Int32} {ad : Nat → Nat} {σ : Sg} (K : Ok g x cL_law RL 4 2048 84000) (hX : ScrX g x b L xs) (hi : i + 5 ≤ L) (hv : Inv σ) (k : ∀ (a2 : Nat → Nat) (s2 : Sg), Inv s2 → GJ g x 4 1037 [(0, .ref (b)), (1, .ref (a2 61)), (2, .ref (a2 71)), (3, .int (nI (i)))] [] a2 s2) : GJ g x 4 603 [(0, .ref (b)), (1, .ref (ad 61)), (2, .ref (ad 71)), (3, .int (nI (i)))] [] ad σ := by
  obtain ⟨T, X, Fc, Fm, C0, C1, M0, M1, kf, hG, hC, hM⟩ := id hv
  have hL := hX.2.2.2
  refine r_aload_n K 1 rfl rfl dL_law_603 ?_
  refine r_aload_n K 0 rfl rfl dL_law_604 ?_
  refine r_iload_n K 3 rfl rfl dL_law_605 ?_
  refine r_iconst K ((nI (1))) (by decide) dL_law_606 ?_
  refine r_iadd K dL_law_607 ?_
  refine r_topi (nI_add _ _) ?_
  refine r_sld K hX (i := i + 1) (by omega) dL_law_608 ?_
  refine r_aload_n K 0 rfl rfl dL_law_609 ?_
  refine r_iload_n K 3 rfl rfl dL_law_610 ?_
  refine r_iconst K ((nI (2))) (by decide) dL_law_611 ?_
  refine r_iadd K dL_law_612 ?_
  refine r_topi (nI_add _ _) ?_
  refine r_sld K hX (i := i + 2) (by omega) dL_law_613 ?_
  refine r_aload_n K 0 rfl rfl dL_law_614 ?_
  refine r_iload_n K 3 rfl rfl dL_law_615 ?_
  refine r_iconst K ((nI (3))) (by decide) dL_law_616 ?_
  refine r_iadd K dL_law_617 ?_
  refine r_topi (nI_add _ _) ?_
  refine r_sld K hX (i := i + 3) (by omega) dL_law_618 ?_
  refine r_callV K 61 (As := [.int (xs (i + 1)), .int (xs (i + 2)), .int (xs (i + 3))]) (rest := []) mv_X6_soonest ml_RL_81 (c_soonest hG.1 hC.1 hC.2.2.2.2.2.2.2 ((xs (i + 1))) ((xs (i + 2))) ((xs (i + 3)))) (by decide) rfl rfl rfl rfl (Nat.le_of_ble_eq_true rfl) ⟨by decide, by decide⟩ dL_law_619 (fun r_1 ad_1 s_1 h_1 => ?_)
  obtain ⟨rfl, ha1, hs1, g1⟩ := h_1
  refine r_lv (lv' := [(0, .ref (b)), (1, .ref (ad_1 61)), (2, .ref (ad_1 71)), (3, .int (nI (i)))]) (by rw [ha1 61 (by decide), ha1 71 (by decide)]) ?_
  refine r_st (st' := [.int (soS T ((xs (i + 1))) ((xs (i + 2))) ((xs (i + 3))))]) rfl ?_
  have hC1 := CR_plan hC (cE_p hs1) g1
  have hM1 := MR_c hM (cS_of (cE_p hs1) (by decide) (by decide) (by decide))
  refine r_aload_n K 2 rfl rfl dL_law_622 ?_
  refine r_aload_n K 0 rfl rfl dL_law_623 ?_
  refine r_iload_n K 3 rfl rfl dL_law_624 ?_
  refine r_iconst K ((nI (1))) (by decide) dL_law_625 ?_
  refine r_iadd K dL_law_626 ?_
  refine r_topi (nI_add _ _) ?_
  refine r_sld K hX (i := i + 1) (by omega) dL_law_627 ?_
  refine r_aload_n K 0 rfl rfl dL_law_628 ?_
  refine r_iload_n K 3 rfl rfl dL_law_629 ?_
  refine r_iconst K ((nI (2))) (by decide) dL_law_630 ?_
  refine r_iadd K dL_law_631 ?_
  refine r_topi (nI_add _ _) ?_
  refine r_sld K hX (i := i + 2) (by omega) dL_law_632 ?_
  refine r_aload_n K 0 rfl rfl dL_law_633 ?_
  refine r_iload_n K 3 rfl rfl dL_law_634 ?_
  refine r_iconst K ((nI (3))) (by decide) dL_law_635 ?_
  refine r_iadd K dL_law_636 ?_
  refine r_topi (nI_add _ _) ?_
  refine r_sld K hX (i := i + 3) (by omega) dL_law_637 ?_
  refine r_callV K 71 (As := [.int (xs (i + 1)), .int (xs (i + 2)), .int (xs (i + 3))]) (rest := [.int (soS T ((xs (i + 1))) ((xs (i + 2))) ((xs (i + 3))))]) mv_X7_soonest ml_RL_84 (m_soonest hG.1 hM1.1 ((xs (i + 1))) ((xs (i + 2))) ((xs (i + 3)))) (by decide) rfl rfl rfl rfl (Nat.le_of_ble_eq_true rfl) ⟨by decide, by decide⟩ dL_law_638 (fun r_2 ad_2 s_2 h_2 => ?_)
  obtain ⟨rfl, rfl, hs2⟩ := h_2
  refine r_st (st' := [.int (soS T ((xs (i + 1))) ((xs (i + 2))) ((xs (i + 3)))), .int (soS T ((xs (i + 1))) ((xs (i + 2))) ((xs (i + 3))))]) rfl ?_
  have hM2 := MR_plan hM1 (mlF_E hs2)
  have hC2 := CR_m hC1 (mS_of hs2 (by decide) (by decide) (by decide))
  refine r_icmp_eq K 1037 dL_law_641 (by decide) (fun _ => ?_) (fun z => absurd (rfl) z)
  exact k _ _ ⟨_, _, _, _, _, _, _, _, _, hG, hC2, hM2⟩
set_option maxHeartbeats 1000000 in
set_option maxRecDepth 10000 in
/-- the law at clear -/
theorem law_16 {g : Gp} {x : Cx} {b L i : Nat} {xs : Nat → Int32} {ad : Nat → Nat} {σ : Sg} (K : Ok g x cL_law RL 4 2048 84000) (hX : ScrX g x b L xs) (hi : i + 5 ≤ L) (hv : Inv σ) (k : ∀ (a2 : Nat → Nat) (s2 : Sg), Inv s2 → GJ g x 4 1037 [(0, .ref (b)), (1, .ref (a2 61)), (2, .ref (a2 71)), (3, .int (nI (i)))] [] a2 s2) : GJ g x 4 646 [(0, .ref (b)), (1, .ref (ad 61)), (2, .ref (ad 71)), (3, .int (nI (i)))] [] ad σ := by
  obtain ⟨T, X, Fc, Fm, C0, C1, M0, M1, kf, hG, hC, hM⟩ := id hv
  have hL := hX.2.2.2
  refine r_aload_n K 1 rfl rfl dL_law_646 ?_
  refine r_aload_n K 0 rfl rfl dL_law_647 ?_
  refine r_iload_n K 3 rfl rfl dL_law_648 ?_
  refine r_iconst K ((nI (1))) (by decide) dL_law_649 ?_
  refine r_iadd K dL_law_650 ?_
  refine r_topi (nI_add _ _) ?_
  refine r_sld K hX (i := i + 1) (by omega) dL_law_651 ?_
  refine r_aload_n K 0 rfl rfl dL_law_652 ?_
  refine r_iload_n K 3 rfl rfl dL_law_653 ?_
  refine r_iconst K ((nI (2))) (by decide) dL_law_654 ?_
  refine r_iadd K dL_law_655 ?_
  refine r_topi (nI_add _ _) ?_
  refine r_sld K hX (i := i + 2) (by omega) dL_law_656 ?_
  refine r_aload_n K 0 rfl rfl dL_law_657 ?_
  refine r_iload_n K 3 rfl rfl dL_law_658 ?_
  refine r_iconst K ((nI (3))) (by decide) dL_law_659 ?_
  refine r_iadd K dL_law_660 ?_
  refine r_topi (nI_add _ _) ?_
  refine r_sld K hX (i := i + 3) (by omega) dL_law_661 ?_
  refine r_callV K 61 (As := [.int (xs (i + 1)), .int (xs (i + 2)), .int (xs (i + 3))]) (rest := []) mv_X6_clear ml_RL_85 (c_clear hG.1 hC.1 hC.2.2.2.2.2.2.2 ((xs (i + 1))) ((xs (i + 2))) ((xs (i + 3)))) (by decide) rfl rfl rfl rfl (Nat.le_of_ble_eq_true rfl) ⟨by decide, by decide⟩ dL_law_662 (fun r_1 ad_1 s_1 h_1 => ?_)
  obtain ⟨rfl, ha1, hs1, g1⟩ := h_1
  refine r_lv (lv' := [(0, .ref (b)), (1, .ref (ad_1 61)), (2, .ref (ad_1 71)), (3, .int (nI (i)))]) (by rw [ha1 61 (by decide), ha1 71 (by decide)]) ?_
  refine r_st (st' := [.int (clS T ((xs (i + 1))) ((xs (i + 2))) ((xs (i + 3))))]) rfl ?_
  have hC1 := CR_plan hC (cE_p hs1) g1
  have hM1 := MR_c hM (cS_of (cE_p hs1) (by decide) (by decide) (by decide))
  refine r_aload_n K 2 rfl rfl dL_law_665 ?_
  refine r_aload_n K 0 rfl rfl dL_law_666 ?_
  refine r_iload_n K 3 rfl rfl dL_law_667 ?_
  refine r_iconst K ((nI (1))) (by decide) dL_law_668 ?_
  refine r_iadd K dL_law_669 ?_
  refine r_topi (nI_add _ _) ?_
  refine r_sld K hX (i := i + 1) (by omega) dL_law_670 ?_
  refine r_aload_n K 0 rfl rfl dL_law_671 ?_
  refine r_iload_n K 3 rfl rfl dL_law_672 ?_
  refine r_iconst K ((nI (2))) (by decide) dL_law_673 ?_
  refine r_iadd K dL_law_674 ?_
  refine r_topi (nI_add _ _) ?_
  refine r_sld K hX (i := i + 2) (by omega) dL_law_675 ?_
  refine r_aload_n K 0 rfl rfl dL_law_676 ?_
  refine r_iload_n K 3 rfl rfl dL_law_677 ?_
  refine r_iconst K ((nI (3))) (by decide) dL_law_678 ?_
  refine r_iadd K dL_law_679 ?_
  refine r_topi (nI_add _ _) ?_
  refine r_sld K hX (i := i + 3) (by omega) dL_law_680 ?_
  refine r_callV K 71 (As := [.int (xs (i + 1)), .int (xs (i + 2)), .int (xs (i + 3))]) (rest := [.int (clS T ((xs (i + 1))) ((xs (i + 2))) ((xs (i + 3))))]) mv_X7_clear ml_RL_88 (m_clear hG.1 hM1.1 ((xs (i + 1))) ((xs (i + 2))) ((xs (i + 3)))) (by decide) rfl rfl rfl rfl (Nat.le_of_ble_eq_true rfl) ⟨by decide, by decide⟩ dL_law_681 (fun r_2 ad_2 s_2 h_2 => ?_)
  obtain ⟨rfl, rfl, hs2⟩ := h_2
  refine r_st (st' := [.int (clS T ((xs (i + 1))) ((xs (i + 2))) ((xs (i + 3)))), .int (clS T ((xs (i + 1))) ((xs (i + 2))) ((xs (i + 3))))]) rfl ?_
  have hM2 := MR_plan hM1 (mlF_E hs2)
  have hC2 := CR_m hC1 (mS_of hs2 (by decide) (by decide) (by decide))
  refine r_icmp_eq K 1037 dL_law_684 (by decide) (fun _ => ?_) (fun z => absurd (rfl) z)
  exact k _ _ ⟨_, _, _, _, _, _, _, _, _, hG, hC2, hM2⟩
set_option maxHeartbeats 1000000 in
set_option maxRecDepth 10000 in
/-- the law at odds -/
theorem law_17 {g : Gp} {x : Cx} {b L i : Nat} {xs : Nat → Int32} {ad : Nat → Nat} {σ : Sg} (K : Ok g x cL_law RL 4 2048 84000) (hX : ScrX g x b L xs) (hi : i + 5 ≤ L) (hv : Inv σ) (k : ∀ (a2 : Nat → Nat) (s2 : Sg), Inv s2 → GJ g x 4 1037 [(0, .ref (b)), (1, .ref (a2 61)), (2, .ref (a2 71)), (3, .int (nI (i)))] [] a2 s2) : GJ g x 4 689 [(0, .ref (b)), (1, .ref (ad 61)), (2, .ref (ad 71)), (3, .int (nI (i)))] [] ad σ := by
  obtain ⟨T, X, Fc, Fm, C0, C1, M0, M1, kf, hG, hC, hM⟩ := id hv
  have hL := hX.2.2.2
  refine r_aload_n K 1 rfl rfl dL_law_689 ?_
  refine r_aload_n K 0 rfl rfl dL_law_690 ?_
  refine r_iload_n K 3 rfl rfl dL_law_691 ?_
  refine r_iconst K ((nI (1))) (by decide) dL_law_692 ?_
  refine r_iadd K dL_law_693 ?_
  refine r_topi (nI_add _ _) ?_
  refine r_sld K hX (i := i + 1) (by omega) dL_law_694 ?_
  refine r_aload_n K 0 rfl rfl dL_law_695 ?_
  refine r_iload_n K 3 rfl rfl dL_law_696 ?_
  refine r_iconst K ((nI (2))) (by decide) dL_law_697 ?_
  refine r_iadd K dL_law_698 ?_
  refine r_topi (nI_add _ _) ?_
  refine r_sld K hX (i := i + 2) (by omega) dL_law_699 ?_
  refine r_aload_n K 0 rfl rfl dL_law_700 ?_
  refine r_iload_n K 3 rfl rfl dL_law_701 ?_
  refine r_iconst K ((nI (3))) (by decide) dL_law_702 ?_
  refine r_iadd K dL_law_703 ?_
  refine r_topi (nI_add _ _) ?_
  refine r_sld K hX (i := i + 3) (by omega) dL_law_704 ?_
  refine r_aload_n K 0 rfl rfl dL_law_705 ?_
  refine r_iload_n K 3 rfl rfl dL_law_706 ?_
  refine r_iconst K ((nI (4))) (by decide) dL_law_707 ?_
  refine r_iadd K dL_law_708 ?_
  refine r_topi (nI_add _ _) ?_
  refine r_sld K hX (i := i + 4) (by omega) dL_law_709 ?_
  refine r_callV K 61 (As := [.int (xs (i + 1)), .int (xs (i + 2)), .int (xs (i + 3)), .int (xs (i + 4))]) (rest := []) mv_X6_odds ml_RL_89 (c_odds hG.1 hC.1 hC.2.2.2.2.2.2.2 ((xs (i + 1))) ((xs (i + 2))) ((xs (i + 3))) ((xs (i + 4)))) (by decide) rfl rfl rfl rfl (Nat.le_of_ble_eq_true rfl) ⟨by decide, by decide⟩ dL_law_710 (fun r_1 ad_1 s_1 h_1 => ?_)
  obtain ⟨rfl, ha1, hs1, g1⟩ := h_1
  refine r_lv (lv' := [(0, .ref (b)), (1, .ref (ad_1 61)), (2, .ref (ad_1 71)), (3, .int (nI (i)))]) (by rw [ha1 61 (by decide), ha1 71 (by decide)]) ?_
  refine r_st (st' := [.long (odS T ((xs (i + 1))) ((xs (i + 2))) ((xs (i + 3))) ((xs (i + 4))))]) rfl ?_
  have hC1 := CR_plan hC hs1 g1
  have hM1 := MR_c hM (cS_of (hs1) (by decide) (by decide) (by decide))
  refine r_aload_n K 2 rfl rfl dL_law_713 ?_
  refine r_aload_n K 0 rfl rfl dL_law_714 ?_
  refine r_iload_n K 3 rfl rfl dL_law_715 ?_
  refine r_iconst K ((nI (1))) (by decide) dL_law_716 ?_
  refine r_iadd K dL_law_717 ?_
  refine r_topi (nI_add _ _) ?_
  refine r_sld K hX (i := i + 1) (by omega) dL_law_718 ?_
  refine r_aload_n K 0 rfl rfl dL_law_719 ?_
  refine r_iload_n K 3 rfl rfl dL_law_720 ?_
  refine r_iconst K ((nI (2))) (by decide) dL_law_721 ?_
  refine r_iadd K dL_law_722 ?_
  refine r_topi (nI_add _ _) ?_
  refine r_sld K hX (i := i + 2) (by omega) dL_law_723 ?_
  refine r_aload_n K 0 rfl rfl dL_law_724 ?_
  refine r_iload_n K 3 rfl rfl dL_law_725 ?_
  refine r_iconst K ((nI (3))) (by decide) dL_law_726 ?_
  refine r_iadd K dL_law_727 ?_
  refine r_topi (nI_add _ _) ?_
  refine r_sld K hX (i := i + 3) (by omega) dL_law_728 ?_
  refine r_aload_n K 0 rfl rfl dL_law_729 ?_
  refine r_iload_n K 3 rfl rfl dL_law_730 ?_
  refine r_iconst K ((nI (4))) (by decide) dL_law_731 ?_
  refine r_iadd K dL_law_732 ?_
  refine r_topi (nI_add _ _) ?_
  refine r_sld K hX (i := i + 4) (by omega) dL_law_733 ?_
  refine r_callV K 71 (As := [.int (xs (i + 1)), .int (xs (i + 2)), .int (xs (i + 3)), .int (xs (i + 4))]) (rest := [.long (odS T ((xs (i + 1))) ((xs (i + 2))) ((xs (i + 3))) ((xs (i + 4))))]) mv_X7_odds ml_RL_93 (m_odds hG.1 hM1.1 ((xs (i + 1))) ((xs (i + 2))) ((xs (i + 3))) ((xs (i + 4)))) (by decide) rfl rfl rfl rfl (Nat.le_of_ble_eq_true rfl) ⟨by decide, by decide⟩ dL_law_734 (fun r_2 ad_2 s_2 h_2 => ?_)
  obtain ⟨rfl, rfl, hs2⟩ := h_2
  refine r_st (st' := [.long (odS T ((xs (i + 1))) ((xs (i + 2))) ((xs (i + 3))) ((xs (i + 4)))), .long (odS T ((xs (i + 1))) ((xs (i + 2))) ((xs (i + 3))) ((xs (i + 4))))]) rfl ?_
  have hM2 := MR_plan hM1 hs2
  have hC2 := CR_m hC1 (mS_of hs2 (by decide) (by decide) (by decide))
  refine r_lcmp_eq K 1037 trivial dL_law_737 dL_law_738 (by decide) (fun _ => ?_) (fun z => absurd (rfl) z)
  exact k _ _ ⟨_, _, _, _, _, _, _, _, _, hG, hC2, hM2⟩
set_option maxHeartbeats 1000000 in
set_option maxRecDepth 10000 in
/-- the law at sight -/
theorem law_18 {g : Gp} {x : Cx} {b L i : Nat} {xs : Nat → Int32} {ad : Nat → Nat} {σ : Sg} (K : Ok g x cL_law RL 4 2048 84000) (hX : ScrX g x b L xs) (hi : i + 5 ≤ L) (hv : Inv σ) (k : ∀ (a2 : Nat → Nat) (s2 : Sg), Inv s2 → GJ g x 4 1037 [(0, .ref (b)), (1, .ref (a2 61)), (2, .ref (a2 71)), (3, .int (nI (i)))] [] a2 s2) : GJ g x 4 743 [(0, .ref (b)), (1, .ref (ad 61)), (2, .ref (ad 71)), (3, .int (nI (i)))] [] ad σ := by
  obtain ⟨T, X, Fc, Fm, C0, C1, M0, M1, kf, hG, hC, hM⟩ := id hv
  have hL := hX.2.2.2
  refine r_aload_n K 1 rfl rfl dL_law_743 ?_
  refine r_aload_n K 0 rfl rfl dL_law_744 ?_
  refine r_iload_n K 3 rfl rfl dL_law_745 ?_
  refine r_iconst K ((nI (1))) (by decide) dL_law_746 ?_
  refine r_iadd K dL_law_747 ?_
  refine r_topi (nI_add _ _) ?_
  refine r_sld K hX (i := i + 1) (by omega) dL_law_748 ?_
  refine r_aload_n K 0 rfl rfl dL_law_749 ?_
  refine r_iload_n K 3 rfl rfl dL_law_750 ?_
  refine r_iconst K ((nI (2))) (by decide) dL_law_751 ?_
  refine r_iadd K dL_law_752 ?_
  refine r_topi (nI_add _ _) ?_
  refine r_sld K hX (i := i + 2) (by omega) dL_law_753 ?_
  refine r_aload_n K 0 rfl rfl dL_law_754 ?_
  refine r_iload_n K 3 rfl rfl dL_law_755 ?_
  refine r_iconst K ((nI (3))) (by decide) dL_law_756 ?_
  refine r_iadd K dL_law_757 ?_
  refine r_topi (nI_add _ _) ?_
  refine r_sld K hX (i := i + 3) (by omega) dL_law_758 ?_
  refine r_aload_n K 0 rfl rfl dL_law_759 ?_
  refine r_iload_n K 3 rfl rfl dL_law_760 ?_
  refine r_iconst K ((nI (4))) (by decide) dL_law_761 ?_
  refine r_iadd K dL_law_762 ?_
  refine r_topi (nI_add _ _) ?_
  refine r_sld K hX (i := i + 4) (by omega) dL_law_763 ?_
  refine r_callV K 61 (As := [.int (xs (i + 1)), .int (xs (i + 2)), .int (xs (i + 3)), .int (xs (i + 4))]) (rest := []) mv_X6_sight ml_RL_94 (c_sight hG.1 hC.1 hC.2.2.2.2.2.2.2 ((xs (i + 1))) ((xs (i + 2))) ((xs (i + 3))) ((xs (i + 4)))) (by decide) rfl rfl rfl rfl (Nat.le_of_ble_eq_true rfl) ⟨by decide, by decide⟩ dL_law_764 (fun r_1 ad_1 s_1 h_1 => ?_)
  obtain ⟨rfl, ha1, hs1, g1⟩ := h_1
  refine r_lv (lv' := [(0, .ref (b)), (1, .ref (ad_1 61)), (2, .ref (ad_1 71)), (3, .int (nI (i)))]) (by rw [ha1 61 (by decide), ha1 71 (by decide)]) ?_
  refine r_st (st' := [.long (sgS T ((xs (i + 1))) ((xs (i + 2))) ((xs (i + 3))) ((xs (i + 4))))]) rfl ?_
  have hC1 := CR_plan hC hs1 g1
  have hM1 := MR_c hM (cS_of (hs1) (by decide) (by decide) (by decide))
  refine r_aload_n K 2 rfl rfl dL_law_767 ?_
  refine r_aload_n K 0 rfl rfl dL_law_768 ?_
  refine r_iload_n K 3 rfl rfl dL_law_769 ?_
  refine r_iconst K ((nI (1))) (by decide) dL_law_770 ?_
  refine r_iadd K dL_law_771 ?_
  refine r_topi (nI_add _ _) ?_
  refine r_sld K hX (i := i + 1) (by omega) dL_law_772 ?_
  refine r_aload_n K 0 rfl rfl dL_law_773 ?_
  refine r_iload_n K 3 rfl rfl dL_law_774 ?_
  refine r_iconst K ((nI (2))) (by decide) dL_law_775 ?_
  refine r_iadd K dL_law_776 ?_
  refine r_topi (nI_add _ _) ?_
  refine r_sld K hX (i := i + 2) (by omega) dL_law_777 ?_
  refine r_aload_n K 0 rfl rfl dL_law_778 ?_
  refine r_iload_n K 3 rfl rfl dL_law_779 ?_
  refine r_iconst K ((nI (3))) (by decide) dL_law_780 ?_
  refine r_iadd K dL_law_781 ?_
  refine r_topi (nI_add _ _) ?_
  refine r_sld K hX (i := i + 3) (by omega) dL_law_782 ?_
  refine r_aload_n K 0 rfl rfl dL_law_783 ?_
  refine r_iload_n K 3 rfl rfl dL_law_784 ?_
  refine r_iconst K ((nI (4))) (by decide) dL_law_785 ?_
  refine r_iadd K dL_law_786 ?_
  refine r_topi (nI_add _ _) ?_
  refine r_sld K hX (i := i + 4) (by omega) dL_law_787 ?_
  refine r_callV K 71 (As := [.int (xs (i + 1)), .int (xs (i + 2)), .int (xs (i + 3)), .int (xs (i + 4))]) (rest := [.long (sgS T ((xs (i + 1))) ((xs (i + 2))) ((xs (i + 3))) ((xs (i + 4))))]) mv_X7_sight ml_RL_97 (m_sight hG.1 hM1.1 ((xs (i + 1))) ((xs (i + 2))) ((xs (i + 3))) ((xs (i + 4)))) (by decide) rfl rfl rfl rfl (Nat.le_of_ble_eq_true rfl) ⟨by decide, by decide⟩ dL_law_788 (fun r_2 ad_2 s_2 h_2 => ?_)
  obtain ⟨rfl, rfl, hs2⟩ := h_2
  refine r_st (st' := [.long (sgS T ((xs (i + 1))) ((xs (i + 2))) ((xs (i + 3))) ((xs (i + 4)))), .long (sgS T ((xs (i + 1))) ((xs (i + 2))) ((xs (i + 3))) ((xs (i + 4))))]) rfl ?_
  have hM2 := MR_plan hM1 hs2
  have hC2 := CR_m hC1 (mS_of hs2 (by decide) (by decide) (by decide))
  refine r_lcmp_eq K 1037 trivial dL_law_791 dL_law_792 (by decide) (fun _ => ?_) (fun z => absurd (rfl) z)
  exact k _ _ ⟨_, _, _, _, _, _, _, _, _, hG, hC2, hM2⟩
set_option maxHeartbeats 1000000 in
set_option maxRecDepth 10000 in
/-- the law at blind -/
theorem law_19 {g : Gp} {x : Cx} {b L i : Nat} {xs : Nat → Int32} {ad : Nat → Nat} {σ : Sg} (K : Ok g x cL_law RL 4 2048 84000) (hX : ScrX g x b L xs) (hi : i + 5 ≤ L) (hv : Inv σ) (k : ∀ (a2 : Nat → Nat) (s2 : Sg), Inv s2 → GJ g x 4 1037 [(0, .ref (b)), (1, .ref (a2 61)), (2, .ref (a2 71)), (3, .int (nI (i)))] [] a2 s2) : GJ g x 4 797 [(0, .ref (b)), (1, .ref (ad 61)), (2, .ref (ad 71)), (3, .int (nI (i)))] [] ad σ := by
  obtain ⟨T, X, Fc, Fm, C0, C1, M0, M1, kf, hG, hC, hM⟩ := id hv
  have hL := hX.2.2.2
  refine r_aload_n K 1 rfl rfl dL_law_797 ?_
  refine r_aload_n K 0 rfl rfl dL_law_798 ?_
  refine r_iload_n K 3 rfl rfl dL_law_799 ?_
  refine r_iconst K ((nI (1))) (by decide) dL_law_800 ?_
  refine r_iadd K dL_law_801 ?_
  refine r_topi (nI_add _ _) ?_
  refine r_sld K hX (i := i + 1) (by omega) dL_law_802 ?_
  refine r_aload_n K 0 rfl rfl dL_law_803 ?_
  refine r_iload_n K 3 rfl rfl dL_law_804 ?_
  refine r_iconst K ((nI (2))) (by decide) dL_law_805 ?_
  refine r_iadd K dL_law_806 ?_
  refine r_topi (nI_add _ _) ?_
  refine r_sld K hX (i := i + 2) (by omega) dL_law_807 ?_
  refine r_aload_n K 0 rfl rfl dL_law_808 ?_
  refine r_iload_n K 3 rfl rfl dL_law_809 ?_
  refine r_iconst K ((nI (3))) (by decide) dL_law_810 ?_
  refine r_iadd K dL_law_811 ?_
  refine r_topi (nI_add _ _) ?_
  refine r_sld K hX (i := i + 3) (by omega) dL_law_812 ?_
  refine r_aload_n K 0 rfl rfl dL_law_813 ?_
  refine r_iload_n K 3 rfl rfl dL_law_814 ?_
  refine r_iconst K ((nI (4))) (by decide) dL_law_815 ?_
  refine r_iadd K dL_law_816 ?_
  refine r_topi (nI_add _ _) ?_
  refine r_sld K hX (i := i + 4) (by omega) dL_law_817 ?_
  refine r_callV K 61 (As := [.int (xs (i + 1)), .int (xs (i + 2)), .int (xs (i + 3)), .int (xs (i + 4))]) (rest := []) mv_X6_blind ml_RL_98 (c_blind hG.1 hC.1 hC.2.2.2.2.2.2.2 ((xs (i + 1))) ((xs (i + 2))) ((xs (i + 3))) ((xs (i + 4)))) (by decide) rfl rfl rfl rfl (Nat.le_of_ble_eq_true rfl) ⟨by decide, by decide⟩ dL_law_818 (fun r_1 ad_1 s_1 h_1 => ?_)
  obtain ⟨rfl, ha1, hs1, g1⟩ := h_1
  refine r_lv (lv' := [(0, .ref (b)), (1, .ref (ad_1 61)), (2, .ref (ad_1 71)), (3, .int (nI (i)))]) (by rw [ha1 61 (by decide), ha1 71 (by decide)]) ?_
  refine r_st (st' := [.long (bdS T ((xs (i + 1))) ((xs (i + 2))) ((xs (i + 3))) ((xs (i + 4))))]) rfl ?_
  have hC1 := CR_plan hC hs1 g1
  have hM1 := MR_c hM (cS_of (hs1) (by decide) (by decide) (by decide))
  refine r_aload_n K 2 rfl rfl dL_law_821 ?_
  refine r_aload_n K 0 rfl rfl dL_law_822 ?_
  refine r_iload_n K 3 rfl rfl dL_law_823 ?_
  refine r_iconst K ((nI (1))) (by decide) dL_law_824 ?_
  refine r_iadd K dL_law_825 ?_
  refine r_topi (nI_add _ _) ?_
  refine r_sld K hX (i := i + 1) (by omega) dL_law_826 ?_
  refine r_aload_n K 0 rfl rfl dL_law_827 ?_
  refine r_iload_n K 3 rfl rfl dL_law_828 ?_
  refine r_iconst K ((nI (2))) (by decide) dL_law_829 ?_
  refine r_iadd K dL_law_830 ?_
  refine r_topi (nI_add _ _) ?_
  refine r_sld K hX (i := i + 2) (by omega) dL_law_831 ?_
  refine r_aload_n K 0 rfl rfl dL_law_832 ?_
  refine r_iload_n K 3 rfl rfl dL_law_833 ?_
  refine r_iconst K ((nI (3))) (by decide) dL_law_834 ?_
  refine r_iadd K dL_law_835 ?_
  refine r_topi (nI_add _ _) ?_
  refine r_sld K hX (i := i + 3) (by omega) dL_law_836 ?_
  refine r_aload_n K 0 rfl rfl dL_law_837 ?_
  refine r_iload_n K 3 rfl rfl dL_law_838 ?_
  refine r_iconst K ((nI (4))) (by decide) dL_law_839 ?_
  refine r_iadd K dL_law_840 ?_
  refine r_topi (nI_add _ _) ?_
  refine r_sld K hX (i := i + 4) (by omega) dL_law_841 ?_
  refine r_callV K 71 (As := [.int (xs (i + 1)), .int (xs (i + 2)), .int (xs (i + 3)), .int (xs (i + 4))]) (rest := [.long (bdS T ((xs (i + 1))) ((xs (i + 2))) ((xs (i + 3))) ((xs (i + 4))))]) mv_X7_blind ml_RL_101 (m_blind hG.1 hM1.1 ((xs (i + 1))) ((xs (i + 2))) ((xs (i + 3))) ((xs (i + 4)))) (by decide) rfl rfl rfl rfl (Nat.le_of_ble_eq_true rfl) ⟨by decide, by decide⟩ dL_law_842 (fun r_2 ad_2 s_2 h_2 => ?_)
  obtain ⟨rfl, rfl, hs2⟩ := h_2
  refine r_st (st' := [.long (bdS T ((xs (i + 1))) ((xs (i + 2))) ((xs (i + 3))) ((xs (i + 4)))), .long (bdS T ((xs (i + 1))) ((xs (i + 2))) ((xs (i + 3))) ((xs (i + 4))))]) rfl ?_
  have hM2 := MR_plan hM1 hs2
  have hC2 := CR_m hC1 (mS_of hs2 (by decide) (by decide) (by decide))
  refine r_lcmp_eq K 1037 trivial dL_law_845 dL_law_846 (by decide) (fun _ => ?_) (fun z => absurd (rfl) z)
  exact k _ _ ⟨_, _, _, _, _, _, _, _, _, hG, hC2, hM2⟩
set_option maxHeartbeats 1000000 in
set_option maxRecDepth 10000 in
/-- the law at worth -/
theorem law_20 {g : Gp} {x : Cx} {b L i : Nat} {xs : Nat → Int32} {ad : Nat → Nat} {σ : Sg} (K : Ok g x cL_law RL 4 2048 84000) (hX : ScrX g x b L xs) (hi : i + 5 ≤ L) (hv : Inv σ) (k : ∀ (a2 : Nat → Nat) (s2 : Sg), Inv s2 → GJ g x 4 1037 [(0, .ref (b)), (1, .ref (a2 61)), (2, .ref (a2 71)), (3, .int (nI (i)))] [] a2 s2) : GJ g x 4 851 [(0, .ref (b)), (1, .ref (ad 61)), (2, .ref (ad 71)), (3, .int (nI (i)))] [] ad σ := by
  obtain ⟨T, X, Fc, Fm, C0, C1, M0, M1, kf, hG, hC, hM⟩ := id hv
  have hL := hX.2.2.2
  refine r_aload_n K 1 rfl rfl dL_law_851 ?_
  refine r_aload_n K 0 rfl rfl dL_law_852 ?_
  refine r_iload_n K 3 rfl rfl dL_law_853 ?_
  refine r_iconst K ((nI (1))) (by decide) dL_law_854 ?_
  refine r_iadd K dL_law_855 ?_
  refine r_topi (nI_add _ _) ?_
  refine r_sld K hX (i := i + 1) (by omega) dL_law_856 ?_
  refine r_aload_n K 0 rfl rfl dL_law_857 ?_
  refine r_iload_n K 3 rfl rfl dL_law_858 ?_
  refine r_iconst K ((nI (2))) (by decide) dL_law_859 ?_
  refine r_iadd K dL_law_860 ?_
  refine r_topi (nI_add _ _) ?_
  refine r_sld K hX (i := i + 2) (by omega) dL_law_861 ?_
  refine r_aload_n K 0 rfl rfl dL_law_862 ?_
  refine r_iload_n K 3 rfl rfl dL_law_863 ?_
  refine r_iconst K ((nI (3))) (by decide) dL_law_864 ?_
  refine r_iadd K dL_law_865 ?_
  refine r_topi (nI_add _ _) ?_
  refine r_sld K hX (i := i + 3) (by omega) dL_law_866 ?_
  refine r_aload_n K 0 rfl rfl dL_law_867 ?_
  refine r_iload_n K 3 rfl rfl dL_law_868 ?_
  refine r_iconst K ((nI (4))) (by decide) dL_law_869 ?_
  refine r_iadd K dL_law_870 ?_
  refine r_topi (nI_add _ _) ?_
  refine r_sld K hX (i := i + 4) (by omega) dL_law_871 ?_
  refine r_callV K 61 (As := [.int (xs (i + 1)), .int (xs (i + 2)), .int (xs (i + 3)), .int (xs (i + 4))]) (rest := []) mv_X6_worth ml_RL_102 (c_worth hG.1 hC.1 hC.2.2.2.2.2.2.2 ((xs (i + 1))) ((xs (i + 2))) ((xs (i + 3))) ((xs (i + 4)))) (by decide) rfl rfl rfl rfl (Nat.le_of_ble_eq_true rfl) ⟨by decide, by decide⟩ dL_law_872 (fun r_1 ad_1 s_1 h_1 => ?_)
  obtain ⟨rfl, ha1, hs1, g1⟩ := h_1
  refine r_lv (lv' := [(0, .ref (b)), (1, .ref (ad_1 61)), (2, .ref (ad_1 71)), (3, .int (nI (i)))]) (by rw [ha1 61 (by decide), ha1 71 (by decide)]) ?_
  refine r_st (st' := [.long (wtS T ((xs (i + 1))) ((xs (i + 2))) ((xs (i + 3))) ((xs (i + 4))))]) rfl ?_
  have hC1 := CR_plan hC hs1 g1
  have hM1 := MR_c hM (cS_of (hs1) (by decide) (by decide) (by decide))
  refine r_aload_n K 2 rfl rfl dL_law_875 ?_
  refine r_aload_n K 0 rfl rfl dL_law_876 ?_
  refine r_iload_n K 3 rfl rfl dL_law_877 ?_
  refine r_iconst K ((nI (1))) (by decide) dL_law_878 ?_
  refine r_iadd K dL_law_879 ?_
  refine r_topi (nI_add _ _) ?_
  refine r_sld K hX (i := i + 1) (by omega) dL_law_880 ?_
  refine r_aload_n K 0 rfl rfl dL_law_881 ?_
  refine r_iload_n K 3 rfl rfl dL_law_882 ?_
  refine r_iconst K ((nI (2))) (by decide) dL_law_883 ?_
  refine r_iadd K dL_law_884 ?_
  refine r_topi (nI_add _ _) ?_
  refine r_sld K hX (i := i + 2) (by omega) dL_law_885 ?_
  refine r_aload_n K 0 rfl rfl dL_law_886 ?_
  refine r_iload_n K 3 rfl rfl dL_law_887 ?_
  refine r_iconst K ((nI (3))) (by decide) dL_law_888 ?_
  refine r_iadd K dL_law_889 ?_
  refine r_topi (nI_add _ _) ?_
  refine r_sld K hX (i := i + 3) (by omega) dL_law_890 ?_
  refine r_aload_n K 0 rfl rfl dL_law_891 ?_
  refine r_iload_n K 3 rfl rfl dL_law_892 ?_
  refine r_iconst K ((nI (4))) (by decide) dL_law_893 ?_
  refine r_iadd K dL_law_894 ?_
  refine r_topi (nI_add _ _) ?_
  refine r_sld K hX (i := i + 4) (by omega) dL_law_895 ?_
  refine r_callV K 71 (As := [.int (xs (i + 1)), .int (xs (i + 2)), .int (xs (i + 3)), .int (xs (i + 4))]) (rest := [.long (wtS T ((xs (i + 1))) ((xs (i + 2))) ((xs (i + 3))) ((xs (i + 4))))]) mv_X7_worth ml_RL_105 (m_worth hG.1 hM1.1 ((xs (i + 1))) ((xs (i + 2))) ((xs (i + 3))) ((xs (i + 4)))) (by decide) rfl rfl rfl rfl (Nat.le_of_ble_eq_true rfl) ⟨by decide, by decide⟩ dL_law_896 (fun r_2 ad_2 s_2 h_2 => ?_)
  obtain ⟨rfl, rfl, hs2⟩ := h_2
  refine r_st (st' := [.long (wtS T ((xs (i + 1))) ((xs (i + 2))) ((xs (i + 3))) ((xs (i + 4)))), .long (wtS T ((xs (i + 1))) ((xs (i + 2))) ((xs (i + 3))) ((xs (i + 4))))]) rfl ?_
  have hM2 := MR_plan hM1 hs2
  have hC2 := CR_m hC1 (mS_of hs2 (by decide) (by decide) (by decide))
  refine r_lcmp_eq K 1037 trivial dL_law_899 dL_law_900 (by decide) (fun _ => ?_) (fun z => absurd (rfl) z)
  exact k _ _ ⟨_, _, _, _, _, _, _, _, _, hG, hC2, hM2⟩
set_option maxHeartbeats 1000000 in
set_option maxRecDepth 10000 in
/-- the law at found -/
theorem law_21 {g : Gp} {x : Cx} {b L i : Nat} {xs : Nat → Int32} {ad : Nat → Nat} {σ : Sg} (K : Ok g x cL_law RL 4 2048 84000) (hX : ScrX g x b L xs) (hi : i + 5 ≤ L) (hv : Inv σ) (k : ∀ (a2 : Nat → Nat) (s2 : Sg), Inv s2 → GJ g x 4 1037 [(0, .ref (b)), (1, .ref (a2 61)), (2, .ref (a2 71)), (3, .int (nI (i)))] [] a2 s2) : GJ g x 4 905 [(0, .ref (b)), (1, .ref (ad 61)), (2, .ref (ad 71)), (3, .int (nI (i)))] [] ad σ := by
  obtain ⟨T, X, Fc, Fm, C0, C1, M0, M1, kf, hG, hC, hM⟩ := id hv
  have hL := hX.2.2.2
  refine r_aload_n K 1 rfl rfl dL_law_905 ?_
  refine r_aload_n K 0 rfl rfl dL_law_906 ?_
  refine r_iload_n K 3 rfl rfl dL_law_907 ?_
  refine r_iconst K ((nI (1))) (by decide) dL_law_908 ?_
  refine r_iadd K dL_law_909 ?_
  refine r_topi (nI_add _ _) ?_
  refine r_sld K hX (i := i + 1) (by omega) dL_law_910 ?_
  refine r_aload_n K 0 rfl rfl dL_law_911 ?_
  refine r_iload_n K 3 rfl rfl dL_law_912 ?_
  refine r_iconst K ((nI (2))) (by decide) dL_law_913 ?_
  refine r_iadd K dL_law_914 ?_
  refine r_topi (nI_add _ _) ?_
  refine r_sld K hX (i := i + 2) (by omega) dL_law_915 ?_
  refine r_callV K 61 (As := [.int (xs (i + 1)), .int (xs (i + 2))]) (rest := []) mv_X6_found ml_RL_106 (c_found hG.1 hC.1 hC.2.2.2.2.2.2.2 ((xs (i + 1))) ((xs (i + 2)))) (by decide) rfl rfl rfl rfl (Nat.le_of_ble_eq_true rfl) ⟨by decide, by decide⟩ dL_law_916 (fun r_1 ad_1 s_1 h_1 => ?_)
  obtain ⟨rfl, ha1, hs1, g1⟩ := h_1
  refine r_lv (lv' := [(0, .ref (b)), (1, .ref (ad_1 61)), (2, .ref (ad_1 71)), (3, .int (nI (i)))]) (by rw [ha1 61 (by decide), ha1 71 (by decide)]) ?_
  refine r_st (st' := [.int (fdS T ((xs (i + 1))) ((xs (i + 2))))]) rfl ?_
  have hC1 := CR_plan hC (cE_p hs1) g1
  have hM1 := MR_c hM (cS_of (cE_p hs1) (by decide) (by decide) (by decide))
  refine r_aload_n K 2 rfl rfl dL_law_919 ?_
  refine r_aload_n K 0 rfl rfl dL_law_920 ?_
  refine r_iload_n K 3 rfl rfl dL_law_921 ?_
  refine r_iconst K ((nI (1))) (by decide) dL_law_922 ?_
  refine r_iadd K dL_law_923 ?_
  refine r_topi (nI_add _ _) ?_
  refine r_sld K hX (i := i + 1) (by omega) dL_law_924 ?_
  refine r_aload_n K 0 rfl rfl dL_law_925 ?_
  refine r_iload_n K 3 rfl rfl dL_law_926 ?_
  refine r_iconst K ((nI (2))) (by decide) dL_law_927 ?_
  refine r_iadd K dL_law_928 ?_
  refine r_topi (nI_add _ _) ?_
  refine r_sld K hX (i := i + 2) (by omega) dL_law_929 ?_
  refine r_callV K 71 (As := [.int (xs (i + 1)), .int (xs (i + 2))]) (rest := [.int (fdS T ((xs (i + 1))) ((xs (i + 2))))]) mv_X7_found ml_RL_109 (m_found hG.1 hM1.1 ((xs (i + 1))) ((xs (i + 2)))) (by decide) rfl rfl rfl rfl (Nat.le_of_ble_eq_true rfl) ⟨by decide, by decide⟩ dL_law_930 (fun r_2 ad_2 s_2 h_2 => ?_)
  obtain ⟨rfl, rfl, hs2⟩ := h_2
  refine r_st (st' := [.int (fdS T ((xs (i + 1))) ((xs (i + 2)))), .int (fdS T ((xs (i + 1))) ((xs (i + 2))))]) rfl ?_
  have hM2 := MR_plan hM1 (mlF_E hs2)
  have hC2 := CR_m hC1 (mS_of hs2 (by decide) (by decide) (by decide))
  refine r_icmp_eq K 1037 dL_law_933 (by decide) (fun _ => ?_) (fun z => absurd (rfl) z)
  exact k _ _ ⟨_, _, _, _, _, _, _, _, _, hG, hC2, hM2⟩
set_option maxHeartbeats 1000000 in
set_option maxRecDepth 10000 in
/-- the law at first -/
theorem law_22 {g : Gp} {x : Cx} {b L i : Nat} {xs : Nat → Int32} {ad : Nat → Nat} {σ : Sg} (K : Ok g x cL_law RL 4 2048 84000) (hX : ScrX g x b L xs) (hi : i + 5 ≤ L) (hv : Inv σ) (k : ∀ (a2 : Nat → Nat) (s2 : Sg), Inv s2 → GJ g x 4 1037 [(0, .ref (b)), (1, .ref (a2 61)), (2, .ref (a2 71)), (3, .int (nI (i)))] [] a2 s2) : GJ g x 4 938 [(0, .ref (b)), (1, .ref (ad 61)), (2, .ref (ad 71)), (3, .int (nI (i)))] [] ad σ := by
  obtain ⟨T, X, Fc, Fm, C0, C1, M0, M1, kf, hG, hC, hM⟩ := id hv
  have hL := hX.2.2.2
  refine r_aload_n K 1 rfl rfl dL_law_938 ?_
  refine r_aload_n K 0 rfl rfl dL_law_939 ?_
  refine r_iload_n K 3 rfl rfl dL_law_940 ?_
  refine r_iconst K ((nI (1))) (by decide) dL_law_941 ?_
  refine r_iadd K dL_law_942 ?_
  refine r_topi (nI_add _ _) ?_
  refine r_sld K hX (i := i + 1) (by omega) dL_law_943 ?_
  refine r_aload_n K 0 rfl rfl dL_law_944 ?_
  refine r_iload_n K 3 rfl rfl dL_law_945 ?_
  refine r_iconst K ((nI (2))) (by decide) dL_law_946 ?_
  refine r_iadd K dL_law_947 ?_
  refine r_topi (nI_add _ _) ?_
  refine r_sld K hX (i := i + 2) (by omega) dL_law_948 ?_
  refine r_aload_n K 0 rfl rfl dL_law_949 ?_
  refine r_iload_n K 3 rfl rfl dL_law_950 ?_
  refine r_iconst K ((nI (3))) (by decide) dL_law_951 ?_
  refine r_iadd K dL_law_952 ?_
  refine r_topi (nI_add _ _) ?_
  refine r_sld K hX (i := i + 3) (by omega) dL_law_953 ?_
  refine r_callV K 61 (As := [.int (xs (i + 1)), .int (xs (i + 2)), .int (xs (i + 3))]) (rest := []) mv_X6_first ml_RL_110 (c_first hG.1 hC.1 hC.2.2.2.2.2.2.2 ((xs (i + 1))) ((xs (i + 2))) ((xs (i + 3)))) (by decide) rfl rfl rfl rfl (Nat.le_of_ble_eq_true rfl) ⟨by decide, by decide⟩ dL_law_954 (fun r_1 ad_1 s_1 h_1 => ?_)
  obtain ⟨rfl, ha1, hs1, g1⟩ := h_1
  refine r_lv (lv' := [(0, .ref (b)), (1, .ref (ad_1 61)), (2, .ref (ad_1 71)), (3, .int (nI (i)))]) (by rw [ha1 61 (by decide), ha1 71 (by decide)]) ?_
  refine r_st (st' := [.int (fsS T ((xs (i + 1))) ((xs (i + 2))) ((xs (i + 3))))]) rfl ?_
  have hC1 := CR_plan hC (cE_p hs1) g1
  have hM1 := MR_c hM (cS_of (cE_p hs1) (by decide) (by decide) (by decide))
  refine r_aload_n K 2 rfl rfl dL_law_957 ?_
  refine r_aload_n K 0 rfl rfl dL_law_958 ?_
  refine r_iload_n K 3 rfl rfl dL_law_959 ?_
  refine r_iconst K ((nI (1))) (by decide) dL_law_960 ?_
  refine r_iadd K dL_law_961 ?_
  refine r_topi (nI_add _ _) ?_
  refine r_sld K hX (i := i + 1) (by omega) dL_law_962 ?_
  refine r_aload_n K 0 rfl rfl dL_law_963 ?_
  refine r_iload_n K 3 rfl rfl dL_law_964 ?_
  refine r_iconst K ((nI (2))) (by decide) dL_law_965 ?_
  refine r_iadd K dL_law_966 ?_
  refine r_topi (nI_add _ _) ?_
  refine r_sld K hX (i := i + 2) (by omega) dL_law_967 ?_
  refine r_aload_n K 0 rfl rfl dL_law_968 ?_
  refine r_iload_n K 3 rfl rfl dL_law_969 ?_
  refine r_iconst K ((nI (3))) (by decide) dL_law_970 ?_
  refine r_iadd K dL_law_971 ?_
  refine r_topi (nI_add _ _) ?_
  refine r_sld K hX (i := i + 3) (by omega) dL_law_972 ?_
  refine r_callV K 71 (As := [.int (xs (i + 1)), .int (xs (i + 2)), .int (xs (i + 3))]) (rest := [.int (fsS T ((xs (i + 1))) ((xs (i + 2))) ((xs (i + 3))))]) mv_X7_first ml_RL_113 (m_first hG.1 hM1.1 ((xs (i + 1))) ((xs (i + 2))) ((xs (i + 3)))) (by decide) rfl rfl rfl rfl (Nat.le_of_ble_eq_true rfl) ⟨by decide, by decide⟩ dL_law_973 (fun r_2 ad_2 s_2 h_2 => ?_)
  obtain ⟨rfl, rfl, hs2⟩ := h_2
  refine r_st (st' := [.int (fsS T ((xs (i + 1))) ((xs (i + 2))) ((xs (i + 3)))), .int (fsS T ((xs (i + 1))) ((xs (i + 2))) ((xs (i + 3))))]) rfl ?_
  have hM2 := MR_plan hM1 (mlF_E hs2)
  have hC2 := CR_m hC1 (mS_of hs2 (by decide) (by decide) (by decide))
  refine r_icmp_eq K 1037 dL_law_976 (by decide) (fun _ => ?_) (fun z => absurd (rfl) z)
  exact k _ _ ⟨_, _, _, _, _, _, _, _, _, hG, hC2, hM2⟩
set_option maxHeartbeats 1000000 in
set_option maxRecDepth 10000 in
/-- the law at books -/
theorem law_23 {g : Gp} {x : Cx} {b L i : Nat} {xs : Nat → Int32} {ad : Nat → Nat} {σ : Sg} (K : Ok g x cL_law RL 4 2048 84000) (hX : ScrX g x b L xs) (hi : i + 5 ≤ L) (hv : Inv σ) (k : ∀ (a2 : Nat → Nat) (s2 : Sg), Inv s2 → GJ g x 4 1037 [(0, .ref (b)), (1, .ref (a2 61)), (2, .ref (a2 71)), (3, .int (nI (i)))] [] a2 s2) : GJ g x 4 981 [(0, .ref (b)), (1, .ref (ad 61)), (2, .ref (ad 71)), (3, .int (nI (i)))] [] ad σ := by
  obtain ⟨T, X, Fc, Fm, C0, C1, M0, M1, kf, hG, hC, hM⟩ := id hv
  have hL := hX.2.2.2
  refine r_aload_n K 1 rfl rfl dL_law_981 ?_
  refine r_aload_n K 0 rfl rfl dL_law_982 ?_
  refine r_iload_n K 3 rfl rfl dL_law_983 ?_
  refine r_iconst K ((nI (1))) (by decide) dL_law_984 ?_
  refine r_iadd K dL_law_985 ?_
  refine r_topi (nI_add _ _) ?_
  refine r_sld K hX (i := i + 1) (by omega) dL_law_986 ?_
  refine r_aload_n K 0 rfl rfl dL_law_987 ?_
  refine r_iload_n K 3 rfl rfl dL_law_988 ?_
  refine r_iconst K ((nI (2))) (by decide) dL_law_989 ?_
  refine r_iadd K dL_law_990 ?_
  refine r_topi (nI_add _ _) ?_
  refine r_sld K hX (i := i + 2) (by omega) dL_law_991 ?_
  refine r_callV K 61 (As := [.int (xs (i + 1)), .int (xs (i + 2))]) (rest := []) mv_X6_books ml_RL_114 (c_books hG.1 hC.1 hC.2.2.2.2.2.2.2 ((xs (i + 1))) ((xs (i + 2)))) (by decide) rfl rfl rfl rfl (Nat.le_of_ble_eq_true rfl) ⟨by decide, by decide⟩ dL_law_992 (fun r_1 ad_1 s_1 h_1 => ?_)
  obtain ⟨rfl, ha1, hs1, g1⟩ := h_1
  refine r_lv (lv' := [(0, .ref (b)), (1, .ref (ad_1 61)), (2, .ref (ad_1 71)), (3, .int (nI (i)))]) (by rw [ha1 61 (by decide), ha1 71 (by decide)]) ?_
  refine r_st (st' := [.int (bkR T ((xs (i + 1))) ((xs (i + 2))))]) rfl ?_
  have hC1 := CR_plan hC (cE_p hs1) g1
  have hM1 := MR_c hM (cS_of (cE_p hs1) (by decide) (by decide) (by decide))
  refine r_aload_n K 2 rfl rfl dL_law_995 ?_
  refine r_aload_n K 0 rfl rfl dL_law_996 ?_
  refine r_iload_n K 3 rfl rfl dL_law_997 ?_
  refine r_iconst K ((nI (1))) (by decide) dL_law_998 ?_
  refine r_iadd K dL_law_999 ?_
  refine r_topi (nI_add _ _) ?_
  refine r_sld K hX (i := i + 1) (by omega) dL_law_1000 ?_
  refine r_aload_n K 0 rfl rfl dL_law_1001 ?_
  refine r_iload_n K 3 rfl rfl dL_law_1002 ?_
  refine r_iconst K ((nI (2))) (by decide) dL_law_1003 ?_
  refine r_iadd K dL_law_1004 ?_
  refine r_topi (nI_add _ _) ?_
  refine r_sld K hX (i := i + 2) (by omega) dL_law_1005 ?_
  refine r_callV K 71 (As := [.int (xs (i + 1)), .int (xs (i + 2))]) (rest := [.int (bkR T ((xs (i + 1))) ((xs (i + 2))))]) mv_X7_books ml_RL_117 (m_books hG.1 hM1.1 ((xs (i + 1))) ((xs (i + 2)))) (by decide) rfl rfl rfl rfl (Nat.le_of_ble_eq_true rfl) ⟨by decide, by decide⟩ dL_law_1006 (fun r_2 ad_2 s_2 h_2 => ?_)
  obtain ⟨rfl, rfl, hs2⟩ := h_2
  refine r_st (st' := [.int (bkR T ((xs (i + 1))) ((xs (i + 2)))), .int (bkR T ((xs (i + 1))) ((xs (i + 2))))]) rfl ?_
  have hM2 := MR_plan hM1 (mlF_E hs2)
  have hC2 := CR_m hC1 (mS_of hs2 (by decide) (by decide) (by decide))
  refine r_icmp_eq K 1037 dL_law_1009 (by decide) (fun _ => ?_) (fun z => absurd (rfl) z)
  exact k _ _ ⟨_, _, _, _, _, _, _, _, _, hG, hC2, hM2⟩
set_option maxHeartbeats 1000000 in
set_option maxRecDepth 10000 in
/-- the law at count -/
theorem law_24 {g : Gp} {x : Cx} {b L i : Nat} {xs : Nat → Int32} {ad : Nat → Nat} {σ : Sg} (K : Ok g x cL_law RL 4 2048 84000) (hX : ScrX g x b L xs) (hi : i + 5 ≤ L) (hv : Inv σ) (k : ∀ (a2 : Nat → Nat) (s2 : Sg), Inv s2 → GJ g x 4 1037 [(0, .ref (b)), (1, .ref (a2 61)), (2, .ref (a2 71)), (3, .int (nI (i)))] [] a2 s2) : GJ g x 4 1014 [(0, .ref (b)), (1, .ref (ad 61)), (2, .ref (ad 71)), (3, .int (nI (i)))] [] ad σ := by
  obtain ⟨T, X, Fc, Fm, C0, C1, M0, M1, kf, hG, hC, hM⟩ := id hv
  have hL := hX.2.2.2
  refine r_aload_n K 1 rfl rfl dL_law_1014 ?_
  refine r_aload_n K 0 rfl rfl dL_law_1015 ?_
  refine r_iload_n K 3 rfl rfl dL_law_1016 ?_
  refine r_iconst K ((nI (1))) (by decide) dL_law_1017 ?_
  refine r_iadd K dL_law_1018 ?_
  refine r_topi (nI_add _ _) ?_
  refine r_sld K hX (i := i + 1) (by omega) dL_law_1019 ?_
  refine r_callVp K 61 (As := [.int (xs (i + 1))]) mv_X6_count ml_RL_118 (c_count hG.1 hC.1 hG.2.2.1.1 hC.2.2.1 hC.2.1 ((xs (i + 1)))) (by decide) rfl rfl rfl rfl (Nat.le_of_ble_eq_true rfl) ⟨by decide, by decide⟩ dL_law_1020 ?_
  refine r_aload_n K 2 rfl rfl dL_law_1023 ?_
  refine r_aload_n K 0 rfl rfl dL_law_1024 ?_
  refine r_iload_n K 3 rfl rfl dL_law_1025 ?_
  refine r_iconst K ((nI (1))) (by decide) dL_law_1026 ?_
  refine r_iadd K dL_law_1027 ?_
  refine r_topi (nI_add _ _) ?_
  refine r_sld K hX (i := i + 1) (by omega) dL_law_1028 ?_
  refine r_callVp K 71 (As := [.int (xs (i + 1))]) mv_X7_count ml_RL_121 (m_count hG.1 hM.1 hG.2.2.1.2.1 hM.2.2.1 hM.2.1 ((xs (i + 1)))) (by decide) rfl rfl rfl rfl (Nat.le_of_ble_eq_true rfl) ⟨by decide, by decide⟩ dL_law_1029 ?_
  refine r_icmp_eq K 1037 dL_law_1032 (by decide) (fun _ => ?_) (fun z => absurd ((cnt_rel hG.2.2.1.2.2 ((xs (i + 1))))) z)
  exact k _ _ hv
theorem and31 {v : Int32} (h : ∀ j, j ≤ 24 → ¬ v = nI j) : v.toInt < ((0 : Nat) : Int) ∨ ((24 : Nat) : Int) < v.toInt := sw_out h
