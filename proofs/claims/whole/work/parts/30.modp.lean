theorem sL_at (σ : Sg) (v : Int64) : (σ.sL v).L = v := rfl
set_option maxHeartbeats 2000000 in
set_option maxRecDepth 10000 in
theorem m_nextToken {g : Gp} {lau : Launch} {ad : Nat → Nat} {σ : Sg} {X : Tv} (hXo : XOk X) (hX : RepX 16 49 X σ) {p : Nat} (hp : p ≤ X 0 0) (g17p : σ.I 17 = nI p) : Con g lau yX7_nextToken cX7_nextToken 1 (Option.none : Option Jvm.ClassFile.FieldType) 1 22 [.ref (ad 71)] ad σ (fun r a2 s2 => none = r ∧ ad = a2 ∧ same [] [17, 18, 19, 20] [] true σ s2 ∧ s2.I 17 = nI (teS X p) ∧ s2.I 18 = nI (tkS X p) ∧ s2.L = tokV X p ∧ (isN X p = true → s2.I 20 = nI (nvS X p))) := by
  refine con_mk (by decide) (Nat.le_of_ble_eq_true rfl) (fun x hxl K hr => ?_)
  subst hxl
  refine r_lv (lv' := [(0, .ref (ad 71))]) rfl ?_
  have hx200 := hXo.1
  have lpA : ∀ (mm_ : Nat) (q : Nat) (s1 : Sg), mm_ = X 0 0 - q → (q ≤ X 0 0) → (tkS X q = tkS X p) → (same [] [17] [] false σ s1) → (s1.I 17 = nI q) → GJ g x 1 0 [(0, .ref (ad 71))] [] ad (s1) := by
    intro mm_
    induction mm_ using Nat.strongRecOn with
    | _ mm_ ihA =>
      intro q s1 hmA hq ht hs1 g17
      have hX1 : RepX 16 49 X s1 := RepX_same hX hs1 (by simp) (by simp)
      refine r_aload_n K 0 rfl rfl dX7_nextToken_0 ?_
      refine get_71_8 K fl_RX7_77 dX7_nextToken_1 ?_
      refine r_topi (b := (nI (q))) (g17) ?_
      refine r_aload_n K 0 rfl rfl dX7_nextToken_4 ?_
      refine get_71_6 K fl_RX7_72 dX7_nextToken_5 ?_
      refine r_topi (b := (nI (X 0 0))) (hX1.1) ?_
      refine n_icmp_ge K 38 (by omega) (by omega) dX7_nextToken_8 (by decide) (fun h8 => ?_) (fun h8 => ?_)
      · have hqa : q = tkS X p := by rw [← ht]; unfold tkS; rw [rnS_end (fun z => by have z1 := z.1; have z2 := of_decide_eq_true z.2; omega)]
        refine r_aload_n K 0 rfl rfl dX7_nextToken_38 ?_
        refine r_aload_n K 0 rfl rfl dX7_nextToken_39 ?_
        refine get_71_8 K fl_RX7_77 dX7_nextToken_40 ?_
        refine r_topi (b := (nI (q))) (g17) ?_
        refine put_71_9 K fl_RX7_80 dX7_nextToken_43 ?_
        refine r_aload_n K 0 rfl rfl dX7_nextToken_46 ?_
        refine r_iconst K ((nI (0))) (by decide) dX7_nextToken_47 ?_
        refine put_71_11 K fl_RX7_83 dX7_nextToken_48 ?_
        refine r_aload_n K 0 rfl rfl dX7_nextToken_51 ?_
        refine r_iconst K ((nI (0))) (by decide) dX7_nextToken_52 ?_
        refine put_71_12 K fl_RX7_86 dX7_nextToken_53 ?_
        have hs3 : same [] [17, 18, 19, 20] [] true σ ((((s1).sI 18 ((nI (q)))).sI 19 ((nI (0)))).sI 20 ((nI (0)))) := same_sI (same_sI (same_sI (same_w hs1 (by simp) (by simp) (by simp) (fun _ => rfl)) (by simp) _) (by simp) _) (by simp) _
        have k17 : ((((s1).sI 18 ((nI (q)))).sI 19 ((nI (0)))).sI 20 ((nI (0)))).I 17 = nI q := by rw [sI_ne _ _ (by decide), sI_ne _ _ (by decide), sI_ne _ _ (by decide)]; exact g17
        have k18 : ((((s1).sI 18 ((nI (q)))).sI 19 ((nI (0)))).sI 20 ((nI (0)))).I 18 = nI q := by rw [sI_ne _ _ (by decide), sI_ne _ _ (by decide), sI_at]
        have k19 : ((((s1).sI 18 ((nI (q)))).sI 19 ((nI (0)))).sI 20 ((nI (0)))).I 19 = nI 0 := by rw [sI_ne _ _ (by decide), sI_at]
        have k20 : ((((s1).sI 18 ((nI (q)))).sI 19 ((nI (0)))).sI 20 ((nI (0)))).I 20 = nI 0 := sI_at _ _ _
        generalize ez : (((s1).sI 18 ((nI (q)))).sI 19 ((nI (0)))).sI 20 ((nI (0))) = s3 at hs3 k17 k18 k19 k20 ⊢
        have hX3 : RepX 16 49 X s3 := RepX_same hX hs3 (by simp) (by simp)
        have htp : tkS X p ≤ X 0 0 := by rw [← hqa]; exact hq
        refine r_aload_n K 0 rfl rfl dX7_nextToken_56 ?_
        refine get_71_8 K fl_RX7_77 dX7_nextToken_57 ?_
        refine r_topi (b := (nI (q))) (k17) ?_
        refine r_aload_n K 0 rfl rfl dX7_nextToken_60 ?_
        refine get_71_6 K fl_RX7_72 dX7_nextToken_61 ?_
        refine r_topi (b := (nI (X 0 0))) (hX3.1) ?_
        refine n_icmp_ne K 77 (by omega) (by omega) dX7_nextToken_64 (by decide) (fun h64 => ?_) (fun h64 => ?_)
        · refine r_aload_n K 0 rfl rfl dX7_nextToken_77 ?_
          refine get_71_7 K fl_RX7_23 dX7_nextToken_78 ?_
          refine r_aload_n K 0 rfl rfl dX7_nextToken_81 ?_
          refine get_71_8 K fl_RX7_77 dX7_nextToken_82 ?_
          refine r_topi (b := (nI (q))) (k17) ?_
          refine r_iald K 49 (n := 200) (by decide) rfl rfl (by decide) (by omega) dX7_nextToken_85 ?_
          have hby394 := hXo.2 (q)
          refine r_topi (b := (nI (X 1 q))) (hX3.2 _ (by omega)) ?_
          refine r_bipush K ((nI (97))) (by decide) dX7_nextToken_86 ?_
          refine r_bipush K ((nI (122))) (by decide) dX7_nextToken_88 ?_
          refine r_callSp K (As := [.int (nI (X 1 q)), .int (nI (97)), .int (nI (122))]) ms_X7_in ml_RX7_61 (m_in ((nI (X 1 q))) ((nI (97))) ((nI (122)))) rfl rfl (Nat.le_of_ble_eq_true rfl) ⟨by decide, by decide⟩ dX7_nextToken_90 ?_
          refine r_topi (b := (bI (isLe (X 1 q)))) (by rw [inS_Le (hXo.2 _)]) ?_
          refine b_if_eq K 222 dX7_nextToken_93 (by decide) (fun h93 => ?_) (fun h93 => ?_)
          · refine r_aload_n K 0 rfl rfl dX7_nextToken_222 ?_
            refine get_71_7 K fl_RX7_23 dX7_nextToken_223 ?_
            refine r_aload_n K 0 rfl rfl dX7_nextToken_226 ?_
            refine get_71_8 K fl_RX7_77 dX7_nextToken_227 ?_
            refine r_topi (b := (nI (q))) (k17) ?_
            refine r_iald K 49 (n := 200) (by decide) rfl rfl (by decide) (by omega) dX7_nextToken_230 ?_
            have hby396 := hXo.2 (q)
            refine r_topi (b := (nI (X 1 q))) (hX3.2 _ (by omega)) ?_
            refine r_bipush K ((nI (48))) (by decide) dX7_nextToken_231 ?_
            refine r_bipush K ((nI (57))) (by decide) dX7_nextToken_233 ?_
            refine r_callSp K (As := [.int (nI (X 1 q)), .int (nI (48)), .int (nI (57))]) ms_X7_in ml_RX7_61 (m_in ((nI (X 1 q))) ((nI (48))) ((nI (57)))) rfl rfl (Nat.le_of_ble_eq_true rfl) ⟨by decide, by decide⟩ dX7_nextToken_235 ?_
            refine r_topi (b := (bI (isDi (X 1 q)))) (by rw [inS_Di (hXo.2 _)]) ?_
            refine b_if_eq K 357 dX7_nextToken_238 (by decide) (fun h238 => ?_) (fun h238 => ?_)
            · have hk2 : kdS X q = 2 := by unfold kdS; rw [if_neg (by omega), if_neg (by rw [h93]; decide), if_neg (by rw [h238]; decide)]
              refine r_aload_n K 0 rfl rfl dX7_nextToken_357 ?_
              refine r_aload_n K 0 rfl rfl dX7_nextToken_358 ?_
              refine get_71_7 K fl_RX7_23 dX7_nextToken_359 ?_
              refine r_aload_n K 0 rfl rfl dX7_nextToken_362 ?_
              refine get_71_8 K fl_RX7_77 dX7_nextToken_363 ?_
              refine r_topi (b := (nI (q))) (k17) ?_
              refine r_iald K 49 (n := 200) (by decide) rfl rfl (by decide) (by omega) dX7_nextToken_366 ?_
              have hby398 := hXo.2 (q)
              refine r_topi (b := (nI (X 1 q))) (hX3.2 _ (by omega)) ?_
              refine r_bipush K ((nI (59))) (by decide) dX7_nextToken_367 ?_
              refine n_icmp_ne K 378 (by omega) (by omega) dX7_nextToken_369 (by decide) (fun h369 => ?_) (fun h369 => ?_)
              · refine r_ldc2 K (v := (-4)) kl_RX7_99 dX7_nextToken_378 ?_
                refine put_71_10 K fl_RX7_91 dX7_nextToken_381 ?_
                refine r_aload_n K 0 rfl rfl dX7_nextToken_384 ?_
                refine r_dup K rfl dX7_nextToken_385 ?_
                refine get_71_8 K fl_RX7_77 dX7_nextToken_386 ?_
                refine r_topi (b := s3.I 17) rfl ?_
                refine r_topi (b := (nI (q))) (k17) ?_
                refine r_iconst K ((nI (1))) (by decide) dX7_nextToken_389 ?_
                refine r_iadd K dX7_nextToken_390 ?_
                refine r_topi (nI_add _ _) ?_
                refine put_71_8 K fl_RX7_77 dX7_nextToken_391 ?_
                exact r_vret K hr (⟨rfl, rfl, same_sI (same_sL hs3 _) (by simp) _, by rw [sI_at]; unfold teS teA; rw [← hqa, if_neg (by omega), if_neg (by omega), if_pos hk2], by rw [sI_ne _ _ (by decide), sL_I, k18, hqa], by rw [sI_L, sL_at]; unfold tokV tokA; rw [← hqa, if_neg (by omega), if_neg (by omega), if_neg (by omega), if_neg h369], fun z => by have := of_decide_eq_true z; rw [← hqa] at this; omega⟩) dX7_nextToken_394
              · refine r_ldc2 K (v := (-3)) kl_RX7_103 dX7_nextToken_372 ?_
                refine r_goto K 381 dX7_nextToken_375 (by decide) ?_
                refine put_71_10 K fl_RX7_91 dX7_nextToken_381 ?_
                refine r_aload_n K 0 rfl rfl dX7_nextToken_384 ?_
                refine r_dup K rfl dX7_nextToken_385 ?_
                refine get_71_8 K fl_RX7_77 dX7_nextToken_386 ?_
                refine r_topi (b := s3.I 17) rfl ?_
                refine r_topi (b := (nI (q))) (k17) ?_
                refine r_iconst K ((nI (1))) (by decide) dX7_nextToken_389 ?_
                refine r_iadd K dX7_nextToken_390 ?_
                refine r_topi (nI_add _ _) ?_
                refine put_71_8 K fl_RX7_77 dX7_nextToken_391 ?_
                exact r_vret K hr (⟨rfl, rfl, same_sI (same_sL hs3 _) (by simp) _, by rw [sI_at]; unfold teS teA; rw [← hqa, if_neg (by omega), if_neg (by omega), if_pos hk2], by rw [sI_ne _ _ (by decide), sL_I, k18, hqa], by rw [sI_L, sL_at]; unfold tokV tokA; rw [← hqa, if_neg (by omega), if_neg (by omega), if_neg (by omega), if_pos h369], fun z => by have := of_decide_eq_true z; rw [← hqa] at this; omega⟩) dX7_nextToken_394
            · have lpC : ∀ (mm_ : Nat) (j : Nat) (s5 : Sg), mm_ = X 0 0 - (q + j) → (q + j ≤ X 0 0) → (same [] [17, 18, 19, 20] [] true σ s5) → (s5.I 17 = nI (q + j)) → (s5.I 18 = nI q) → (s5.I 19 = nI j) → (s5.I 20 = nI (dvS X q (min j 2))) → (rnS X isDi (q + j) = rnS X isDi q) → GJ g x 1 241 [(0, .ref (ad 71))] [] ad (s5) := by
                intro mm_
                induction mm_ using Nat.strongRecOn with
                | _ mm_ ihC =>
                  intro j s5 hmC hj hs5 d17 d18 d19 d20 drn
                  have hX5 : RepX 16 49 X s5 := RepX_same hX hs5 (by simp) (by simp)
                  refine r_aload_n K 0 rfl rfl dX7_nextToken_241 ?_
                  refine get_71_8 K fl_RX7_77 dX7_nextToken_242 ?_
                  refine r_topi (b := (nI (q + j))) (d17) ?_
                  refine r_aload_n K 0 rfl rfl dX7_nextToken_245 ?_
                  refine get_71_6 K fl_RX7_72 dX7_nextToken_246 ?_
                  refine r_topi (b := (nI (X 0 0))) (hX5.1) ?_
                  refine n_icmp_ge K 333 (by omega) (by omega) dX7_nextToken_249 (by decide) (fun h249 => ?_) (fun h249 => ?_)
                  · have hk1 : kdS X q = 1 := kd_sameDi.mp ⟨by omega, h238⟩
                    have hte : q + j = teS X p := by
                      have h1 : rnS X isDi (q + j) = q + j := rnS_end (fun z => by have z1 := z.1; have z2 := z.2; first | omega | (rw [h268] at z2; cases z2))
                      unfold teS teA
                      rw [← hqa, if_neg (by omega), if_pos hk1, ← drn, h1]
                    refine r_aload_n K 0 rfl rfl dX7_nextToken_333 ?_
                    refine r_aload_n K 0 rfl rfl dX7_nextToken_334 ?_
                    refine get_71_11 K fl_RX7_83 dX7_nextToken_335 ?_
                    refine r_topi (b := (nI (j))) (d19) ?_
                    refine r_iconst K ((nI (2))) (by decide) dX7_nextToken_338 ?_
                    refine n_icmp_le K 348 (by omega) (by omega) dX7_nextToken_339 (by decide) (fun h339 => ?_) (fun h339 => ?_)
                    · refine r_ldc2 K (v := (-1)) kl_RX7_101 dX7_nextToken_348 ?_
                      refine put_71_10 K fl_RX7_91 dX7_nextToken_351 ?_
                      refine r_goto K 394 dX7_nextToken_354 (by decide) ?_
                      exact r_vret K hr (⟨rfl, rfl, same_sL hs5 _, by rw [← hte]; exact d17, by rw [← hqa]; exact d18, by rw [sL_at]; unfold tokV tokA; rw [← hqa, if_neg (by omega), if_neg (by omega), if_pos hk1, ← hte, if_pos (by omega)], fun z => by have hz := of_decide_eq_true z; rw [← hqa, ← hte] at hz; rw [sL_I, d20, show min j 2 = j by omega]; unfold nvS; rw [← hqa, ← hte, Nat.add_sub_cancel_left]⟩) dX7_nextToken_394
                    · refine r_ldc2 K (v := (-4)) kl_RX7_99 dX7_nextToken_342 ?_
                      refine r_goto K 351 dX7_nextToken_345 (by decide) ?_
                      refine put_71_10 K fl_RX7_91 dX7_nextToken_351 ?_
                      refine r_goto K 394 dX7_nextToken_354 (by decide) ?_
                      exact r_vret K hr (⟨rfl, rfl, same_sL hs5 _, by rw [← hte]; exact d17, by rw [← hqa]; exact d18, by rw [sL_at]; unfold tokV tokA; rw [← hqa, if_neg (by omega), if_neg (by omega), if_pos hk1, ← hte, if_neg (by omega)], fun z => by have hz := of_decide_eq_true z; rw [← hqa, ← hte] at hz; rw [sL_I, d20, show min j 2 = j by omega]; unfold nvS; rw [← hqa, ← hte, Nat.add_sub_cancel_left]⟩) dX7_nextToken_394
                  · refine r_aload_n K 0 rfl rfl dX7_nextToken_252 ?_
                    refine get_71_7 K fl_RX7_23 dX7_nextToken_253 ?_
                    refine r_aload_n K 0 rfl rfl dX7_nextToken_256 ?_
                    refine get_71_8 K fl_RX7_77 dX7_nextToken_257 ?_
                    refine r_topi (b := (nI (q + j))) (d17) ?_
                    refine r_iald K 49 (n := 200) (by decide) rfl rfl (by decide) (by omega) dX7_nextToken_260 ?_
                    have hby402 := hXo.2 (q + j)
                    refine r_topi (b := (nI (X 1 (q + j)))) (hX5.2 _ (by omega)) ?_
                    refine r_bipush K ((nI (48))) (by decide) dX7_nextToken_261 ?_
                    refine r_bipush K ((nI (57))) (by decide) dX7_nextToken_263 ?_
                    refine r_callSp K (As := [.int (nI (X 1 (q + j))), .int (nI (48)), .int (nI (57))]) ms_X7_in ml_RX7_61 (m_in ((nI (X 1 (q + j)))) ((nI (48))) ((nI (57)))) rfl rfl (Nat.le_of_ble_eq_true rfl) ⟨by decide, by decide⟩ dX7_nextToken_265 ?_
                    refine r_topi (b := (bI (isDi (X 1 (q + j))))) (by rw [inS_Di (hXo.2 _)]) ?_
                    refine b_if_eq K 333 dX7_nextToken_268 (by decide) (fun h268 => ?_) (fun h268 => ?_)
                    · have hk1 : kdS X q = 1 := kd_sameDi.mp ⟨by omega, h238⟩
                      have hte : q + j = teS X p := by
                        have h1 : rnS X isDi (q + j) = q + j := rnS_end (fun z => by have z1 := z.1; have z2 := z.2; first | omega | (rw [h268] at z2; cases z2))
                        unfold teS teA
                        rw [← hqa, if_neg (by omega), if_pos hk1, ← drn, h1]
                      refine r_aload_n K 0 rfl rfl dX7_nextToken_333 ?_
                      refine r_aload_n K 0 rfl rfl dX7_nextToken_334 ?_
                      refine get_71_11 K fl_RX7_83 dX7_nextToken_335 ?_
                      refine r_topi (b := (nI (j))) (d19) ?_
                      refine r_iconst K ((nI (2))) (by decide) dX7_nextToken_338 ?_
                      refine n_icmp_le K 348 (by omega) (by omega) dX7_nextToken_339 (by decide) (fun h339 => ?_) (fun h339 => ?_)
                      · refine r_ldc2 K (v := (-1)) kl_RX7_101 dX7_nextToken_348 ?_
                        refine put_71_10 K fl_RX7_91 dX7_nextToken_351 ?_
                        refine r_goto K 394 dX7_nextToken_354 (by decide) ?_
                        exact r_vret K hr (⟨rfl, rfl, same_sL hs5 _, by rw [← hte]; exact d17, by rw [← hqa]; exact d18, by rw [sL_at]; unfold tokV tokA; rw [← hqa, if_neg (by omega), if_neg (by omega), if_pos hk1, ← hte, if_pos (by omega)], fun z => by have hz := of_decide_eq_true z; rw [← hqa, ← hte] at hz; rw [sL_I, d20, show min j 2 = j by omega]; unfold nvS; rw [← hqa, ← hte, Nat.add_sub_cancel_left]⟩) dX7_nextToken_394
                      · refine r_ldc2 K (v := (-4)) kl_RX7_99 dX7_nextToken_342 ?_
                        refine r_goto K 351 dX7_nextToken_345 (by decide) ?_
                        refine put_71_10 K fl_RX7_91 dX7_nextToken_351 ?_
                        refine r_goto K 394 dX7_nextToken_354 (by decide) ?_
                        exact r_vret K hr (⟨rfl, rfl, same_sL hs5 _, by rw [← hte]; exact d17, by rw [← hqa]; exact d18, by rw [sL_at]; unfold tokV tokA; rw [← hqa, if_neg (by omega), if_neg (by omega), if_pos hk1, ← hte, if_neg (by omega)], fun z => by have hz := of_decide_eq_true z; rw [← hqa, ← hte] at hz; rw [sL_I, d20, show min j 2 = j by omega]; unfold nvS; rw [← hqa, ← hte, Nat.add_sub_cancel_left]⟩) dX7_nextToken_394
                    · refine r_aload_n K 0 rfl rfl dX7_nextToken_271 ?_
                      refine r_aload_n K 0 rfl rfl dX7_nextToken_272 ?_
                      refine get_71_11 K fl_RX7_83 dX7_nextToken_273 ?_
                      refine r_topi (b := (nI (j))) (d19) ?_
                      refine r_iconst K ((nI (2))) (by decide) dX7_nextToken_276 ?_
                      refine n_icmp_ge K 303 (by omega) (by omega) dX7_nextToken_277 (by decide) (fun h277 => ?_) (fun h277 => ?_)
                      · refine r_aload_n K 0 rfl rfl dX7_nextToken_303 ?_
                        refine get_71_12 K fl_RX7_86 dX7_nextToken_304 ?_
                        refine r_topi (b := (nI (dvS X q (min j 2)))) (d20) ?_
                        refine put_71_12 K fl_RX7_86 dX7_nextToken_307 ?_
                        refine r_aload_n K 0 rfl rfl dX7_nextToken_310 ?_
                        refine r_dup K rfl dX7_nextToken_311 ?_
                        refine get_71_11 K fl_RX7_83 dX7_nextToken_312 ?_
                        refine r_topi (b := s5.I 19) rfl ?_
                        refine r_topi (b := (nI (j))) (d19) ?_
                        refine r_iconst K ((nI (1))) (by decide) dX7_nextToken_315 ?_
                        refine r_iadd K dX7_nextToken_316 ?_
                        refine r_topi (nI_add _ _) ?_
                        refine put_71_11 K fl_RX7_83 dX7_nextToken_317 ?_
                        refine r_aload_n K 0 rfl rfl dX7_nextToken_320 ?_
                        refine r_dup K rfl dX7_nextToken_321 ?_
                        refine get_71_8 K fl_RX7_77 dX7_nextToken_322 ?_
                        refine r_topi (b := s5.I 17) rfl ?_
                        refine r_topi (b := (nI (q + j))) (d17) ?_
                        refine r_iconst K ((nI (1))) (by decide) dX7_nextToken_325 ?_
                        refine r_iadd K dX7_nextToken_326 ?_
                        refine r_topi (nI_add _ _) ?_
                        refine put_71_8 K fl_RX7_77 dX7_nextToken_327 ?_
                        refine r_goto K 241 dX7_nextToken_330 (by decide) ?_
                        exact ihC _ (by omega) (j + 1) ((((s5).sI 20 ((nI (dvS X q (min j 2))))).sI 19 ((nI (j + 1)))).sI 17 ((nI ((q + j) + 1)))) rfl (by omega) (same_sI (same_sI (same_sI hs5 (by simp) _) (by simp) _) (by simp) _) (by rw [sI_at]; rfl) (by rw [sI_ne _ _ (by decide), sI_ne _ _ (by decide), sI_ne _ _ (by decide)]; exact d18) (by rw [sI_ne _ _ (by decide), sI_at]) (by rw [sI_ne _ _ (by decide), sI_ne _ _ (by decide), sI_at, show min (j + 1) 2 = min j 2 by omega]) (by rw [← drn]; exact (rnS_go (by omega) h268).symm)
                      · refine r_bipush K ((nI (10))) (by decide) dX7_nextToken_280 ?_
                        refine r_aload_n K 0 rfl rfl dX7_nextToken_282 ?_
                        refine get_71_12 K fl_RX7_86 dX7_nextToken_283 ?_
                        refine r_topi (b := (nI (dvS X q (min j 2)))) (d20) ?_
                        refine r_topi (b := (nI (dvS X q j))) (by rw [show min j 2 = j by omega]) ?_
                        refine r_imul K dX7_nextToken_286 ?_
                        refine r_topi (pk_mul _ _) ?_
                        refine r_aload_n K 0 rfl rfl dX7_nextToken_287 ?_
                        refine get_71_7 K fl_RX7_23 dX7_nextToken_288 ?_
                        refine r_aload_n K 0 rfl rfl dX7_nextToken_291 ?_
                        refine get_71_8 K fl_RX7_77 dX7_nextToken_292 ?_
                        refine r_topi (b := (nI (q + j))) (d17) ?_
                        refine r_iald K 49 (n := 200) (by decide) rfl rfl (by decide) (by omega) dX7_nextToken_295 ?_
                        have hby406 := hXo.2 (q + j)
                        refine r_topi (b := (nI (X 1 (q + j)))) (hX5.2 _ (by omega)) ?_
                        refine r_iadd K dX7_nextToken_296 ?_
                        refine r_topi (nI_add _ _) ?_
                        refine r_bipush K ((nI (48))) (by decide) dX7_nextToken_297 ?_
                        refine r_isub K dX7_nextToken_299 ?_
                        have hdi := of_decide_eq_true h268
                        refine r_topi (b := (nI (dvS X q (j + 1)))) (by rw [pk_sub (by omega)]; rfl) ?_
                        refine r_goto K 307 dX7_nextToken_300 (by decide) ?_
                        refine put_71_12 K fl_RX7_86 dX7_nextToken_307 ?_
                        refine r_aload_n K 0 rfl rfl dX7_nextToken_310 ?_
                        refine r_dup K rfl dX7_nextToken_311 ?_
                        refine get_71_11 K fl_RX7_83 dX7_nextToken_312 ?_
                        refine r_topi (b := s5.I 19) rfl ?_
                        refine r_topi (b := (nI (j))) (d19) ?_
                        refine r_iconst K ((nI (1))) (by decide) dX7_nextToken_315 ?_
                        refine r_iadd K dX7_nextToken_316 ?_
                        refine r_topi (nI_add _ _) ?_
                        refine put_71_11 K fl_RX7_83 dX7_nextToken_317 ?_
                        refine r_aload_n K 0 rfl rfl dX7_nextToken_320 ?_
                        refine r_dup K rfl dX7_nextToken_321 ?_
                        refine get_71_8 K fl_RX7_77 dX7_nextToken_322 ?_
                        refine r_topi (b := s5.I 17) rfl ?_
                        refine r_topi (b := (nI (q + j))) (d17) ?_
                        refine r_iconst K ((nI (1))) (by decide) dX7_nextToken_325 ?_
                        refine r_iadd K dX7_nextToken_326 ?_
                        refine r_topi (nI_add _ _) ?_
                        refine put_71_8 K fl_RX7_77 dX7_nextToken_327 ?_
                        refine r_goto K 241 dX7_nextToken_330 (by decide) ?_
                        exact ihC _ (by omega) (j + 1) ((((s5).sI 20 ((nI (dvS X q (j + 1))))).sI 19 ((nI (j + 1)))).sI 17 ((nI ((q + j) + 1)))) rfl (by omega) (same_sI (same_sI (same_sI hs5 (by simp) _) (by simp) _) (by simp) _) (by rw [sI_at]; rfl) (by rw [sI_ne _ _ (by decide), sI_ne _ _ (by decide), sI_ne _ _ (by decide)]; exact d18) (by rw [sI_ne _ _ (by decide), sI_at]) (by rw [sI_ne _ _ (by decide), sI_ne _ _ (by decide), sI_at, show min (j + 1) 2 = j + 1 by omega]) (by rw [← drn]; exact (rnS_go (by omega) h268).symm)
              exact lpC _ (0) (s3) rfl (by omega) (hs3) (k17) (k18) (k19) (k20) (rfl)
          · refine r_aload_n K 0 rfl rfl dX7_nextToken_96 ?_
            refine r_lconst K (lN 0) rfl dX7_nextToken_97 ?_
            refine put_71_10 K fl_RX7_91 dX7_nextToken_98 ?_
            have lpB : ∀ (mm_ : Nat) (e : Nat) (s4 : Sg), mm_ = X 0 0 - e → (q ≤ e ∧ e ≤ X 0 0) → (same [] [17, 18, 19, 20] [] true σ s4) → (s4.I 17 = nI e) → (s4.I 18 = nI q) → (s4.L = lvV X q (e - q)) → (rnS X isLe e = rnS X isLe q) → GJ g x 1 101 [(0, .ref (ad 71))] [] ad (s4) := by
              intro mm_
              induction mm_ using Nat.strongRecOn with
              | _ mm_ ihB =>
                intro e s4 hmB he hs4 j17 j18 jL hrn
                have hX4 : RepX 16 49 X s4 := RepX_same hX hs4 (by simp) (by simp)
                refine r_aload_n K 0 rfl rfl dX7_nextToken_101 ?_
                refine get_71_8 K fl_RX7_77 dX7_nextToken_102 ?_
                refine r_topi (b := (nI (e))) (j17) ?_
                refine r_aload_n K 0 rfl rfl dX7_nextToken_105 ?_
                refine get_71_6 K fl_RX7_72 dX7_nextToken_106 ?_
                refine r_topi (b := (nI (X 0 0))) (hX4.1) ?_
                refine n_icmp_ge K 191 (by omega) (by omega) dX7_nextToken_109 (by decide) (fun h109 => ?_) (fun h109 => ?_)
                · have hk0 : kdS X q = 0 := kd_sameLe.mp ⟨by omega, h93⟩
                  have hte : e = teS X p := by
                    have h1 : rnS X isLe e = e := rnS_end (fun z => by have z1 := z.1; have z2 := z.2; first | omega | (rw [h128] at z2; cases z2))
                    unfold teS teA
                    rw [← hqa, if_pos hk0, ← hrn, h1]
                  refine r_aload_n K 0 rfl rfl dX7_nextToken_191 ?_
                  refine r_aload_n K 0 rfl rfl dX7_nextToken_192 ?_
                  refine get_71_8 K fl_RX7_77 dX7_nextToken_193 ?_
                  refine r_topi (b := (nI (e))) (j17) ?_
                  refine r_aload_n K 0 rfl rfl dX7_nextToken_196 ?_
                  refine get_71_9 K fl_RX7_80 dX7_nextToken_197 ?_
                  refine r_topi (b := (nI (q))) (j18) ?_
                  refine r_isub K dX7_nextToken_200 ?_
                  refine r_topi (b := (nI (e - q))) (pk_sub (by omega)) ?_
                  refine r_bipush K ((nI (9))) (by decide) dX7_nextToken_201 ?_
                  refine n_icmp_le K 212 (by omega) (by omega) dX7_nextToken_203 (by decide) (fun h203 => ?_) (fun h203 => ?_)
                  · refine r_aload_n K 0 rfl rfl dX7_nextToken_212 ?_
                    refine get_71_10 K fl_RX7_91 dX7_nextToken_213 ?_
                    refine r_topl (b := (lvV X q (e - q))) (jL) ?_
                    refine put_71_10 K fl_RX7_91 dX7_nextToken_216 ?_
                    refine r_goto K 394 dX7_nextToken_219 (by decide) ?_
                    exact r_vret K hr (⟨rfl, rfl, same_sL hs4 _, by rw [← hte]; exact j17, by rw [← hqa]; exact j18, by rw [sL_at]; unfold tokV tokA; rw [← hqa, if_neg (by omega), if_pos hk0, ← hte], fun z => by have := of_decide_eq_true z; rw [← hqa] at this; omega⟩) dX7_nextToken_394
                  · refine r_ldc2 K (v := (-4)) kl_RX7_99 dX7_nextToken_206 ?_
                    refine r_goto K 216 dX7_nextToken_209 (by decide) ?_
                    refine put_71_10 K fl_RX7_91 dX7_nextToken_216 ?_
                    refine r_goto K 394 dX7_nextToken_219 (by decide) ?_
                    exact r_vret K hr (⟨rfl, rfl, same_sL hs4 _, by rw [← hte]; exact j17, by rw [← hqa]; exact j18, by rw [sL_at]; unfold tokV tokA; rw [← hqa, if_neg (by omega), if_pos hk0, ← hte, lvV, if_neg (by omega)], fun z => by have := of_decide_eq_true z; rw [← hqa] at this; omega⟩) dX7_nextToken_394
                · refine r_aload_n K 0 rfl rfl dX7_nextToken_112 ?_
                  refine get_71_7 K fl_RX7_23 dX7_nextToken_113 ?_
                  refine r_aload_n K 0 rfl rfl dX7_nextToken_116 ?_
                  refine get_71_8 K fl_RX7_77 dX7_nextToken_117 ?_
                  refine r_topi (b := (nI (e))) (j17) ?_
                  refine r_iald K 49 (n := 200) (by decide) rfl rfl (by decide) (by omega) dX7_nextToken_120 ?_
                  have hby409 := hXo.2 (e)
                  refine r_topi (b := (nI (X 1 e))) (hX4.2 _ (by omega)) ?_
                  refine r_bipush K ((nI (97))) (by decide) dX7_nextToken_121 ?_
                  refine r_bipush K ((nI (122))) (by decide) dX7_nextToken_123 ?_
                  refine r_callSp K (As := [.int (nI (X 1 e)), .int (nI (97)), .int (nI (122))]) ms_X7_in ml_RX7_61 (m_in ((nI (X 1 e))) ((nI (97))) ((nI (122)))) rfl rfl (Nat.le_of_ble_eq_true rfl) ⟨by decide, by decide⟩ dX7_nextToken_125 ?_
                  refine r_topi (b := (bI (isLe (X 1 e)))) (by rw [inS_Le (hXo.2 _)]) ?_
                  refine b_if_eq K 191 dX7_nextToken_128 (by decide) (fun h128 => ?_) (fun h128 => ?_)
                  · have hk0 : kdS X q = 0 := kd_sameLe.mp ⟨by omega, h93⟩
                    have hte : e = teS X p := by
                      have h1 : rnS X isLe e = e := rnS_end (fun z => by have z1 := z.1; have z2 := z.2; first | omega | (rw [h128] at z2; cases z2))
                      unfold teS teA
                      rw [← hqa, if_pos hk0, ← hrn, h1]
                    refine r_aload_n K 0 rfl rfl dX7_nextToken_191 ?_
                    refine r_aload_n K 0 rfl rfl dX7_nextToken_192 ?_
                    refine get_71_8 K fl_RX7_77 dX7_nextToken_193 ?_
                    refine r_topi (b := (nI (e))) (j17) ?_
                    refine r_aload_n K 0 rfl rfl dX7_nextToken_196 ?_
                    refine get_71_9 K fl_RX7_80 dX7_nextToken_197 ?_
                    refine r_topi (b := (nI (q))) (j18) ?_
                    refine r_isub K dX7_nextToken_200 ?_
                    refine r_topi (b := (nI (e - q))) (pk_sub (by omega)) ?_
                    refine r_bipush K ((nI (9))) (by decide) dX7_nextToken_201 ?_
                    refine n_icmp_le K 212 (by omega) (by omega) dX7_nextToken_203 (by decide) (fun h203 => ?_) (fun h203 => ?_)
                    · refine r_aload_n K 0 rfl rfl dX7_nextToken_212 ?_
                      refine get_71_10 K fl_RX7_91 dX7_nextToken_213 ?_
                      refine r_topl (b := (lvV X q (e - q))) (jL) ?_
                      refine put_71_10 K fl_RX7_91 dX7_nextToken_216 ?_
                      refine r_goto K 394 dX7_nextToken_219 (by decide) ?_
                      exact r_vret K hr (⟨rfl, rfl, same_sL hs4 _, by rw [← hte]; exact j17, by rw [← hqa]; exact j18, by rw [sL_at]; unfold tokV tokA; rw [← hqa, if_neg (by omega), if_pos hk0, ← hte], fun z => by have := of_decide_eq_true z; rw [← hqa] at this; omega⟩) dX7_nextToken_394
                    · refine r_ldc2 K (v := (-4)) kl_RX7_99 dX7_nextToken_206 ?_
                      refine r_goto K 216 dX7_nextToken_209 (by decide) ?_
                      refine put_71_10 K fl_RX7_91 dX7_nextToken_216 ?_
                      refine r_goto K 394 dX7_nextToken_219 (by decide) ?_
                      exact r_vret K hr (⟨rfl, rfl, same_sL hs4 _, by rw [← hte]; exact j17, by rw [← hqa]; exact j18, by rw [sL_at]; unfold tokV tokA; rw [← hqa, if_neg (by omega), if_pos hk0, ← hte, lvV, if_neg (by omega)], fun z => by have := of_decide_eq_true z; rw [← hqa] at this; omega⟩) dX7_nextToken_394
                  · refine r_aload_n K 0 rfl rfl dX7_nextToken_131 ?_
                    refine r_aload_n K 0 rfl rfl dX7_nextToken_132 ?_
                    refine get_71_8 K fl_RX7_77 dX7_nextToken_133 ?_
                    refine r_topi (b := (nI (e))) (j17) ?_
                    refine r_aload_n K 0 rfl rfl dX7_nextToken_136 ?_
                    refine get_71_9 K fl_RX7_80 dX7_nextToken_137 ?_
                    refine r_topi (b := (nI (q))) (j18) ?_
                    refine r_isub K dX7_nextToken_140 ?_
                    refine r_topi (b := (nI (e - q))) (pk_sub (by omega)) ?_
                    refine r_bipush K ((nI (9))) (by decide) dX7_nextToken_141 ?_
                    refine n_icmp_ge K 172 (by omega) (by omega) dX7_nextToken_143 (by decide) (fun h143 => ?_) (fun h143 => ?_)
                    · refine r_ldc2 K (v := (-4)) kl_RX7_99 dX7_nextToken_172 ?_
                      refine put_71_10 K fl_RX7_91 dX7_nextToken_175 ?_
                      refine r_aload_n K 0 rfl rfl dX7_nextToken_178 ?_
                      refine r_dup K rfl dX7_nextToken_179 ?_
                      refine get_71_8 K fl_RX7_77 dX7_nextToken_180 ?_
                      refine r_topi (b := s4.I 17) rfl ?_
                      refine r_topi (b := (nI (e))) (j17) ?_
                      refine r_iconst K ((nI (1))) (by decide) dX7_nextToken_183 ?_
                      refine r_iadd K dX7_nextToken_184 ?_
                      refine r_topi (nI_add _ _) ?_
                      refine put_71_8 K fl_RX7_77 dX7_nextToken_185 ?_
                      refine r_goto K 101 dX7_nextToken_188 (by decide) ?_
                      exact ihB _ (by omega) (e + 1) (((s4).sL ((-4))).sI 17 ((nI (e + 1)))) rfl (by omega) (same_sI (same_sL hs4 _) (by simp) _) (sI_at _ _ _) (by rw [sI_ne _ _ (by decide)]; exact j18) (by rw [sI_L, sL_at, lvV, if_neg (by omega)]) (by rw [← hrn]; exact (rnS_go (by omega) h128).symm)
                    · refine r_ldc2 K (v := (lN (27))) kl_RX7_95 dX7_nextToken_146 ?_
                      refine r_aload_n K 0 rfl rfl dX7_nextToken_149 ?_
                      refine get_71_10 K fl_RX7_91 dX7_nextToken_150 ?_
                      refine r_topl (b := (lN (wvS (lvw X q) (e - q)))) (by rw [jL, lvV, if_pos (by omega)]) ?_
                      refine r_lmul K dX7_nextToken_153 ?_
                      refine r_topl (lN_mul _ _) ?_
                      refine r_aload_n K 0 rfl rfl dX7_nextToken_154 ?_
                      refine get_71_7 K fl_RX7_23 dX7_nextToken_155 ?_
                      refine r_aload_n K 0 rfl rfl dX7_nextToken_158 ?_
                      refine get_71_8 K fl_RX7_77 dX7_nextToken_159 ?_
                      refine r_topi (b := (nI (e))) (j17) ?_
                      refine r_iald K 49 (n := 200) (by decide) rfl rfl (by decide) (by omega) dX7_nextToken_162 ?_
                      have hby413 := hXo.2 (e)
                      refine r_topi (b := (nI (X 1 e))) (hX4.2 _ (by omega)) ?_
                      refine r_i2l K dX7_nextToken_163 ?_
                      refine r_topl (nI_l (by omega)) ?_
                      refine r_ladd K dX7_nextToken_164 ?_
                      refine r_topl (lN_add _ _) ?_
                      refine r_ldc2 K (v := (lN (96))) kl_RX7_97 dX7_nextToken_165 ?_
                      refine r_lsub K dX7_nextToken_168 ?_
                      have hle := of_decide_eq_true h128
                      refine r_topl (b := (lN (wvS (lvw X q) (e - q + 1)))) (by rw [lN_sub (by omega), wvS, lvw, show q + (e - q) = e by omega, Nat.add_sub_assoc (by omega)]) ?_
                      refine r_goto K 175 dX7_nextToken_169 (by decide) ?_
                      refine put_71_10 K fl_RX7_91 dX7_nextToken_175 ?_
                      refine r_aload_n K 0 rfl rfl dX7_nextToken_178 ?_
                      refine r_dup K rfl dX7_nextToken_179 ?_
                      refine get_71_8 K fl_RX7_77 dX7_nextToken_180 ?_
                      refine r_topi (b := s4.I 17) rfl ?_
                      refine r_topi (b := (nI (e))) (j17) ?_
                      refine r_iconst K ((nI (1))) (by decide) dX7_nextToken_183 ?_
                      refine r_iadd K dX7_nextToken_184 ?_
                      refine r_topi (nI_add _ _) ?_
                      refine put_71_8 K fl_RX7_77 dX7_nextToken_185 ?_
                      refine r_goto K 101 dX7_nextToken_188 (by decide) ?_
                      exact ihB _ (by omega) (e + 1) (((s4).sL ((lN (wvS (lvw X q) (e - q + 1))))).sI 17 ((nI (e + 1)))) rfl (by omega) (same_sI (same_sL hs4 _) (by simp) _) (sI_at _ _ _) (by rw [sI_ne _ _ (by decide)]; exact j18) (by rw [sI_L, sL_at, lvV, if_pos (by omega), show e + 1 - q = e - q + 1 by omega]) (by rw [← hrn]; exact (rnS_go (by omega) h128).symm)
            exact lpB _ (q) ((s3).sL ((lN (0)))) rfl (⟨Nat.le_refl _, hq⟩) (same_sL hs3 _) (k17) (k18) (by rw [sL_at, lvV, Nat.sub_self, if_pos (by omega)]; rfl) (rfl)
        · have hk3 : kdS X q = 3 := by unfold kdS; rw [if_pos (by omega)]
          refine r_aload_n K 0 rfl rfl dX7_nextToken_67 ?_
          refine r_ldc2 K (v := (-2)) kl_RX7_89 dX7_nextToken_68 ?_
          refine put_71_10 K fl_RX7_91 dX7_nextToken_71 ?_
          refine r_goto K 394 dX7_nextToken_74 (by decide) ?_
          exact r_vret K hr (⟨rfl, rfl, same_sL hs3 _, by rw [show ((s3).sL ((-2))).I 17 = s3.I 17 from rfl, k17, h64]; unfold teS teA; rw [← hqa, if_neg (by omega), if_neg (by omega), if_neg (by omega), h64], by rw [show ((s3).sL ((-2))).I 18 = s3.I 18 from rfl, k18, hqa], by rw [sL_at]; unfold tokV tokA; rw [← hqa, if_pos hk3], fun z => by have := of_decide_eq_true z; rw [← hqa] at this; omega⟩) dX7_nextToken_394
      · refine r_aload_n K 0 rfl rfl dX7_nextToken_11 ?_
        refine get_71_7 K fl_RX7_23 dX7_nextToken_12 ?_
        refine r_aload_n K 0 rfl rfl dX7_nextToken_15 ?_
        refine get_71_8 K fl_RX7_77 dX7_nextToken_16 ?_
        refine r_topi (b := (nI (q))) (g17) ?_
        refine r_iald K 49 (n := 200) (by decide) rfl rfl (by decide) (by omega) dX7_nextToken_19 ?_
        have hby414 := hXo.2 (q)
        refine r_topi (b := (nI (X 1 q))) (hX1.2 _ (by omega)) ?_
        refine r_bipush K ((nI (32))) (by decide) dX7_nextToken_20 ?_
        refine n_icmp_ne K 38 (by omega) (by omega) dX7_nextToken_22 (by decide) (fun h22 => ?_) (fun h22 => ?_)
        · have hqa : q = tkS X p := by rw [← ht]; unfold tkS; rw [rnS_end (fun z => by have z1 := z.1; have z2 := of_decide_eq_true z.2; omega)]
          refine r_aload_n K 0 rfl rfl dX7_nextToken_38 ?_
          refine r_aload_n K 0 rfl rfl dX7_nextToken_39 ?_
          refine get_71_8 K fl_RX7_77 dX7_nextToken_40 ?_
          refine r_topi (b := (nI (q))) (g17) ?_
          refine put_71_9 K fl_RX7_80 dX7_nextToken_43 ?_
          refine r_aload_n K 0 rfl rfl dX7_nextToken_46 ?_
          refine r_iconst K ((nI (0))) (by decide) dX7_nextToken_47 ?_
          refine put_71_11 K fl_RX7_83 dX7_nextToken_48 ?_
          refine r_aload_n K 0 rfl rfl dX7_nextToken_51 ?_
          refine r_iconst K ((nI (0))) (by decide) dX7_nextToken_52 ?_
          refine put_71_12 K fl_RX7_86 dX7_nextToken_53 ?_
          have hs3 : same [] [17, 18, 19, 20] [] true σ ((((s1).sI 18 ((nI (q)))).sI 19 ((nI (0)))).sI 20 ((nI (0)))) := same_sI (same_sI (same_sI (same_w hs1 (by simp) (by simp) (by simp) (fun _ => rfl)) (by simp) _) (by simp) _) (by simp) _
          have k17 : ((((s1).sI 18 ((nI (q)))).sI 19 ((nI (0)))).sI 20 ((nI (0)))).I 17 = nI q := by rw [sI_ne _ _ (by decide), sI_ne _ _ (by decide), sI_ne _ _ (by decide)]; exact g17
          have k18 : ((((s1).sI 18 ((nI (q)))).sI 19 ((nI (0)))).sI 20 ((nI (0)))).I 18 = nI q := by rw [sI_ne _ _ (by decide), sI_ne _ _ (by decide), sI_at]
          have k19 : ((((s1).sI 18 ((nI (q)))).sI 19 ((nI (0)))).sI 20 ((nI (0)))).I 19 = nI 0 := by rw [sI_ne _ _ (by decide), sI_at]
          have k20 : ((((s1).sI 18 ((nI (q)))).sI 19 ((nI (0)))).sI 20 ((nI (0)))).I 20 = nI 0 := sI_at _ _ _
          generalize ez : (((s1).sI 18 ((nI (q)))).sI 19 ((nI (0)))).sI 20 ((nI (0))) = s3 at hs3 k17 k18 k19 k20 ⊢
          have hX3 : RepX 16 49 X s3 := RepX_same hX hs3 (by simp) (by simp)
          have htp : tkS X p ≤ X 0 0 := by rw [← hqa]; exact hq
          refine r_aload_n K 0 rfl rfl dX7_nextToken_56 ?_
          refine get_71_8 K fl_RX7_77 dX7_nextToken_57 ?_
          refine r_topi (b := (nI (q))) (k17) ?_
          refine r_aload_n K 0 rfl rfl dX7_nextToken_60 ?_
          refine get_71_6 K fl_RX7_72 dX7_nextToken_61 ?_
          refine r_topi (b := (nI (X 0 0))) (hX3.1) ?_
          refine n_icmp_ne K 77 (by omega) (by omega) dX7_nextToken_64 (by decide) (fun h64 => ?_) (fun h64 => ?_)
          · refine r_aload_n K 0 rfl rfl dX7_nextToken_77 ?_
            refine get_71_7 K fl_RX7_23 dX7_nextToken_78 ?_
            refine r_aload_n K 0 rfl rfl dX7_nextToken_81 ?_
            refine get_71_8 K fl_RX7_77 dX7_nextToken_82 ?_
            refine r_topi (b := (nI (q))) (k17) ?_
            refine r_iald K 49 (n := 200) (by decide) rfl rfl (by decide) (by omega) dX7_nextToken_85 ?_
            have hby417 := hXo.2 (q)
            refine r_topi (b := (nI (X 1 q))) (hX3.2 _ (by omega)) ?_
            refine r_bipush K ((nI (97))) (by decide) dX7_nextToken_86 ?_
            refine r_bipush K ((nI (122))) (by decide) dX7_nextToken_88 ?_
            refine r_callSp K (As := [.int (nI (X 1 q)), .int (nI (97)), .int (nI (122))]) ms_X7_in ml_RX7_61 (m_in ((nI (X 1 q))) ((nI (97))) ((nI (122)))) rfl rfl (Nat.le_of_ble_eq_true rfl) ⟨by decide, by decide⟩ dX7_nextToken_90 ?_
            refine r_topi (b := (bI (isLe (X 1 q)))) (by rw [inS_Le (hXo.2 _)]) ?_
            refine b_if_eq K 222 dX7_nextToken_93 (by decide) (fun h93 => ?_) (fun h93 => ?_)
            · refine r_aload_n K 0 rfl rfl dX7_nextToken_222 ?_
              refine get_71_7 K fl_RX7_23 dX7_nextToken_223 ?_
              refine r_aload_n K 0 rfl rfl dX7_nextToken_226 ?_
              refine get_71_8 K fl_RX7_77 dX7_nextToken_227 ?_
              refine r_topi (b := (nI (q))) (k17) ?_
              refine r_iald K 49 (n := 200) (by decide) rfl rfl (by decide) (by omega) dX7_nextToken_230 ?_
              have hby419 := hXo.2 (q)
              refine r_topi (b := (nI (X 1 q))) (hX3.2 _ (by omega)) ?_
              refine r_bipush K ((nI (48))) (by decide) dX7_nextToken_231 ?_
              refine r_bipush K ((nI (57))) (by decide) dX7_nextToken_233 ?_
              refine r_callSp K (As := [.int (nI (X 1 q)), .int (nI (48)), .int (nI (57))]) ms_X7_in ml_RX7_61 (m_in ((nI (X 1 q))) ((nI (48))) ((nI (57)))) rfl rfl (Nat.le_of_ble_eq_true rfl) ⟨by decide, by decide⟩ dX7_nextToken_235 ?_
              refine r_topi (b := (bI (isDi (X 1 q)))) (by rw [inS_Di (hXo.2 _)]) ?_
              refine b_if_eq K 357 dX7_nextToken_238 (by decide) (fun h238 => ?_) (fun h238 => ?_)
              · have hk2 : kdS X q = 2 := by unfold kdS; rw [if_neg (by omega), if_neg (by rw [h93]; decide), if_neg (by rw [h238]; decide)]
                refine r_aload_n K 0 rfl rfl dX7_nextToken_357 ?_
                refine r_aload_n K 0 rfl rfl dX7_nextToken_358 ?_
                refine get_71_7 K fl_RX7_23 dX7_nextToken_359 ?_
                refine r_aload_n K 0 rfl rfl dX7_nextToken_362 ?_
                refine get_71_8 K fl_RX7_77 dX7_nextToken_363 ?_
                refine r_topi (b := (nI (q))) (k17) ?_
                refine r_iald K 49 (n := 200) (by decide) rfl rfl (by decide) (by omega) dX7_nextToken_366 ?_
                have hby421 := hXo.2 (q)
                refine r_topi (b := (nI (X 1 q))) (hX3.2 _ (by omega)) ?_
                refine r_bipush K ((nI (59))) (by decide) dX7_nextToken_367 ?_
                refine n_icmp_ne K 378 (by omega) (by omega) dX7_nextToken_369 (by decide) (fun h369 => ?_) (fun h369 => ?_)
                · refine r_ldc2 K (v := (-4)) kl_RX7_99 dX7_nextToken_378 ?_
                  refine put_71_10 K fl_RX7_91 dX7_nextToken_381 ?_
                  refine r_aload_n K 0 rfl rfl dX7_nextToken_384 ?_
                  refine r_dup K rfl dX7_nextToken_385 ?_
                  refine get_71_8 K fl_RX7_77 dX7_nextToken_386 ?_
                  refine r_topi (b := s3.I 17) rfl ?_
                  refine r_topi (b := (nI (q))) (k17) ?_
                  refine r_iconst K ((nI (1))) (by decide) dX7_nextToken_389 ?_
                  refine r_iadd K dX7_nextToken_390 ?_
                  refine r_topi (nI_add _ _) ?_
                  refine put_71_8 K fl_RX7_77 dX7_nextToken_391 ?_
                  exact r_vret K hr (⟨rfl, rfl, same_sI (same_sL hs3 _) (by simp) _, by rw [sI_at]; unfold teS teA; rw [← hqa, if_neg (by omega), if_neg (by omega), if_pos hk2], by rw [sI_ne _ _ (by decide), sL_I, k18, hqa], by rw [sI_L, sL_at]; unfold tokV tokA; rw [← hqa, if_neg (by omega), if_neg (by omega), if_neg (by omega), if_neg h369], fun z => by have := of_decide_eq_true z; rw [← hqa] at this; omega⟩) dX7_nextToken_394
                · refine r_ldc2 K (v := (-3)) kl_RX7_103 dX7_nextToken_372 ?_
                  refine r_goto K 381 dX7_nextToken_375 (by decide) ?_
                  refine put_71_10 K fl_RX7_91 dX7_nextToken_381 ?_
                  refine r_aload_n K 0 rfl rfl dX7_nextToken_384 ?_
                  refine r_dup K rfl dX7_nextToken_385 ?_
                  refine get_71_8 K fl_RX7_77 dX7_nextToken_386 ?_
                  refine r_topi (b := s3.I 17) rfl ?_
                  refine r_topi (b := (nI (q))) (k17) ?_
                  refine r_iconst K ((nI (1))) (by decide) dX7_nextToken_389 ?_
                  refine r_iadd K dX7_nextToken_390 ?_
                  refine r_topi (nI_add _ _) ?_
                  refine put_71_8 K fl_RX7_77 dX7_nextToken_391 ?_
                  exact r_vret K hr (⟨rfl, rfl, same_sI (same_sL hs3 _) (by simp) _, by rw [sI_at]; unfold teS teA; rw [← hqa, if_neg (by omega), if_neg (by omega), if_pos hk2], by rw [sI_ne _ _ (by decide), sL_I, k18, hqa], by rw [sI_L, sL_at]; unfold tokV tokA; rw [← hqa, if_neg (by omega), if_neg (by omega), if_neg (by omega), if_pos h369], fun z => by have := of_decide_eq_true z; rw [← hqa] at this; omega⟩) dX7_nextToken_394
              · have lpC : ∀ (mm_ : Nat) (j : Nat) (s5 : Sg), mm_ = X 0 0 - (q + j) → (q + j ≤ X 0 0) → (same [] [17, 18, 19, 20] [] true σ s5) → (s5.I 17 = nI (q + j)) → (s5.I 18 = nI q) → (s5.I 19 = nI j) → (s5.I 20 = nI (dvS X q (min j 2))) → (rnS X isDi (q + j) = rnS X isDi q) → GJ g x 1 241 [(0, .ref (ad 71))] [] ad (s5) := by
                  intro mm_
                  induction mm_ using Nat.strongRecOn with
                  | _ mm_ ihC =>
                    intro j s5 hmC hj hs5 d17 d18 d19 d20 drn
                    have hX5 : RepX 16 49 X s5 := RepX_same hX hs5 (by simp) (by simp)
                    refine r_aload_n K 0 rfl rfl dX7_nextToken_241 ?_
                    refine get_71_8 K fl_RX7_77 dX7_nextToken_242 ?_
                    refine r_topi (b := (nI (q + j))) (d17) ?_
                    refine r_aload_n K 0 rfl rfl dX7_nextToken_245 ?_
                    refine get_71_6 K fl_RX7_72 dX7_nextToken_246 ?_
                    refine r_topi (b := (nI (X 0 0))) (hX5.1) ?_
                    refine n_icmp_ge K 333 (by omega) (by omega) dX7_nextToken_249 (by decide) (fun h249 => ?_) (fun h249 => ?_)
                    · have hk1 : kdS X q = 1 := kd_sameDi.mp ⟨by omega, h238⟩
                      have hte : q + j = teS X p := by
                        have h1 : rnS X isDi (q + j) = q + j := rnS_end (fun z => by have z1 := z.1; have z2 := z.2; first | omega | (rw [h268] at z2; cases z2))
                        unfold teS teA
                        rw [← hqa, if_neg (by omega), if_pos hk1, ← drn, h1]
                      refine r_aload_n K 0 rfl rfl dX7_nextToken_333 ?_
                      refine r_aload_n K 0 rfl rfl dX7_nextToken_334 ?_
                      refine get_71_11 K fl_RX7_83 dX7_nextToken_335 ?_
                      refine r_topi (b := (nI (j))) (d19) ?_
                      refine r_iconst K ((nI (2))) (by decide) dX7_nextToken_338 ?_
                      refine n_icmp_le K 348 (by omega) (by omega) dX7_nextToken_339 (by decide) (fun h339 => ?_) (fun h339 => ?_)
                      · refine r_ldc2 K (v := (-1)) kl_RX7_101 dX7_nextToken_348 ?_
                        refine put_71_10 K fl_RX7_91 dX7_nextToken_351 ?_
                        refine r_goto K 394 dX7_nextToken_354 (by decide) ?_
                        exact r_vret K hr (⟨rfl, rfl, same_sL hs5 _, by rw [← hte]; exact d17, by rw [← hqa]; exact d18, by rw [sL_at]; unfold tokV tokA; rw [← hqa, if_neg (by omega), if_neg (by omega), if_pos hk1, ← hte, if_pos (by omega)], fun z => by have hz := of_decide_eq_true z; rw [← hqa, ← hte] at hz; rw [sL_I, d20, show min j 2 = j by omega]; unfold nvS; rw [← hqa, ← hte, Nat.add_sub_cancel_left]⟩) dX7_nextToken_394
                      · refine r_ldc2 K (v := (-4)) kl_RX7_99 dX7_nextToken_342 ?_
                        refine r_goto K 351 dX7_nextToken_345 (by decide) ?_
                        refine put_71_10 K fl_RX7_91 dX7_nextToken_351 ?_
                        refine r_goto K 394 dX7_nextToken_354 (by decide) ?_
                        exact r_vret K hr (⟨rfl, rfl, same_sL hs5 _, by rw [← hte]; exact d17, by rw [← hqa]; exact d18, by rw [sL_at]; unfold tokV tokA; rw [← hqa, if_neg (by omega), if_neg (by omega), if_pos hk1, ← hte, if_neg (by omega)], fun z => by have hz := of_decide_eq_true z; rw [← hqa, ← hte] at hz; rw [sL_I, d20, show min j 2 = j by omega]; unfold nvS; rw [← hqa, ← hte, Nat.add_sub_cancel_left]⟩) dX7_nextToken_394
                    · refine r_aload_n K 0 rfl rfl dX7_nextToken_252 ?_
                      refine get_71_7 K fl_RX7_23 dX7_nextToken_253 ?_
                      refine r_aload_n K 0 rfl rfl dX7_nextToken_256 ?_
                      refine get_71_8 K fl_RX7_77 dX7_nextToken_257 ?_
                      refine r_topi (b := (nI (q + j))) (d17) ?_
                      refine r_iald K 49 (n := 200) (by decide) rfl rfl (by decide) (by omega) dX7_nextToken_260 ?_
                      have hby425 := hXo.2 (q + j)
                      refine r_topi (b := (nI (X 1 (q + j)))) (hX5.2 _ (by omega)) ?_
                      refine r_bipush K ((nI (48))) (by decide) dX7_nextToken_261 ?_
                      refine r_bipush K ((nI (57))) (by decide) dX7_nextToken_263 ?_
                      refine r_callSp K (As := [.int (nI (X 1 (q + j))), .int (nI (48)), .int (nI (57))]) ms_X7_in ml_RX7_61 (m_in ((nI (X 1 (q + j)))) ((nI (48))) ((nI (57)))) rfl rfl (Nat.le_of_ble_eq_true rfl) ⟨by decide, by decide⟩ dX7_nextToken_265 ?_
                      refine r_topi (b := (bI (isDi (X 1 (q + j))))) (by rw [inS_Di (hXo.2 _)]) ?_
                      refine b_if_eq K 333 dX7_nextToken_268 (by decide) (fun h268 => ?_) (fun h268 => ?_)
                      · have hk1 : kdS X q = 1 := kd_sameDi.mp ⟨by omega, h238⟩
                        have hte : q + j = teS X p := by
                          have h1 : rnS X isDi (q + j) = q + j := rnS_end (fun z => by have z1 := z.1; have z2 := z.2; first | omega | (rw [h268] at z2; cases z2))
                          unfold teS teA
                          rw [← hqa, if_neg (by omega), if_pos hk1, ← drn, h1]
                        refine r_aload_n K 0 rfl rfl dX7_nextToken_333 ?_
                        refine r_aload_n K 0 rfl rfl dX7_nextToken_334 ?_
                        refine get_71_11 K fl_RX7_83 dX7_nextToken_335 ?_
                        refine r_topi (b := (nI (j))) (d19) ?_
                        refine r_iconst K ((nI (2))) (by decide) dX7_nextToken_338 ?_
                        refine n_icmp_le K 348 (by omega) (by omega) dX7_nextToken_339 (by decide) (fun h339 => ?_) (fun h339 => ?_)
                        · refine r_ldc2 K (v := (-1)) kl_RX7_101 dX7_nextToken_348 ?_
                          refine put_71_10 K fl_RX7_91 dX7_nextToken_351 ?_
                          refine r_goto K 394 dX7_nextToken_354 (by decide) ?_
                          exact r_vret K hr (⟨rfl, rfl, same_sL hs5 _, by rw [← hte]; exact d17, by rw [← hqa]; exact d18, by rw [sL_at]; unfold tokV tokA; rw [← hqa, if_neg (by omega), if_neg (by omega), if_pos hk1, ← hte, if_pos (by omega)], fun z => by have hz := of_decide_eq_true z; rw [← hqa, ← hte] at hz; rw [sL_I, d20, show min j 2 = j by omega]; unfold nvS; rw [← hqa, ← hte, Nat.add_sub_cancel_left]⟩) dX7_nextToken_394
                        · refine r_ldc2 K (v := (-4)) kl_RX7_99 dX7_nextToken_342 ?_
                          refine r_goto K 351 dX7_nextToken_345 (by decide) ?_
                          refine put_71_10 K fl_RX7_91 dX7_nextToken_351 ?_
                          refine r_goto K 394 dX7_nextToken_354 (by decide) ?_
                          exact r_vret K hr (⟨rfl, rfl, same_sL hs5 _, by rw [← hte]; exact d17, by rw [← hqa]; exact d18, by rw [sL_at]; unfold tokV tokA; rw [← hqa, if_neg (by omega), if_neg (by omega), if_pos hk1, ← hte, if_neg (by omega)], fun z => by have hz := of_decide_eq_true z; rw [← hqa, ← hte] at hz; rw [sL_I, d20, show min j 2 = j by omega]; unfold nvS; rw [← hqa, ← hte, Nat.add_sub_cancel_left]⟩) dX7_nextToken_394
                      · refine r_aload_n K 0 rfl rfl dX7_nextToken_271 ?_
                        refine r_aload_n K 0 rfl rfl dX7_nextToken_272 ?_
                        refine get_71_11 K fl_RX7_83 dX7_nextToken_273 ?_
                        refine r_topi (b := (nI (j))) (d19) ?_
                        refine r_iconst K ((nI (2))) (by decide) dX7_nextToken_276 ?_
                        refine n_icmp_ge K 303 (by omega) (by omega) dX7_nextToken_277 (by decide) (fun h277 => ?_) (fun h277 => ?_)
                        · refine r_aload_n K 0 rfl rfl dX7_nextToken_303 ?_
                          refine get_71_12 K fl_RX7_86 dX7_nextToken_304 ?_
                          refine r_topi (b := (nI (dvS X q (min j 2)))) (d20) ?_
                          refine put_71_12 K fl_RX7_86 dX7_nextToken_307 ?_
                          refine r_aload_n K 0 rfl rfl dX7_nextToken_310 ?_
                          refine r_dup K rfl dX7_nextToken_311 ?_
                          refine get_71_11 K fl_RX7_83 dX7_nextToken_312 ?_
                          refine r_topi (b := s5.I 19) rfl ?_
                          refine r_topi (b := (nI (j))) (d19) ?_
                          refine r_iconst K ((nI (1))) (by decide) dX7_nextToken_315 ?_
                          refine r_iadd K dX7_nextToken_316 ?_
                          refine r_topi (nI_add _ _) ?_
                          refine put_71_11 K fl_RX7_83 dX7_nextToken_317 ?_
                          refine r_aload_n K 0 rfl rfl dX7_nextToken_320 ?_
                          refine r_dup K rfl dX7_nextToken_321 ?_
                          refine get_71_8 K fl_RX7_77 dX7_nextToken_322 ?_
                          refine r_topi (b := s5.I 17) rfl ?_
                          refine r_topi (b := (nI (q + j))) (d17) ?_
                          refine r_iconst K ((nI (1))) (by decide) dX7_nextToken_325 ?_
                          refine r_iadd K dX7_nextToken_326 ?_
                          refine r_topi (nI_add _ _) ?_
                          refine put_71_8 K fl_RX7_77 dX7_nextToken_327 ?_
                          refine r_goto K 241 dX7_nextToken_330 (by decide) ?_
                          exact ihC _ (by omega) (j + 1) ((((s5).sI 20 ((nI (dvS X q (min j 2))))).sI 19 ((nI (j + 1)))).sI 17 ((nI ((q + j) + 1)))) rfl (by omega) (same_sI (same_sI (same_sI hs5 (by simp) _) (by simp) _) (by simp) _) (by rw [sI_at]; rfl) (by rw [sI_ne _ _ (by decide), sI_ne _ _ (by decide), sI_ne _ _ (by decide)]; exact d18) (by rw [sI_ne _ _ (by decide), sI_at]) (by rw [sI_ne _ _ (by decide), sI_ne _ _ (by decide), sI_at, show min (j + 1) 2 = min j 2 by omega]) (by rw [← drn]; exact (rnS_go (by omega) h268).symm)
                        · refine r_bipush K ((nI (10))) (by decide) dX7_nextToken_280 ?_
                          refine r_aload_n K 0 rfl rfl dX7_nextToken_282 ?_
                          refine get_71_12 K fl_RX7_86 dX7_nextToken_283 ?_
                          refine r_topi (b := (nI (dvS X q (min j 2)))) (d20) ?_
                          refine r_topi (b := (nI (dvS X q j))) (by rw [show min j 2 = j by omega]) ?_
                          refine r_imul K dX7_nextToken_286 ?_
                          refine r_topi (pk_mul _ _) ?_
                          refine r_aload_n K 0 rfl rfl dX7_nextToken_287 ?_
                          refine get_71_7 K fl_RX7_23 dX7_nextToken_288 ?_
                          refine r_aload_n K 0 rfl rfl dX7_nextToken_291 ?_
                          refine get_71_8 K fl_RX7_77 dX7_nextToken_292 ?_
                          refine r_topi (b := (nI (q + j))) (d17) ?_
                          refine r_iald K 49 (n := 200) (by decide) rfl rfl (by decide) (by omega) dX7_nextToken_295 ?_
                          have hby429 := hXo.2 (q + j)
                          refine r_topi (b := (nI (X 1 (q + j)))) (hX5.2 _ (by omega)) ?_
                          refine r_iadd K dX7_nextToken_296 ?_
                          refine r_topi (nI_add _ _) ?_
                          refine r_bipush K ((nI (48))) (by decide) dX7_nextToken_297 ?_
                          refine r_isub K dX7_nextToken_299 ?_
                          have hdi := of_decide_eq_true h268
                          refine r_topi (b := (nI (dvS X q (j + 1)))) (by rw [pk_sub (by omega)]; rfl) ?_
                          refine r_goto K 307 dX7_nextToken_300 (by decide) ?_
                          refine put_71_12 K fl_RX7_86 dX7_nextToken_307 ?_
                          refine r_aload_n K 0 rfl rfl dX7_nextToken_310 ?_
                          refine r_dup K rfl dX7_nextToken_311 ?_
                          refine get_71_11 K fl_RX7_83 dX7_nextToken_312 ?_
                          refine r_topi (b := s5.I 19) rfl ?_
                          refine r_topi (b := (nI (j))) (d19) ?_
                          refine r_iconst K ((nI (1))) (by decide) dX7_nextToken_315 ?_
                          refine r_iadd K dX7_nextToken_316 ?_
                          refine r_topi (nI_add _ _) ?_
                          refine put_71_11 K fl_RX7_83 dX7_nextToken_317 ?_
                          refine r_aload_n K 0 rfl rfl dX7_nextToken_320 ?_
                          refine r_dup K rfl dX7_nextToken_321 ?_
                          refine get_71_8 K fl_RX7_77 dX7_nextToken_322 ?_
                          refine r_topi (b := s5.I 17) rfl ?_
                          refine r_topi (b := (nI (q + j))) (d17) ?_
                          refine r_iconst K ((nI (1))) (by decide) dX7_nextToken_325 ?_
                          refine r_iadd K dX7_nextToken_326 ?_
                          refine r_topi (nI_add _ _) ?_
                          refine put_71_8 K fl_RX7_77 dX7_nextToken_327 ?_
                          refine r_goto K 241 dX7_nextToken_330 (by decide) ?_
                          exact ihC _ (by omega) (j + 1) ((((s5).sI 20 ((nI (dvS X q (j + 1))))).sI 19 ((nI (j + 1)))).sI 17 ((nI ((q + j) + 1)))) rfl (by omega) (same_sI (same_sI (same_sI hs5 (by simp) _) (by simp) _) (by simp) _) (by rw [sI_at]; rfl) (by rw [sI_ne _ _ (by decide), sI_ne _ _ (by decide), sI_ne _ _ (by decide)]; exact d18) (by rw [sI_ne _ _ (by decide), sI_at]) (by rw [sI_ne _ _ (by decide), sI_ne _ _ (by decide), sI_at, show min (j + 1) 2 = j + 1 by omega]) (by rw [← drn]; exact (rnS_go (by omega) h268).symm)
                exact lpC _ (0) (s3) rfl (by omega) (hs3) (k17) (k18) (k19) (k20) (rfl)
            · refine r_aload_n K 0 rfl rfl dX7_nextToken_96 ?_
              refine r_lconst K (lN 0) rfl dX7_nextToken_97 ?_
              refine put_71_10 K fl_RX7_91 dX7_nextToken_98 ?_
              have lpB : ∀ (mm_ : Nat) (e : Nat) (s4 : Sg), mm_ = X 0 0 - e → (q ≤ e ∧ e ≤ X 0 0) → (same [] [17, 18, 19, 20] [] true σ s4) → (s4.I 17 = nI e) → (s4.I 18 = nI q) → (s4.L = lvV X q (e - q)) → (rnS X isLe e = rnS X isLe q) → GJ g x 1 101 [(0, .ref (ad 71))] [] ad (s4) := by
                intro mm_
                induction mm_ using Nat.strongRecOn with
                | _ mm_ ihB =>
                  intro e s4 hmB he hs4 j17 j18 jL hrn
                  have hX4 : RepX 16 49 X s4 := RepX_same hX hs4 (by simp) (by simp)
                  refine r_aload_n K 0 rfl rfl dX7_nextToken_101 ?_
                  refine get_71_8 K fl_RX7_77 dX7_nextToken_102 ?_
                  refine r_topi (b := (nI (e))) (j17) ?_
                  refine r_aload_n K 0 rfl rfl dX7_nextToken_105 ?_
                  refine get_71_6 K fl_RX7_72 dX7_nextToken_106 ?_
                  refine r_topi (b := (nI (X 0 0))) (hX4.1) ?_
                  refine n_icmp_ge K 191 (by omega) (by omega) dX7_nextToken_109 (by decide) (fun h109 => ?_) (fun h109 => ?_)
                  · have hk0 : kdS X q = 0 := kd_sameLe.mp ⟨by omega, h93⟩
                    have hte : e = teS X p := by
                      have h1 : rnS X isLe e = e := rnS_end (fun z => by have z1 := z.1; have z2 := z.2; first | omega | (rw [h128] at z2; cases z2))
                      unfold teS teA
                      rw [← hqa, if_pos hk0, ← hrn, h1]
                    refine r_aload_n K 0 rfl rfl dX7_nextToken_191 ?_
                    refine r_aload_n K 0 rfl rfl dX7_nextToken_192 ?_
                    refine get_71_8 K fl_RX7_77 dX7_nextToken_193 ?_
                    refine r_topi (b := (nI (e))) (j17) ?_
                    refine r_aload_n K 0 rfl rfl dX7_nextToken_196 ?_
                    refine get_71_9 K fl_RX7_80 dX7_nextToken_197 ?_
                    refine r_topi (b := (nI (q))) (j18) ?_
                    refine r_isub K dX7_nextToken_200 ?_
                    refine r_topi (b := (nI (e - q))) (pk_sub (by omega)) ?_
                    refine r_bipush K ((nI (9))) (by decide) dX7_nextToken_201 ?_
                    refine n_icmp_le K 212 (by omega) (by omega) dX7_nextToken_203 (by decide) (fun h203 => ?_) (fun h203 => ?_)
                    · refine r_aload_n K 0 rfl rfl dX7_nextToken_212 ?_
                      refine get_71_10 K fl_RX7_91 dX7_nextToken_213 ?_
                      refine r_topl (b := (lvV X q (e - q))) (jL) ?_
                      refine put_71_10 K fl_RX7_91 dX7_nextToken_216 ?_
                      refine r_goto K 394 dX7_nextToken_219 (by decide) ?_
                      exact r_vret K hr (⟨rfl, rfl, same_sL hs4 _, by rw [← hte]; exact j17, by rw [← hqa]; exact j18, by rw [sL_at]; unfold tokV tokA; rw [← hqa, if_neg (by omega), if_pos hk0, ← hte], fun z => by have := of_decide_eq_true z; rw [← hqa] at this; omega⟩) dX7_nextToken_394
                    · refine r_ldc2 K (v := (-4)) kl_RX7_99 dX7_nextToken_206 ?_
                      refine r_goto K 216 dX7_nextToken_209 (by decide) ?_
                      refine put_71_10 K fl_RX7_91 dX7_nextToken_216 ?_
                      refine r_goto K 394 dX7_nextToken_219 (by decide) ?_
                      exact r_vret K hr (⟨rfl, rfl, same_sL hs4 _, by rw [← hte]; exact j17, by rw [← hqa]; exact j18, by rw [sL_at]; unfold tokV tokA; rw [← hqa, if_neg (by omega), if_pos hk0, ← hte, lvV, if_neg (by omega)], fun z => by have := of_decide_eq_true z; rw [← hqa] at this; omega⟩) dX7_nextToken_394
                  · refine r_aload_n K 0 rfl rfl dX7_nextToken_112 ?_
                    refine get_71_7 K fl_RX7_23 dX7_nextToken_113 ?_
                    refine r_aload_n K 0 rfl rfl dX7_nextToken_116 ?_
                    refine get_71_8 K fl_RX7_77 dX7_nextToken_117 ?_
                    refine r_topi (b := (nI (e))) (j17) ?_
                    refine r_iald K 49 (n := 200) (by decide) rfl rfl (by decide) (by omega) dX7_nextToken_120 ?_
                    have hby432 := hXo.2 (e)
                    refine r_topi (b := (nI (X 1 e))) (hX4.2 _ (by omega)) ?_
                    refine r_bipush K ((nI (97))) (by decide) dX7_nextToken_121 ?_
                    refine r_bipush K ((nI (122))) (by decide) dX7_nextToken_123 ?_
                    refine r_callSp K (As := [.int (nI (X 1 e)), .int (nI (97)), .int (nI (122))]) ms_X7_in ml_RX7_61 (m_in ((nI (X 1 e))) ((nI (97))) ((nI (122)))) rfl rfl (Nat.le_of_ble_eq_true rfl) ⟨by decide, by decide⟩ dX7_nextToken_125 ?_
                    refine r_topi (b := (bI (isLe (X 1 e)))) (by rw [inS_Le (hXo.2 _)]) ?_
                    refine b_if_eq K 191 dX7_nextToken_128 (by decide) (fun h128 => ?_) (fun h128 => ?_)
                    · have hk0 : kdS X q = 0 := kd_sameLe.mp ⟨by omega, h93⟩
                      have hte : e = teS X p := by
                        have h1 : rnS X isLe e = e := rnS_end (fun z => by have z1 := z.1; have z2 := z.2; first | omega | (rw [h128] at z2; cases z2))
                        unfold teS teA
                        rw [← hqa, if_pos hk0, ← hrn, h1]
                      refine r_aload_n K 0 rfl rfl dX7_nextToken_191 ?_
                      refine r_aload_n K 0 rfl rfl dX7_nextToken_192 ?_
                      refine get_71_8 K fl_RX7_77 dX7_nextToken_193 ?_
                      refine r_topi (b := (nI (e))) (j17) ?_
                      refine r_aload_n K 0 rfl rfl dX7_nextToken_196 ?_
                      refine get_71_9 K fl_RX7_80 dX7_nextToken_197 ?_
                      refine r_topi (b := (nI (q))) (j18) ?_
                      refine r_isub K dX7_nextToken_200 ?_
                      refine r_topi (b := (nI (e - q))) (pk_sub (by omega)) ?_
                      refine r_bipush K ((nI (9))) (by decide) dX7_nextToken_201 ?_
                      refine n_icmp_le K 212 (by omega) (by omega) dX7_nextToken_203 (by decide) (fun h203 => ?_) (fun h203 => ?_)
                      · refine r_aload_n K 0 rfl rfl dX7_nextToken_212 ?_
                        refine get_71_10 K fl_RX7_91 dX7_nextToken_213 ?_
                        refine r_topl (b := (lvV X q (e - q))) (jL) ?_
                        refine put_71_10 K fl_RX7_91 dX7_nextToken_216 ?_
                        refine r_goto K 394 dX7_nextToken_219 (by decide) ?_
                        exact r_vret K hr (⟨rfl, rfl, same_sL hs4 _, by rw [← hte]; exact j17, by rw [← hqa]; exact j18, by rw [sL_at]; unfold tokV tokA; rw [← hqa, if_neg (by omega), if_pos hk0, ← hte], fun z => by have := of_decide_eq_true z; rw [← hqa] at this; omega⟩) dX7_nextToken_394
                      · refine r_ldc2 K (v := (-4)) kl_RX7_99 dX7_nextToken_206 ?_
                        refine r_goto K 216 dX7_nextToken_209 (by decide) ?_
                        refine put_71_10 K fl_RX7_91 dX7_nextToken_216 ?_
                        refine r_goto K 394 dX7_nextToken_219 (by decide) ?_
                        exact r_vret K hr (⟨rfl, rfl, same_sL hs4 _, by rw [← hte]; exact j17, by rw [← hqa]; exact j18, by rw [sL_at]; unfold tokV tokA; rw [← hqa, if_neg (by omega), if_pos hk0, ← hte, lvV, if_neg (by omega)], fun z => by have := of_decide_eq_true z; rw [← hqa] at this; omega⟩) dX7_nextToken_394
                    · refine r_aload_n K 0 rfl rfl dX7_nextToken_131 ?_
                      refine r_aload_n K 0 rfl rfl dX7_nextToken_132 ?_
                      refine get_71_8 K fl_RX7_77 dX7_nextToken_133 ?_
                      refine r_topi (b := (nI (e))) (j17) ?_
                      refine r_aload_n K 0 rfl rfl dX7_nextToken_136 ?_
                      refine get_71_9 K fl_RX7_80 dX7_nextToken_137 ?_
                      refine r_topi (b := (nI (q))) (j18) ?_
                      refine r_isub K dX7_nextToken_140 ?_
                      refine r_topi (b := (nI (e - q))) (pk_sub (by omega)) ?_
                      refine r_bipush K ((nI (9))) (by decide) dX7_nextToken_141 ?_
                      refine n_icmp_ge K 172 (by omega) (by omega) dX7_nextToken_143 (by decide) (fun h143 => ?_) (fun h143 => ?_)
                      · refine r_ldc2 K (v := (-4)) kl_RX7_99 dX7_nextToken_172 ?_
                        refine put_71_10 K fl_RX7_91 dX7_nextToken_175 ?_
                        refine r_aload_n K 0 rfl rfl dX7_nextToken_178 ?_
                        refine r_dup K rfl dX7_nextToken_179 ?_
                        refine get_71_8 K fl_RX7_77 dX7_nextToken_180 ?_
                        refine r_topi (b := s4.I 17) rfl ?_
                        refine r_topi (b := (nI (e))) (j17) ?_
                        refine r_iconst K ((nI (1))) (by decide) dX7_nextToken_183 ?_
                        refine r_iadd K dX7_nextToken_184 ?_
                        refine r_topi (nI_add _ _) ?_
                        refine put_71_8 K fl_RX7_77 dX7_nextToken_185 ?_
                        refine r_goto K 101 dX7_nextToken_188 (by decide) ?_
                        exact ihB _ (by omega) (e + 1) (((s4).sL ((-4))).sI 17 ((nI (e + 1)))) rfl (by omega) (same_sI (same_sL hs4 _) (by simp) _) (sI_at _ _ _) (by rw [sI_ne _ _ (by decide)]; exact j18) (by rw [sI_L, sL_at, lvV, if_neg (by omega)]) (by rw [← hrn]; exact (rnS_go (by omega) h128).symm)
                      · refine r_ldc2 K (v := (lN (27))) kl_RX7_95 dX7_nextToken_146 ?_
                        refine r_aload_n K 0 rfl rfl dX7_nextToken_149 ?_
                        refine get_71_10 K fl_RX7_91 dX7_nextToken_150 ?_
                        refine r_topl (b := (lN (wvS (lvw X q) (e - q)))) (by rw [jL, lvV, if_pos (by omega)]) ?_
                        refine r_lmul K dX7_nextToken_153 ?_
                        refine r_topl (lN_mul _ _) ?_
                        refine r_aload_n K 0 rfl rfl dX7_nextToken_154 ?_
                        refine get_71_7 K fl_RX7_23 dX7_nextToken_155 ?_
                        refine r_aload_n K 0 rfl rfl dX7_nextToken_158 ?_
                        refine get_71_8 K fl_RX7_77 dX7_nextToken_159 ?_
                        refine r_topi (b := (nI (e))) (j17) ?_
                        refine r_iald K 49 (n := 200) (by decide) rfl rfl (by decide) (by omega) dX7_nextToken_162 ?_
                        have hby436 := hXo.2 (e)
                        refine r_topi (b := (nI (X 1 e))) (hX4.2 _ (by omega)) ?_
                        refine r_i2l K dX7_nextToken_163 ?_
                        refine r_topl (nI_l (by omega)) ?_
                        refine r_ladd K dX7_nextToken_164 ?_
                        refine r_topl (lN_add _ _) ?_
                        refine r_ldc2 K (v := (lN (96))) kl_RX7_97 dX7_nextToken_165 ?_
                        refine r_lsub K dX7_nextToken_168 ?_
                        have hle := of_decide_eq_true h128
                        refine r_topl (b := (lN (wvS (lvw X q) (e - q + 1)))) (by rw [lN_sub (by omega), wvS, lvw, show q + (e - q) = e by omega, Nat.add_sub_assoc (by omega)]) ?_
                        refine r_goto K 175 dX7_nextToken_169 (by decide) ?_
                        refine put_71_10 K fl_RX7_91 dX7_nextToken_175 ?_
                        refine r_aload_n K 0 rfl rfl dX7_nextToken_178 ?_
                        refine r_dup K rfl dX7_nextToken_179 ?_
                        refine get_71_8 K fl_RX7_77 dX7_nextToken_180 ?_
                        refine r_topi (b := s4.I 17) rfl ?_
                        refine r_topi (b := (nI (e))) (j17) ?_
                        refine r_iconst K ((nI (1))) (by decide) dX7_nextToken_183 ?_
                        refine r_iadd K dX7_nextToken_184 ?_
                        refine r_topi (nI_add _ _) ?_
                        refine put_71_8 K fl_RX7_77 dX7_nextToken_185 ?_
                        refine r_goto K 101 dX7_nextToken_188 (by decide) ?_
                        exact ihB _ (by omega) (e + 1) (((s4).sL ((lN (wvS (lvw X q) (e - q + 1))))).sI 17 ((nI (e + 1)))) rfl (by omega) (same_sI (same_sL hs4 _) (by simp) _) (sI_at _ _ _) (by rw [sI_ne _ _ (by decide)]; exact j18) (by rw [sI_L, sL_at, lvV, if_pos (by omega), show e + 1 - q = e - q + 1 by omega]) (by rw [← hrn]; exact (rnS_go (by omega) h128).symm)
              exact lpB _ (q) ((s3).sL ((lN (0)))) rfl (⟨Nat.le_refl _, hq⟩) (same_sL hs3 _) (k17) (k18) (by rw [sL_at, lvV, Nat.sub_self, if_pos (by omega)]; rfl) (rfl)
          · have hk3 : kdS X q = 3 := by unfold kdS; rw [if_pos (by omega)]
            refine r_aload_n K 0 rfl rfl dX7_nextToken_67 ?_
            refine r_ldc2 K (v := (-2)) kl_RX7_89 dX7_nextToken_68 ?_
            refine put_71_10 K fl_RX7_91 dX7_nextToken_71 ?_
            refine r_goto K 394 dX7_nextToken_74 (by decide) ?_
            exact r_vret K hr (⟨rfl, rfl, same_sL hs3 _, by rw [show ((s3).sL ((-2))).I 17 = s3.I 17 from rfl, k17, h64]; unfold teS teA; rw [← hqa, if_neg (by omega), if_neg (by omega), if_neg (by omega), h64], by rw [show ((s3).sL ((-2))).I 18 = s3.I 18 from rfl, k18, hqa], by rw [sL_at]; unfold tokV tokA; rw [← hqa, if_pos hk3], fun z => by have := of_decide_eq_true z; rw [← hqa] at this; omega⟩) dX7_nextToken_394
        · refine r_aload_n K 0 rfl rfl dX7_nextToken_25 ?_
          refine r_dup K rfl dX7_nextToken_26 ?_
          refine get_71_8 K fl_RX7_77 dX7_nextToken_27 ?_
          refine r_topi (b := (nI (q))) (g17) ?_
          refine r_iconst K ((nI (1))) (by decide) dX7_nextToken_30 ?_
          refine r_iadd K dX7_nextToken_31 ?_
          refine r_topi (nI_add _ _) ?_
          refine put_71_8 K fl_RX7_77 dX7_nextToken_32 ?_
          refine r_goto K 0 dX7_nextToken_35 (by decide) ?_
          exact ihA _ (by omega) (q + 1) ((s1).sI 17 ((nI (q + 1)))) rfl (by omega) (by rw [← ht]; exact (rnS_go (c := isBl) (by omega) (decide_eq_true (by omega))).symm) (same_sI hs1 (by simp) _) (sI_at _ _ _)
  exact lpA _ (p) (σ) rfl (hp) (rfl) (same_rf _ _ _ _ _) (g17p)

