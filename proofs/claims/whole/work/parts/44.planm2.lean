theorem grd_step {T : Tv} {b : Nat} {kn : Nat → Nat → Nat → Bool} {h p l x : Nat} {ns : List Nat} (hh : h < 24) (hg : grdP T b kn (24 - h) p l (x :: ns)) : p ≠ 160 ∧ x < 6 ∧ thrV T b kn (leftV T b kn (24 - (h + 1))) h p l x = leftV T b kn (24 - h) p l ∧ (∀ k, k < x → thrV T b kn (leftV T b kn (24 - (h + 1))) h p l k ≠ leftV T b kn (24 - h) p l) ∧ grdP T b kn (24 - (h + 1)) (goS T b p x h) x ns := by
  rw [show 24 - h = (24 - (h + 1)) + 1 by omega] at hg ⊢
  obtain ⟨g1, g2, g3, g4, g5⟩ := hg
  rw [show 24 - (24 - (h + 1) + 1) = h by omega] at g3 g4 g5
  exact ⟨g1, g2, g3, g4, g5⟩
def mlE (σ s2 : Sg) : Prop := same [54, 55, 56, 57, 58] [24, 25] [] false σ s2
theorem mlE_M {T : Tv} {σ s : Sg} (h : RepM T σ) (hs : mlE σ s) : RepM T s := h.same hs (by simp) (by simp)
theorem first_out {f : Nat → Bool} : ∀ (n h : Nat), (∀ k, h ≤ k → f k = false) → firstF f n h = -1
  | 0, _, _ => rfl
  | n + 1, h, hf => by
    rw [firstF, if_neg (by rw [hf h (Nat.le_refl _)]; decide)]
    exact first_out n (h + 1) (fun k hk => hf k (by omega))
theorem fH_out {T : Tv} {b : Nat} {ms : List Nat} {r l h : Nat} (hh : ms.length ≤ h) : fH T b ms r l h = false := decide_eq_false (fun z => by omega)
theorem lastL_takelt {T : Tv} {b : Nat} {kn : Nat → Nat → Nat → Bool} {h p : Nat} {ms : List Nat} (h6 : sixL ms) : ∀ i, lastL 0 (ms.take i) < 6
  | 0 => by rw [List.take_zero]; decide
  | i + 1 => by
    by_cases q : i < ms.length
    · rw [lastL_take q]; exact six_at h6 i
    · rw [List.take_of_length_le (by omega)]
      have := lastL_takelt (T := T) (b := b) (kn := kn) (h := h) (p := p) h6 i
      rwa [List.take_of_length_le (by omega)] at this
set_option maxHeartbeats 1000000 in
set_option maxRecDepth 10000 in
theorem m_findPlan {g : Gp} {lau : Launch} {ad : Nat → Nat} {σ : Sg} {T : Tv} (hT : TOk T) (hR : RepM T σ) {b h0 : Nat} {kn : Nat → Nat → Nat → Bool} (hb : b < 4) (hw1 : 1 ≤ T 6 b) (hh0 : h0 < 24) (hL : LineR 57 58 kn σ) : Con g lau yX7_findPlan cX7_findPlan 9 (Option.some .boolean) 5 129 [.ref (ad 71), .int (nI (b)), .int (nI (h0))] ad σ (fun r a2 s2 => some (.int (bI (plS T b kn h0).isSome)) = r ∧ ad = a2 ∧ same [54, 55, 56] [24, 25] [] false σ s2 ∧ plM T b h0 (plS T b kn h0) s2) := by
  refine con_mk (by decide) (Nat.le_of_ble_eq_true rfl) (fun x hxl K hr => ?_)
  subst hxl
  refine r_lv (lv' := [(0, .ref (ad 71)), (1, .int (nI (b))), (2, .int (nI (h0)))]) rfl ?_
  have hn8 := hT.2.1
  have hn9 := hT.2.2.1
  have htb := tbits_lt hT
  have hsv := validP_le hT (validP_start hT)
  refine r_aload_n K 0 rfl rfl dX7_findPlan_0 ?_
  refine r_iload_n K 1 rfl rfl dX7_findPlan_1 ?_
  refine r_iload_n K 2 rfl rfl dX7_findPlan_2 ?_
  refine r_callV K 71 (As := [.int (nI (b)), .int (nI (h0))]) (rest := []) mv_X7_layLeft ml_RX7_220 (m_layLeft hT hR (b := b) (h0 := h0) (kn := kn) hb hw1 (by omega) hL) (by decide) rfl rfl rfl rfl (Nat.le_of_ble_eq_true rfl) ⟨by decide, by decide⟩ dX7_findPlan_3 (fun r_l ad_l s_l h_l => ?_)
  obtain ⟨rfl, rfl, hsl, hla⟩ := h_l
  refine r_st (st' := []) rfl ?_
  refine r_aload_n K 0 rfl rfl dX7_findPlan_6 ?_
  refine r_callVp K 71 (As := []) mv_X7_start ml_RX7_169 (m_start hT (hR.same hsl (by simp) (by simp))) (by decide) rfl rfl rfl rfl (Nat.le_of_ble_eq_true rfl) ⟨by decide, by decide⟩ dX7_findPlan_7 ?_
  refine r_istore_n K (lv' := [(3, .int (nI (startS T))), (0, .ref (ad 71)), (1, .int (nI (b))), (2, .int (nI (h0)))]) 3 rfl (by decide) rfl dX7_findPlan_10 ?_
  refine r_iconst K ((nI (0))) (by decide) dX7_findPlan_11 ?_
  refine r_istore K (lv' := [(4, .int (nI (0))), (3, .int (nI (startS T))), (0, .ref (ad 71)), (1, .int (nI (b))), (2, .int (nI (h0)))]) (by decide) rfl dX7_findPlan_12 ?_
  refine r_aload_n K 0 rfl rfl dX7_findPlan_14 ?_
  refine get_71_20 K fl_RX7_39 dX7_findPlan_15 ?_
  refine r_sipush K ((nI (966))) (by decide) dX7_findPlan_18 ?_
  refine r_iload_n K 2 rfl rfl dX7_findPlan_21 ?_
  refine r_imul K dX7_findPlan_22 ?_
  refine r_topi (pk_mul _ _) ?_
  refine r_bipush K ((nI (6))) (by decide) dX7_findPlan_23 ?_
  refine r_iload_n K 3 rfl rfl dX7_findPlan_25 ?_
  refine r_imul K dX7_findPlan_26 ?_
  refine r_topi (pk_mul _ _) ?_
  refine r_iadd K dX7_findPlan_27 ?_
  refine r_topi (nI_add _ _) ?_
  refine r_iald K 54 (n := 24150) (by decide) rfl rfl (by decide) (by omega) dX7_findPlan_28 ?_
  have hlt := leftV_top (T := T) (b := b) (kn := kn) (24 - h0) (startS T) 0
  refine r_topi (b := (nI (leftV T b kn (24 - h0) (startS T) 0))) (by have hz := hla h0 (6 * startS T + 0) (Nat.le_refl _) (by omega) (by omega); rw [lfX_at (validP_start hT) (by decide)] at hz; exact hz) ?_
  refine r_istore K (lv' := [(5, .int (nI (leftV T b kn (24 - h0) (startS T) 0))), (4, .int (nI (0))), (3, .int (nI (startS T))), (0, .ref (ad 71)), (1, .int (nI (b))), (2, .int (nI (h0)))]) (by decide) rfl dX7_findPlan_29 ?_
  refine r_iload K rfl dX7_findPlan_31 ?_
  refine r_ldc K (v := nI 1000000) ki_RX7_212 dX7_findPlan_33 ?_
  refine n_icmp_lt K 40 (by omega) (by omega) dX7_findPlan_35 (by decide) (fun h35 => ?_) (fun h35 => ?_)
  · obtain ⟨ms, hgr⟩ := grd_ex (24 - h0) h35
    have hB := grd_best (by omega) (by decide) h35 hgr
    have hKe := (grd_cmp (24 - h0) (by omega) h35 hgr).2
    rw [show 24 - (24 - h0) = h0 by omega] at hB
    have hK := KL_len hB.1.1 (by omega) (by decide : 0 < 6)
    have hpS := plS_some (by omega) hB
    have h6 := okP_six hB.1.1
    have hln := okP_len hB.1.1 (by omega)
    refine r_aload_n K 0 rfl rfl dX7_findPlan_40 ?_
    refine r_iload K rfl dX7_findPlan_41 ?_
    refine r_sipush K ((nI (1000))) (by decide) dX7_findPlan_43 ?_
    refine r_idiv K (nI_ne0 (by omega) (by omega)) dX7_findPlan_46 ?_
    refine r_topi (pk_div (by omega) (by omega) (by omega)) ?_
    refine r_topi (b := (nI (ms.length))) (by rw [← hKe, hK.1]) ?_
    refine put_71_21 K fl_RX7_224 dX7_findPlan_47 ?_
    refine r_aload_n K 0 rfl rfl dX7_findPlan_50 ?_
    refine r_iload K rfl dX7_findPlan_51 ?_
    refine r_sipush K ((nI (1000))) (by decide) dX7_findPlan_53 ?_
    refine r_irem K (nI_ne0 (by omega) (by omega)) dX7_findPlan_56 ?_
    refine r_topi (pk_rem (by omega) (by omega) (by omega)) ?_
    refine r_topi (b := (nI (runL 0 ms))) (by rw [← hKe, hK.2.1]) ?_
    refine put_71_22 K fl_RX7_227 dX7_findPlan_57 ?_
    refine r_iconst K ((nI (0))) (by decide) dX7_findPlan_60 ?_
    refine r_istore K (lv' := [(6, .int (nI (0))), (5, .int (nI (leftV T b kn (24 - h0) (startS T) 0))), (4, .int (nI (0))), (3, .int (nI (startS T))), (0, .ref (ad 71)), (1, .int (nI (b))), (2, .int (nI (h0)))]) (by decide) rfl dX7_findPlan_61 ?_
    refine r_pick [4, 5, 6, 3, 2, 0] (lv' := [(0, .ref (ad 71)), (1, .int (nI (b))), (2, .int (nI (h0))), (3, .int (nI (startS T))), (4, .int (nI (0))), (6, .int (nI (0)))]) rfl ?_
    have lpA : ∀ (mm_ : Nat) (i : Nat) (p : Nat) (l : Nat) (s1 : Sg), mm_ = ms.length - i → (i ≤ ms.length) → (p = endP T b h0 (startS T) (ms.take i)) → (l = lastL 0 (ms.take i)) → (grdP T b kn (24 - (h0 + i)) p l (ms.drop i)) → (leftV T b kn (24 - (h0 + i)) p l < 1000000) → (same [54, 55, 56] [24, 25] [] false σ s1) → (s1.I 24 = nI ms.length) → (s1.I 25 = nI (runL 0 ms)) → (∀ h s, h0 ≤ h → h ≤ 24 → s < 966 → s1.A 54 (966 * h + s) = nI (lfX T b kn h s)) → (∀ k, k < i → s1.A 55 k = nI (ms.getD k 0) ∧ s1.A 56 k = nI (endP T b h0 (startS T) (ms.take (k + 1)))) → GJ g x 9 63 [(0, .ref (ad 71)), (1, .int (nI (b))), (2, .int (nI (h0))), (3, .int (nI (p))), (4, .int (nI (l))), (6, .int (nI (i)))] [] ad (s1) := by
      intro mm_
      induction mm_ using Nat.strongRecOn with
      | _ mm_ ihA =>
        intro i p l s1 hmA hi hp hl hg hlf hs1 h24 h25 hA hpl
        refine r_iload K rfl dX7_findPlan_63 ?_
        refine r_aload_n K 0 rfl rfl dX7_findPlan_65 ?_
        refine get_71_21 K fl_RX7_224 dX7_findPlan_66 ?_
        refine r_topi (b := (nI (ms.length))) (h24) ?_
        refine n_icmp_ge K 159 (by omega) (by omega) dX7_findPlan_69 (by decide) (fun h69 => ?_) (fun h69 => ?_)
        · refine r_iconst K ((nI (1))) (by decide) dX7_findPlan_159 ?_
          exact r_zret K (b := true) hr (⟨by rw [hpS]; rfl, rfl, hs1, by rw [hpS]; exact fun ns e => by cases e; exact ⟨h24, h25, fun k hk => hpl k (by omega)⟩⟩) dX7_findPlan_160
        · have hil : i < ms.length := by omega
          rw [drop_s hil] at hg
          have hgs := grd_step (by omega) hg
          have hvp : validP T p := by rw [hp]; exact endP_valid hT (validP_start hT)
          have hvl := validP_le hT hvp
          have hl6 : l < 6 := by rw [hl]; exact lastL_takelt (T := T) (b := b) (kn := kn) (h := 0) (p := 0) h6 i
          have hlv := leftV_top (T := T) (b := b) (kn := kn) (24 - (h0 + i)) p l
          refine r_iload_n K 2 rfl rfl dX7_findPlan_72 ?_
          refine r_iload K rfl dX7_findPlan_73 ?_
          refine r_iadd K dX7_findPlan_75 ?_
          refine r_topi (nI_add _ _) ?_
          refine r_istore K (lv' := [(7, .int (nI (h0 + i))), (0, .ref (ad 71)), (1, .int (nI (b))), (2, .int (nI (h0))), (3, .int (nI (p))), (4, .int (nI (l))), (6, .int (nI (i)))]) (by decide) rfl dX7_findPlan_76 ?_
          refine r_iconst K ((nI (0))) (by decide) dX7_findPlan_78 ?_
          refine r_istore K (lv' := [(8, .int (nI (0))), (7, .int (nI (h0 + i))), (0, .ref (ad 71)), (1, .int (nI (b))), (2, .int (nI (h0))), (3, .int (nI (p))), (4, .int (nI (l))), (6, .int (nI (i)))]) (by decide) rfl dX7_findPlan_79 ?_
          have hx6 := six_at h6 i
          refine r_pick [2, 3, 4, 5, 6, 7, 1, 0] (lv' := [(0, .ref (ad 71)), (1, .int (nI (b))), (2, .int (nI (h0))), (3, .int (nI (p))), (4, .int (nI (l))), (6, .int (nI (i))), (7, .int (nI (h0 + i))), (8, .int (nI (0)))]) rfl ?_
          have lpB : ∀ (mm_ : Nat) (m : Nat), mm_ = ms.getD i 0 - m → (m ≤ ms.getD i 0) → GJ g x 9 81 [(0, .ref (ad 71)), (1, .int (nI (b))), (2, .int (nI (h0))), (3, .int (nI (p))), (4, .int (nI (l))), (6, .int (nI (i))), (7, .int (nI (h0 + i))), (8, .int (nI (m)))] [] ad (s1) := by
            intro mm_
            induction mm_ using Nat.strongRecOn with
            | _ mm_ ihB =>
              intro m hmB hm
              refine r_aload_n K 0 rfl rfl dX7_findPlan_81 ?_
              refine r_iload_n K 1 rfl rfl dX7_findPlan_82 ?_
              refine r_iload_n K 3 rfl rfl dX7_findPlan_83 ?_
              refine r_iload K rfl dX7_findPlan_84 ?_
              refine r_iload K rfl dX7_findPlan_86 ?_
              refine r_iload K rfl dX7_findPlan_88 ?_
              refine r_callVp K 71 (As := [.int (nI (b)), .int (nI (p)), .int (nI (l)), .int (nI (m)), .int (nI (h0 + i))]) mv_X7_through ml_RX7_216 (m_through hT (hR.same hs1 (by simp) (by simp)) (b := b) (p := p) (l := l) (m := m) (h := h0 + i) (kn := kn) (V := leftV T b kn (24 - (h0 + i + 1))) hb hw1 hvp hl6 (by omega) (by omega) (LineR_same hL hs1 (by simp) (by simp)) (fun q m => leftV_top _ _ _) (fun q m hq hm => by rw [show 966 * (h0 + i + 1) + 6 * q + m = 966 * (h0 + i + 1) + (6 * q + m) by omega, hA (h0 + i + 1) _ (by omega) (by omega) (by have := validP_le hT hq; omega), lfX_at hq hm])) (by decide) rfl rfl rfl rfl (Nat.le_of_ble_eq_true rfl) ⟨by decide, by decide⟩ dX7_findPlan_90 ?_
              have htv : thrV T b kn (leftV T b kn (24 - (h0 + i + 1))) (h0 + i) p l m ≤ 1001005 := thrV_top (fun q m => leftV_top _ _ _) (offS_le6 hl6 (by omega))
              refine r_aload_n K 0 rfl rfl dX7_findPlan_93 ?_
              refine get_71_20 K fl_RX7_39 dX7_findPlan_94 ?_
              refine r_sipush K ((nI (966))) (by decide) dX7_findPlan_97 ?_
              refine r_iload K rfl dX7_findPlan_100 ?_
              refine r_imul K dX7_findPlan_102 ?_
              refine r_topi (pk_mul _ _) ?_
              refine r_bipush K ((nI (6))) (by decide) dX7_findPlan_103 ?_
              refine r_iload_n K 3 rfl rfl dX7_findPlan_105 ?_
              refine r_imul K dX7_findPlan_106 ?_
              refine r_topi (pk_mul _ _) ?_
              refine r_iadd K dX7_findPlan_107 ?_
              refine r_topi (nI_add _ _) ?_
              refine r_iload K rfl dX7_findPlan_108 ?_
              refine r_iadd K dX7_findPlan_110 ?_
              refine r_topi (nI_add _ _) ?_
              refine r_iald K 54 (n := 24150) (by decide) rfl rfl (by decide) (by omega) dX7_findPlan_111 ?_
              refine r_topi (b := (nI (leftV T b kn (24 - (h0 + i)) p l))) (by rw [show 966 * (h0 + i) + 6 * p + l = 966 * (h0 + i) + (6 * p + l) by omega, hA (h0 + i) _ (by omega) (by omega) (by omega), lfX_at hvp hl6]) ?_
              refine n_icmp_eq K 121 (by omega) (by omega) dX7_findPlan_112 (by decide) (fun h112 => ?_) (fun h112 => ?_)
              · have hmx : m = ms.getD i 0 := by by_cases e : m < ms.getD i 0; exact absurd h112 (hgs.2.2.2.1 m e); omega
                refine r_aload_n K 0 rfl rfl dX7_findPlan_121 ?_
                refine r_iload_n K 1 rfl rfl dX7_findPlan_122 ?_
                refine r_iload_n K 3 rfl rfl dX7_findPlan_123 ?_
                refine r_iload K rfl dX7_findPlan_124 ?_
                refine r_iload K rfl dX7_findPlan_126 ?_
                refine r_callVp K 71 (As := [.int (nI (b)), .int (nI (p)), .int (nI (m)), .int (nI (h0 + i))]) mv_X7_goes ml_RX7_205 (m_goes hT (hR.same hs1 (by simp) (by simp)) (b := b) (p := p) (l := m) (h := h0 + i) hb hw1 (by omega) (by omega) (validP_or hvp)) (by decide) rfl rfl rfl rfl (Nat.le_of_ble_eq_true rfl) ⟨by decide, by decide⟩ dX7_findPlan_128 ?_
                refine r_istore_n K (lv' := [(3, .int (nI (goS T b p m (h0 + i)))), (0, .ref (ad 71)), (1, .int (nI (b))), (2, .int (nI (h0))), (4, .int (nI (l))), (6, .int (nI (i))), (7, .int (nI (h0 + i))), (8, .int (nI (m)))]) 3 rfl (by decide) rfl dX7_findPlan_131 ?_
                refine r_iload K rfl dX7_findPlan_132 ?_
                refine r_istore K (lv' := [(4, .int (nI (m))), (3, .int (nI (goS T b p m (h0 + i)))), (0, .ref (ad 71)), (1, .int (nI (b))), (2, .int (nI (h0))), (6, .int (nI (i))), (7, .int (nI (h0 + i))), (8, .int (nI (m)))]) (by decide) rfl dX7_findPlan_134 ?_
                refine r_aload_n K 0 rfl rfl dX7_findPlan_136 ?_
                refine get_71_23 K fl_RX7_42 dX7_findPlan_137 ?_
                refine r_iload K rfl dX7_findPlan_140 ?_
                refine r_iload K rfl dX7_findPlan_142 ?_
                refine r_iast K 55 (n := 24) (by decide) rfl rfl (by decide) (by omega) dX7_findPlan_144 ?_
                refine r_aload_n K 0 rfl rfl dX7_findPlan_145 ?_
                refine get_71_24 K fl_RX7_45 dX7_findPlan_146 ?_
                refine r_iload K rfl dX7_findPlan_149 ?_
                refine r_iload_n K 3 rfl rfl dX7_findPlan_151 ?_
                refine r_iast K 56 (n := 24) (by decide) rfl rfl (by decide) (by omega) dX7_findPlan_152 ?_
                refine r_w (σ2 := ((s1).sA 55 (upd ((s1).A 55) (i) ((nI (m))))).sA 56 (upd ((s1).A 56) (i) ((nI (goS T b p m (h0 + i)))))) rfl ?_
                refine r_iinc K ((nI (i + 1))) rfl (nI_1 _) (lv' := [(6, .int (nI (i + 1))), (4, .int (nI (m))), (3, .int (nI (goS T b p m (h0 + i)))), (0, .ref (ad 71)), (1, .int (nI (b))), (2, .int (nI (h0))), (7, .int (nI (h0 + i))), (8, .int (nI (m)))]) (by decide) rfl dX7_findPlan_153 ?_
                refine r_goto K 63 dX7_findPlan_156 (by decide) ?_
                refine r_pick [3, 4, 5, 2, 1, 0] (lv' := [(0, .ref (ad 71)), (1, .int (nI (b))), (2, .int (nI (h0))), (3, .int (nI (goS T b p m (h0 + i)))), (4, .int (nI (m))), (6, .int (nI (i + 1)))]) rfl ?_
                exact ihA _ (by omega) (i + 1) (_) (_) (((s1).sA 55 (upd ((s1).A 55) (i) ((nI (m))))).sA 56 (upd ((s1).A 56) (i) ((nI (goS T b p m (h0 + i)))))) rfl (by omega) (by rw [endP_take hil, ← hp, hmx]) (by rw [lastL_take hil]; exact hmx) (by rw [show h0 + (i + 1) = h0 + i + 1 by omega, hmx]; exact hgs.2.2.2.2) (by rw [show h0 + (i + 1) = h0 + i + 1 by omega, hmx]; exact (thrV_lt (by rw [hgs.2.2.1]; exact hlf)).2.2.1) (same_sA (same_sA hs1 (by simp) _) (by simp) _) (h24) (h25) (hA) (fun k hk => by rw [sA_at, sA_A, if_neg (by decide), sA_at]; unfold upd; by_cases e : k = i; (rw [if_pos e, if_pos e, e, endP_take hil, ← hp, hmx]; exact ⟨rfl, rfl⟩); (rw [if_neg e, if_neg e]; exact hpl k (by omega)))
              · refine r_iinc K ((nI (m + 1))) rfl (nI_1 _) (lv' := [(8, .int (nI (m + 1))), (0, .ref (ad 71)), (1, .int (nI (b))), (2, .int (nI (h0))), (3, .int (nI (p))), (4, .int (nI (l))), (6, .int (nI (i))), (7, .int (nI (h0 + i)))]) (by decide) rfl dX7_findPlan_115 ?_
                refine r_goto K 81 dX7_findPlan_118 (by decide) ?_
                refine r_pick [1, 2, 3, 4, 5, 6, 7, 0] (lv' := [(0, .ref (ad 71)), (1, .int (nI (b))), (2, .int (nI (h0))), (3, .int (nI (p))), (4, .int (nI (l))), (6, .int (nI (i))), (7, .int (nI (h0 + i))), (8, .int (nI (m + 1)))]) rfl ?_
                exact ihB _ (by have : m ≠ ms.getD i 0 := fun z => h112 (by rw [z]; exact hgs.2.2.1); omega) (m + 1) rfl (by have : m ≠ ms.getD i 0 := fun z => h112 (by rw [z]; exact hgs.2.2.1); omega)
          exact lpB _ (0) rfl (by omega)
    exact lpA _ (0) (_) (_) (_) rfl (by omega) (rfl) (rfl) (hgr) (h35) (same_sI (same_sI (same_w hsl (by simp) (by simp) (by simp) id) (by simp) _) (by simp) _) (rfl) (rfl) (hla) (fun k hk => absurd hk (Nat.not_lt_zero k))
  · have hnS := plS_none (T := T) (b := b) (kn := kn) (h := h0) (by have hz := no_left (f := 24 - h0) (by omega) (by decide) (Nat.not_lt.mpr h35); rw [show 24 - (24 - h0) = h0 by omega] at hz; exact hz)
    refine r_iconst K ((nI (0))) (by decide) dX7_findPlan_38 ?_
    exact r_zret K (b := false) hr (⟨by rw [hnS]; rfl, rfl, same_w hsl (by simp) (by simp) (by simp) id, by rw [hnS]; exact fun ms e => by cases e⟩) dX7_findPlan_39

set_option maxHeartbeats 400000 in
set_option maxRecDepth 10000 in
theorem m_isSoonest {g : Gp} {lau : Launch} {ad : Nat → Nat} {σ : Sg} {T : Tv} (hT : TOk T) (hR : RepM T σ) {b h0 : Nat} (hb : b < 4) (hw1 : 1 ≤ T 6 b) (hh0 : h0 < 24) : Con g lau yX7_isSoonest cX7_isSoonest 3 (Option.some .boolean) 6 157 [.ref (ad 71), .int (nI (b)), .int (nI (h0))] ad σ (fun r a2 s2 => some (.int (bI (plS T b kn0 h0).isSome)) = r ∧ ad = a2 ∧ mlE σ s2 ∧ plM T b h0 (plS T b kn0 h0) s2 ∧ ∀ h, h < 24 → s2.A 57 h = nI 160 ∧ s2.A 58 h = nI 0) := by
  refine con_mk (by decide) (Nat.le_of_ble_eq_true rfl) (fun x hxl K hr => ?_)
  subst hxl
  refine r_lv (lv' := [(0, .ref (ad 71)), (1, .int (nI (b))), (2, .int (nI (h0)))]) rfl ?_
  have hn8 := hT.2.1
  have hn9 := hT.2.2.1
  have htb := tbits_lt hT
  refine r_aload_n K 0 rfl rfl dX7_isSoonest_0 ?_
  refine r_callV K 71 (As := []) (rest := []) mv_X7_noOther ml_RX7_230 (m_noOther) (by decide) rfl rfl rfl rfl (Nat.le_of_ble_eq_true rfl) ⟨by decide, by decide⟩ dX7_isSoonest_1 (fun r_n ad_n s_n h_n => ?_)
  obtain ⟨rfl, rfl, hsn, hno⟩ := h_n
  refine r_st (st' := []) rfl ?_
  refine r_aload_n K 0 rfl rfl dX7_isSoonest_4 ?_
  refine r_iload_n K 1 rfl rfl dX7_isSoonest_5 ?_
  refine r_iload_n K 2 rfl rfl dX7_isSoonest_6 ?_
  refine r_callV K 71 (As := [.int (nI (b)), .int (nI (h0))]) (rest := []) mv_X7_findPlan ml_RX7_233 (m_findPlan hT (hR.same hsn (by simp) (by simp)) (b := b) (h0 := h0) (kn := kn0) hb hw1 hh0 (fun h hh => ⟨160, 0, (hno h hh).1, (hno h hh).2, by decide, by decide, fun q m => knot_160 q m 0⟩)) (by decide) rfl rfl rfl rfl (Nat.le_of_ble_eq_true rfl) ⟨by decide, by decide⟩ dX7_isSoonest_7 (fun r_p ad_p s_p h_p => ?_)
  obtain ⟨rfl, rfl, hsp, hpm⟩ := h_p
  refine r_st (st' := [.int (bI (plS T b kn0 h0).isSome)]) rfl ?_
  exact r_zret K (b := (plS T b kn0 h0).isSome) hr (⟨rfl, rfl, same_tr (same_w hsn (by simp) (by simp) (by simp) id) (same_w hsp (by simp) (by simp) (by simp) id), hpm, fun h hh => by rw [hsp.1 57 (by simp), hsp.1 58 (by simp)]; exact hno h hh⟩) dX7_isSoonest_10

set_option maxHeartbeats 400000 in
set_option maxRecDepth 10000 in
theorem m_tell {g : Gp} {lau : Launch} {ad : Nat → Nat} {σ : Sg} {T : Tv} {b h0 : Nat} {o : Option (List Nat)} (hm : plM T b h0 o σ) (hk : ∀ ms, o = some ms → sixL ms ∧ ms.length ≤ 24) (i : Int32) (hi : ¬ i < -2) : Con g lau yX7_tell cX7_tell 3 (Option.some .int) 0 0 [.ref (ad 71), .int (bI (o.isSome)), .int (i)] ad σ (pu (.int (ansS o i)) ad σ) := by
  refine con_mk (by decide) (Nat.le_of_ble_eq_true rfl) (fun x hxl K hr => ?_)
  subst hxl
  refine r_lv (lv' := [(0, .ref (ad 71)), (1, .int (bI (o.isSome))), (2, .int (i))]) rfl ?_
  rcases o with _ | ms
  · refine r_lv (lv' := [(0, .ref (ad 71)), (1, .int (bI (false))), (2, .int (i))]) rfl ?_
    refine r_iload_n K 1 rfl rfl dX7_tell_0 ?_
    refine b_if_ne K 6 dX7_tell_1 (by decide) (fun z => absurd z (by decide)) (fun _ => ?_)
    refine r_iconst K ((-1)) (by decide) dX7_tell_4 ?_
    exact r_iret K hr (⟨rfl, rfl, rfl⟩) dX7_tell_5
  · refine r_lv (lv' := [(0, .ref (ad 71)), (1, .int (bI (true))), (2, .int (i))]) rfl ?_
    obtain ⟨h24, h25, hpl⟩ := hm ms rfl
    have hms := hk ms rfl
    refine r_iload_n K 1 rfl rfl dX7_tell_0 ?_
    refine b_if_ne K 6 dX7_tell_1 (by decide) (fun _ => ?_) (fun z => absurd z (by decide))
    refine r_iload_n K 2 rfl rfl dX7_tell_6 ?_
    refine r_bipush K ((-2)) (by decide) dX7_tell_7 ?_
    refine r_icmp_ne K 19 dX7_tell_9 (by decide) (fun h9 => ?_) (fun h9 => ?_)
    · refine r_iload_n K 2 rfl rfl dX7_tell_19 ?_
      refine r_iconst K ((-1)) (by decide) dX7_tell_20 ?_
      refine r_icmp_ne K 31 dX7_tell_21 (by decide) (fun h21 => ?_) (fun h21 => ?_)
      · refine r_iload_n K 2 rfl rfl dX7_tell_31 ?_
        refine r_aload_n K 0 rfl rfl dX7_tell_32 ?_
        refine get_71_21 K fl_RX7_224 dX7_tell_33 ?_
        refine r_topi (b := (nI (ms.length))) (h24) ?_
        refine r_icmp_ge K 48 dX7_tell_36 (by decide) (fun h36 => ?_) (fun h36 => ?_)
        · refine r_iconst K ((-1)) (by decide) dX7_tell_48 ?_
          exact r_iret K hr (⟨by rw [ans_hi hms.2 (fun z => absurd h36 (Int32.not_le.mpr z))], rfl, rfl⟩) dX7_tell_49
        · obtain ⟨j, hj, rfl⟩ := nI_of (x := i) (fun z => h9 (neg_two hi z h21))
          have hjl : j < ms.length := (nI_ltI hj (by omega)).mp (Int32.not_le.mp h36)
          refine r_aload_n K 0 rfl rfl dX7_tell_39 ?_
          refine get_71_23 K fl_RX7_42 dX7_tell_40 ?_
          refine r_iload_n K 2 rfl rfl dX7_tell_43 ?_
          refine r_iald K 55 (n := 24) (by decide) rfl rfl (by decide) (by omega) dX7_tell_44 ?_
          refine r_topi (b := (nI (ms.getD j 0))) ((hpl j hjl).1) ?_
          refine r_goto K 49 dX7_tell_45 (by decide) ?_
          exact r_iret K hr (⟨by rw [ans_ix hms.2 hjl], rfl, rfl⟩) dX7_tell_49
      · refine r_aload_n K 0 rfl rfl dX7_tell_24 ?_
        refine get_71_22 K fl_RX7_227 dX7_tell_25 ?_
        refine r_topi (b := (nI (runL 0 ms))) (h25) ?_
        refine r_goto K 49 dX7_tell_28 (by decide) ?_
        exact r_iret K hr (⟨by rw [h21]; rfl, rfl, rfl⟩) dX7_tell_49
    · refine r_aload_n K 0 rfl rfl dX7_tell_12 ?_
      refine get_71_21 K fl_RX7_224 dX7_tell_13 ?_
      refine r_topi (b := (nI (ms.length))) (h24) ?_
      refine r_goto K 49 dX7_tell_16 (by decide) ?_
      exact r_iret K hr (⟨by rw [h9]; rfl, rfl, rfl⟩) dX7_tell_49

set_option maxHeartbeats 400000 in
set_option maxRecDepth 10000 in
theorem m_soonest {g : Gp} {lau : Launch} {ad : Nat → Nat} {σ : Sg} {T : Tv} (hT : TOk T) (hR : RepM T σ) (b h i : Int32) : Con g lau yX7_soonest cX7_soonest 4 (Option.some .int) 7 179 [.ref (ad 71), .int (b), .int (h), .int (i)] ad σ (fun rr a2 s2 => some (.int (soS T b h i)) = rr ∧ ad = a2 ∧ mlE σ s2) := by
  refine con_mk (by decide) (Nat.le_of_ble_eq_true rfl) (fun x hxl K hr => ?_)
  subst hxl
  refine r_lv (lv' := [(0, .ref (ad 71)), (1, .int (b)), (2, .int (h)), (3, .int (i))]) rfl ?_
  have hn8 := hT.2.1
  have hn9 := hT.2.2.1
  have htb := tbits_lt hT
  refine r_aload_n K 0 rfl rfl dX7_soonest_0 ?_
  refine r_iload_n K 1 rfl rfl dX7_soonest_1 ?_
  refine r_callVp K 71 (As := [.int (b)]) mv_X7_isBarge ml_RX7_186 (m_isBarge hT hR ((b))) (by decide) rfl rfl rfl rfl (Nat.le_of_ble_eq_true rfl) ⟨by decide, by decide⟩ dX7_soonest_2 ?_
  refine b_if_eq K 15 dX7_soonest_5 (by decide) (fun h5 => ?_) (fun h5 => ?_)
  · refine r_bipush K ((-2)) (by decide) dX7_soonest_15 ?_
    exact r_iret K hr (⟨by first | rw [soS, if_neg (by simp [*])] | simp [soS, *], rfl, same_rf _ _ _ _ _⟩) dX7_soonest_17
  · obtain ⟨bN, h_bN, rfl, t_bN⟩ := hasB_t h5
    have e_bN : (nI bN).toInt.toNat = bN := nI_nat (by omega)
    refine r_iload_n K 2 rfl rfl dX7_soonest_8 ?_
    refine r_callSp K (As := [.int (h)]) ms_X7_isHour ml_RX7_183 (m_isHour ((h))) rfl rfl (Nat.le_of_ble_eq_true rfl) ⟨by decide, by decide⟩ dX7_soonest_9 ?_
    refine b_if_ne K 18 dX7_soonest_12 (by decide) (fun h12 => ?_) (fun h12 => ?_)
    · obtain ⟨hN, h_hN, rfl⟩ := isH_t h12
      have e_hN : (nI hN).toInt.toNat = hN := nI_nat (by omega)
      refine r_iload_n K 3 rfl rfl dX7_soonest_18 ?_
      refine r_bipush K ((-2)) (by decide) dX7_soonest_19 ?_
      refine r_icmp_ge K 29 dX7_soonest_21 (by decide) (fun h21 => ?_) (fun h21 => ?_)
      · refine r_aload_n K 0 rfl rfl dX7_soonest_29 ?_
        refine r_aload_n K 0 rfl rfl dX7_soonest_30 ?_
        refine r_iload_n K 1 rfl rfl dX7_soonest_31 ?_
        refine r_iload_n K 2 rfl rfl dX7_soonest_32 ?_
        refine r_callV K 71 (As := [.int (nI (bN)), .int (nI (hN))]) (rest := [.ref (ad 71)]) mv_X7_isSoonest ml_RX7_236 (m_isSoonest hT hR (b := bN) (h0 := hN) (by omega) (hT.2.2.2.2.2.2.2 _ t_bN).1 (by omega)) (by decide) rfl rfl rfl rfl (Nat.le_of_ble_eq_true rfl) ⟨by decide, by decide⟩ dX7_soonest_33 (fun r_q ad_q s_q h_q => ?_)
        obtain ⟨rfl, rfl, hsq, hmq, hzq⟩ := h_q
        refine r_st (st' := [.int (bI (plS T bN kn0 hN).isSome), .ref (ad 71)]) rfl ?_
        refine r_iload_n K 3 rfl rfl dX7_soonest_36 ?_
        refine r_callVp K 71 (As := [.int (bI ((plS T bN kn0 hN).isSome)), .int (i)]) mv_X7_tell ml_RX7_239 (m_tell (o := plS T bN kn0 hN) hmq (pl_six (by omega)) ((i)) (fun z => absurd h21 (Int32.not_le.mpr z))) (by decide) rfl rfl rfl rfl (Nat.le_of_ble_eq_true rfl) ⟨by decide, by decide⟩ dX7_soonest_37 ?_
        exact r_iret K hr (⟨by rw [soS, if_pos ⟨by assumption, by assumption⟩, if_neg (fun z => absurd h21 (Int32.not_le.mpr z)), e_bN, e_hN], rfl, hsq⟩) dX7_soonest_40
      · refine r_bipush K ((-3)) (by decide) dX7_soonest_24 ?_
        refine r_goto K 40 dX7_soonest_26 (by decide) ?_
        exact r_iret K hr (⟨by rw [soS, if_pos ⟨by assumption, by assumption⟩, if_pos (Int32.not_le.mp h21)], rfl, same_rf _ _ _ _ _⟩) dX7_soonest_40
    · refine r_bipush K ((-2)) (by decide) dX7_soonest_15 ?_
      exact r_iret K hr (⟨by first | rw [soS, if_neg (by simp [*])] | simp [soS, *], rfl, same_rf _ _ _ _ _⟩) dX7_soonest_17

set_option maxHeartbeats 400000 in
set_option maxRecDepth 10000 in
theorem m_clear {g : Gp} {lau : Launch} {ad : Nat → Nat} {σ : Sg} {T : Tv} (hT : TOk T) (hR : RepM T σ) (b o i : Int32) : Con g lau yX7_clear cX7_clear 5 (Option.some .int) 7 179 [.ref (ad 71), .int (b), .int (o), .int (i)] ad σ (fun rr a2 s2 => some (.int (clS T b o i)) = rr ∧ ad = a2 ∧ mlE σ s2) := by
  refine con_mk (by decide) (Nat.le_of_ble_eq_true rfl) (fun x hxl K hr => ?_)
  subst hxl
  refine r_lv (lv' := [(0, .ref (ad 71)), (1, .int (b)), (2, .int (o)), (3, .int (i))]) rfl ?_
  have hn8 := hT.2.1
  have hn9 := hT.2.2.1
  have htb := tbits_lt hT
  refine r_aload_n K 0 rfl rfl dX7_clear_0 ?_
  refine r_iload_n K 1 rfl rfl dX7_clear_1 ?_
  refine r_callVp K 71 (As := [.int (b)]) mv_X7_isBarge ml_RX7_186 (m_isBarge hT hR ((b))) (by decide) rfl rfl rfl rfl (Nat.le_of_ble_eq_true rfl) ⟨by decide, by decide⟩ dX7_clear_2 ?_
  refine b_if_eq K 16 dX7_clear_5 (by decide) (fun h5 => ?_) (fun h5 => ?_)
  · refine r_bipush K ((-2)) (by decide) dX7_clear_16 ?_
    exact r_iret K hr (⟨by first | rw [clS, if_neg (by simp [*])] | simp [clS, *], rfl, same_rf _ _ _ _ _⟩) dX7_clear_18
  · obtain ⟨bN, h_bN, rfl, t_bN⟩ := hasB_t h5
    have e_bN : (nI bN).toInt.toNat = bN := nI_nat (by omega)
    refine r_aload_n K 0 rfl rfl dX7_clear_8 ?_
    refine r_iload_n K 2 rfl rfl dX7_clear_9 ?_
    refine r_callVp K 71 (As := [.int (o)]) mv_X7_isBarge ml_RX7_186 (m_isBarge hT hR ((o))) (by decide) rfl rfl rfl rfl (Nat.le_of_ble_eq_true rfl) ⟨by decide, by decide⟩ dX7_clear_10 ?_
    refine b_if_ne K 19 dX7_clear_13 (by decide) (fun h13 => ?_) (fun h13 => ?_)
    · obtain ⟨oN, h_oN, rfl, t_oN⟩ := hasB_t h13
      have e_oN : (nI oN).toInt.toNat = oN := nI_nat (by omega)
      refine r_iload_n K 1 rfl rfl dX7_clear_19 ?_
      refine r_iload_n K 2 rfl rfl dX7_clear_20 ?_
      refine n_icmp_eq K 30 (by omega) (by omega) dX7_clear_21 (by decide) (fun h21 => ?_) (fun h21 => ?_)
      · refine r_bipush K ((-3)) (by decide) dX7_clear_30 ?_
        exact r_iret K hr (⟨by rw [clS, if_pos ⟨by assumption, by assumption⟩, if_pos (by first | exact Or.inl (by rw [h21]) | exact Or.inr (Int32.not_le.mp h27))], rfl, same_rf _ _ _ _ _⟩) dX7_clear_32
      · refine r_iload_n K 3 rfl rfl dX7_clear_24 ?_
        refine r_bipush K ((-2)) (by decide) dX7_clear_25 ?_
        refine r_icmp_ge K 33 dX7_clear_27 (by decide) (fun h27 => ?_) (fun h27 => ?_)
        · refine r_aload_n K 0 rfl rfl dX7_clear_33 ?_
          refine r_iload_n K 2 rfl rfl dX7_clear_34 ?_
          refine r_iconst K ((nI (0))) (by decide) dX7_clear_35 ?_
          refine r_callV K 71 (As := [.int (nI (oN)), .int (nI (0))]) (rest := []) mv_X7_isSoonest ml_RX7_236 (m_isSoonest hT hR (b := oN) (h0 := 0) (by omega) (hT.2.2.2.2.2.2.2 _ t_oN).1 (by omega)) (by decide) rfl rfl rfl rfl (Nat.le_of_ble_eq_true rfl) ⟨by decide, by decide⟩ dX7_clear_36 (fun r_q ad_q s_q h_q => ?_)
          obtain ⟨rfl, rfl, hsq, hmq, hzq⟩ := h_q
          refine r_st (st' := [.int (bI (plS T oN kn0 0).isSome)]) rfl ?_
          refine b_if_ne K 45 dX7_clear_39 (by decide) (fun h39 => ?_) (fun h39 => ?_)
          · obtain ⟨ms, hq⟩ := Option.isSome_iff_exists.mp h39
            obtain ⟨h24, h25, hpl⟩ := hmq ms hq
            have hms := pl_six (by omega) ms hq
            refine r_iconst K ((nI (0))) (by decide) dX7_clear_45 ?_
            refine r_istore K (lv' := [(4, .int (nI (0))), (0, .ref (ad 71)), (1, .int (nI (bN))), (2, .int (nI (oN))), (3, .int (i))]) (by decide) rfl dX7_clear_46 ?_
            refine r_pick [1, 2, 3, 4, 0] (lv' := [(0, .ref (ad 71)), (1, .int (nI (bN))), (2, .int (nI (oN))), (3, .int (i)), (4, .int (nI (0)))]) rfl ?_
            have lpA : ∀ (mm_ : Nat) (h : Nat) (s1 : Sg), mm_ = ms.length - h → (h ≤ ms.length) → (same [57, 58] [] [] false s_q s1) → (∀ k, k < 24 → (k < h → s1.A 57 k = nI (plc T oN ms k) ∧ s1.A 58 k = nI (ms.getD k 0)) ∧ (h ≤ k → s1.A 57 k = nI 160 ∧ s1.A 58 k = nI 0)) → GJ g x 5 48 [(0, .ref (ad 71)), (1, .int (nI (bN))), (2, .int (nI (oN))), (3, .int (i)), (4, .int (nI (h)))] [] ad (s1) := by
              intro mm_
              induction mm_ using Nat.strongRecOn with
              | _ mm_ ihA =>
                intro h s1 hmA hh hs1 hc
                refine r_iload K rfl dX7_clear_48 ?_
                refine r_aload_n K 0 rfl rfl dX7_clear_50 ?_
                refine get_71_21 K fl_RX7_224 dX7_clear_51 ?_
                refine r_topi (b := (nI (ms.length))) ((hs1.2.1 24 (by simp)).trans h24) ?_
                refine n_icmp_ge K 91 (by omega) (by omega) dX7_clear_54 (by decide) (fun h54 => ?_) (fun h54 => ?_)
                · refine r_aload_n K 0 rfl rfl dX7_clear_91 ?_
                  refine r_aload_n K 0 rfl rfl dX7_clear_92 ?_
                  refine r_iload_n K 1 rfl rfl dX7_clear_93 ?_
                  refine r_iconst K ((nI (1))) (by decide) dX7_clear_94 ?_
                  have hol : oL (plS T oN kn0 0) = ms := by rw [hq]; rfl
                  have hln : LineR 57 58 (knL T oN (plS T oN kn0 0)) s1 := fun k hk => by
                      by_cases q : k < ms.length
                      · obtain ⟨g1, g2⟩ := (hc k hk).1 (by omega)
                        exact ⟨_, _, g1, g2, validP_le hT (endP_valid hT (validP_start hT)), Nat.lt_of_lt_of_le (six_at hms.1 k) (by decide), fun a m => by unfold knL; rw [hol, if_pos q]⟩
                      · obtain ⟨g1, g2⟩ := (hc k hk).2 (by omega)
                        exact ⟨_, _, g1, g2, by decide, by decide, fun a m => by unfold knL; rw [hol, if_neg q, knot_160]⟩
                  refine r_callV K 71 (As := [.int (nI (bN)), .int (nI (1))]) (rest := [.ref (ad 71)]) mv_X7_findPlan ml_RX7_233 (m_findPlan hT (mlE_M hR (same_tr hsq (same_w hs1 (by simp) (by simp) (by simp) id))) (b := bN) (h0 := 1) (kn := knL T oN (plS T oN kn0 0)) (by omega) (hT.2.2.2.2.2.2.2 _ t_bN).1 (by decide) hln) (by decide) rfl rfl rfl rfl (Nat.le_of_ble_eq_true rfl) ⟨by decide, by decide⟩ dX7_clear_95 (fun r_p ad_p s_p h_p => ?_)
                  obtain ⟨rfl, rfl, hsp, hpm⟩ := h_p
                  refine r_st (st' := [.int (bI (plS T bN (knL T oN (plS T oN kn0 0)) 1).isSome), .ref (ad 71)]) rfl ?_
                  refine r_iload_n K 3 rfl rfl dX7_clear_98 ?_
                  refine r_callVp K 71 (As := [.int (bI ((plS T bN (knL T oN (plS T oN kn0 0)) 1).isSome)), .int (i)]) mv_X7_tell ml_RX7_239 (m_tell (o := plS T bN (knL T oN (plS T oN kn0 0)) 1) hpm (pl_six (by omega)) ((i)) (fun z => absurd h27 (Int32.not_le.mpr z))) (by decide) rfl rfl rfl rfl (Nat.le_of_ble_eq_true rfl) ⟨by decide, by decide⟩ dX7_clear_99 ?_
                  exact r_iret K hr (⟨by rw [clS, if_pos ⟨by assumption, by assumption⟩, if_neg (fun z => by rcases z with z | z; exact absurd ((nI_eq (by omega) (by omega)).mp z) h21; exact absurd h27 (Int32.not_le.mpr z)), e_oN, if_neg (by rw [hq]; exact fun z => by cases z), e_bN], rfl, same_tr (same_tr hsq (same_w hs1 (by simp) (by simp) (by simp) id)) (same_w hsp (by simp) (by simp) (by simp) id)⟩) dX7_clear_102
                · refine r_aload_n K 0 rfl rfl dX7_clear_57 ?_
                  refine get_71_25 K fl_RX7_48 dX7_clear_58 ?_
                  refine r_iload K rfl dX7_clear_61 ?_
                  refine r_aload_n K 0 rfl rfl dX7_clear_63 ?_
                  refine get_71_24 K fl_RX7_45 dX7_clear_64 ?_
                  refine r_iload K rfl dX7_clear_67 ?_
                  refine r_iald K 56 (n := 24) (by decide) rfl rfl (by decide) (by omega) dX7_clear_69 ?_
                  refine r_topi (b := (nI (plc T oN ms h))) (by rw [hs1.1 56 (by simp)]; exact (hpl h (by omega)).2) ?_
                  refine r_iast K 57 (n := 24) (by decide) rfl rfl (by decide) (by omega) dX7_clear_70 ?_
                  refine r_aload_n K 0 rfl rfl dX7_clear_71 ?_
                  refine get_71_26 K fl_RX7_51 dX7_clear_72 ?_
                  refine r_iload K rfl dX7_clear_75 ?_
                  refine r_aload_n K 0 rfl rfl dX7_clear_77 ?_
                  refine get_71_23 K fl_RX7_42 dX7_clear_78 ?_
                  refine r_iload K rfl dX7_clear_81 ?_
                  refine r_iald K 55 (n := 24) (by decide) rfl rfl (by decide) (by omega) dX7_clear_83 ?_
                  refine r_topi (b := s1.A 55 (h)) rfl ?_
                  refine r_topi (b := (nI (ms.getD h 0))) (by rw [hs1.1 55 (by simp)]; exact (hpl h (by omega)).1) ?_
                  refine r_iast K 58 (n := 24) (by decide) rfl rfl (by decide) (by omega) dX7_clear_84 ?_
                  refine r_w (σ2 := ((s1).sA 57 (upd ((s1).A 57) (h) ((nI (plc T oN ms h))))).sA 58 (upd ((s1).A 58) (h) ((nI (ms.getD h 0))))) rfl ?_
                  refine r_iinc K ((nI (h + 1))) rfl (nI_1 _) (lv' := [(4, .int (nI (h + 1))), (0, .ref (ad 71)), (1, .int (nI (bN))), (2, .int (nI (oN))), (3, .int (i))]) (by decide) rfl dX7_clear_85 ?_
                  refine r_goto K 48 dX7_clear_88 (by decide) ?_
                  refine r_pick [1, 2, 3, 4, 0] (lv' := [(0, .ref (ad 71)), (1, .int (nI (bN))), (2, .int (nI (oN))), (3, .int (i)), (4, .int (nI (h + 1)))]) rfl ?_
                  exact ihA _ (by omega) (h + 1) (((s1).sA 57 (upd ((s1).A 57) (h) ((nI (plc T oN ms h))))).sA 58 (upd ((s1).A 58) (h) ((nI (ms.getD h 0))))) rfl (by omega) (same_sA (same_sA hs1 (by simp) _) (by simp) _) (fun k hk => by rw [sA_at, sA_A, if_neg (by decide), sA_at]; unfold upd; by_cases e : k = h; (rw [if_pos e, if_pos e, e]; exact ⟨fun _ => ⟨rfl, rfl⟩, fun z => by omega⟩); (rw [if_neg e, if_neg e]; exact ⟨fun z => (hc k hk).1 (by omega), fun z => (hc k hk).2 (by omega)⟩))
            exact lpA _ (0) (s_q) rfl (by omega) (same_rf _ _ _ _ _) (fun k hk => ⟨fun z => absurd z (Nat.not_lt_zero k), fun _ => hzq k hk⟩)
          · refine r_bipush K ((-4)) (by decide) dX7_clear_42 ?_
            exact r_iret K hr (⟨by rw [clS, if_pos ⟨by assumption, by assumption⟩, if_neg (fun z => by rcases z with z | z; exact absurd ((nI_eq (by omega) (by omega)).mp z) h21; exact absurd h27 (Int32.not_le.mpr z)), e_oN, if_pos (Option.not_isSome_iff_eq_none.mp (by rw [h39]; decide))], rfl, hsq⟩) dX7_clear_44
        · refine r_bipush K ((-3)) (by decide) dX7_clear_30 ?_
          exact r_iret K hr (⟨by rw [clS, if_pos ⟨by assumption, by assumption⟩, if_pos (by first | exact Or.inl (by rw [h21]) | exact Or.inr (Int32.not_le.mp h27))], rfl, same_rf _ _ _ _ _⟩) dX7_clear_32
    · refine r_bipush K ((-2)) (by decide) dX7_clear_16 ?_
      exact r_iret K hr (⟨by first | rw [clS, if_neg (by simp [*])] | simp [clS, *], rfl, same_rf _ _ _ _ _⟩) dX7_clear_18

set_option maxHeartbeats 400000 in
set_option maxRecDepth 10000 in
theorem m_firstOf {g : Gp} {lau : Launch} {ad : Nat → Nat} {σ : Sg} {T : Tv} (hT : TOk T) (hR : RepM T σ) {b r l : Nat} (hb : b < 4) (hw1 : 1 ≤ T 6 b) (hr1 : r < 2 ^ 31) (hl1 : l < 2 ^ 31) : Con g lau yX7_firstOf cX7_firstOf 5 (Option.some .int) 7 179 [.ref (ad 71), .int (nI (b)), .int (nI (r)), .int (nI (l))] ad σ (fun rr a2 s2 => some (.int (firstF (fH T b (oL (plS T b kn0 0)) r l) 24 0)) = rr ∧ ad = a2 ∧ mlE σ s2) := by
  refine con_mk (by decide) (Nat.le_of_ble_eq_true rfl) (fun x hxl K hr => ?_)
  subst hxl
  refine r_lv (lv' := [(0, .ref (ad 71)), (1, .int (nI (b))), (2, .int (nI (r))), (3, .int (nI (l)))]) rfl ?_
  have hn8 := hT.2.1
  have hn9 := hT.2.2.1
  have htb := tbits_lt hT
  refine r_aload_n K 0 rfl rfl dX7_firstOf_0 ?_
  refine r_iload_n K 1 rfl rfl dX7_firstOf_1 ?_
  refine r_iconst K ((nI (0))) (by decide) dX7_firstOf_2 ?_
  refine r_callV K 71 (As := [.int (nI (b)), .int (nI (0))]) (rest := []) mv_X7_isSoonest ml_RX7_236 (m_isSoonest hT hR (b := b) (h0 := 0) (by omega) hw1 (by omega)) (by decide) rfl rfl rfl rfl (Nat.le_of_ble_eq_true rfl) ⟨by decide, by decide⟩ dX7_firstOf_3 (fun r_q ad_q s_q h_q => ?_)
  obtain ⟨rfl, rfl, hsq, hmq, hzq⟩ := h_q
  refine r_st (st' := [.int (bI (plS T b kn0 0).isSome)]) rfl ?_
  refine b_if_ne K 11 dX7_firstOf_6 (by decide) (fun h6 => ?_) (fun h6 => ?_)
  · obtain ⟨ms, hq⟩ := Option.isSome_iff_exists.mp h6
    obtain ⟨h24, h25, hpl⟩ := hmq ms hq
    have hms := pl_six (by omega) ms hq
    have hol : oL (plS T b kn0 0) = ms := by rw [hq]; rfl
    skip
    refine r_iconst K ((nI (0))) (by decide) dX7_firstOf_11 ?_
    refine r_istore K (lv' := [(4, .int (nI (0))), (0, .ref (ad 71)), (1, .int (nI (b))), (2, .int (nI (r))), (3, .int (nI (l)))]) (by decide) rfl dX7_firstOf_12 ?_
    refine r_pick [1, 2, 3, 4, 0] (lv' := [(0, .ref (ad 71)), (1, .int (nI (b))), (2, .int (nI (r))), (3, .int (nI (l))), (4, .int (nI (0)))]) rfl ?_
    have lpA : ∀ (mm_ : Nat) (h : Nat), mm_ = ms.length - h → (h ≤ ms.length) → (firstF (fH T b (oL (plS T b kn0 0)) r l) 24 0 = firstF (fH T b (oL (plS T b kn0 0)) r l) (24 - h) h) → GJ g x 5 14 [(0, .ref (ad 71)), (1, .int (nI (b))), (2, .int (nI (r))), (3, .int (nI (l))), (4, .int (nI (h)))] [] ad (s_q) := by
      intro mm_
      induction mm_ using Nat.strongRecOn with
      | _ mm_ ihA =>
        intro h hmA hh hf
        refine r_iload K rfl dX7_firstOf_14 ?_
        refine r_aload_n K 0 rfl rfl dX7_firstOf_16 ?_
        refine get_71_21 K fl_RX7_224 dX7_firstOf_17 ?_
        refine r_topi (b := (nI (ms.length))) (h24) ?_
        refine n_icmp_ge K 70 (by omega) (by omega) dX7_firstOf_20 (by decide) (fun h20 => ?_) (fun h20 => ?_)
        · refine r_iconst K ((-1)) (by decide) dX7_firstOf_70 ?_
          exact r_iret K hr (⟨by rw [hf, first_out _ h (fun k hk => by rw [hol]; exact fH_out (by omega))], rfl, hsq⟩) dX7_firstOf_71
        · have hvl := validP_le hT (endP_valid hT (b := b) (ms := ms.take (h + 1)) (h := 0) (validP_start hT))
          have hx6 := six_at hms.1 h
          rw [show endP T b 0 (startS T) (ms.take (h + 1)) = plc T b ms h from rfl] at hvl
          refine r_aload_n K 0 rfl rfl dX7_firstOf_23 ?_
          refine get_71_24 K fl_RX7_45 dX7_firstOf_24 ?_
          refine r_iload K rfl dX7_firstOf_27 ?_
          refine r_iald K 56 (n := 24) (by decide) rfl rfl (by decide) (by omega) dX7_firstOf_29 ?_
          refine r_topi (b := (nI (plc T b ms h))) ((hpl h (by omega)).2) ?_
          refine r_sipush K ((nI (160))) (by decide) dX7_firstOf_30 ?_
          refine n_icmp_eq K 64 (by omega) (by omega) dX7_firstOf_33 (by decide) (fun h33 => ?_) (fun h33 => ?_)
          · refine r_iinc K ((nI (h + 1))) rfl (nI_1 _) (lv' := [(4, .int (nI (h + 1))), (0, .ref (ad 71)), (1, .int (nI (b))), (2, .int (nI (r))), (3, .int (nI (l)))]) (by decide) rfl dX7_firstOf_64 ?_
            refine r_goto K 14 dX7_firstOf_67 (by decide) ?_
            refine r_pick [1, 2, 3, 4, 0] (lv' := [(0, .ref (ad 71)), (1, .int (nI (b))), (2, .int (nI (r))), (3, .int (nI (l))), (4, .int (nI (h + 1)))]) rfl ?_
            exact ihA _ (by omega) (h + 1) rfl (by omega) (first_no (by omega) (fun z => by rw [hol] at z; obtain ⟨-, z1, z2, z3⟩ := of_decide_eq_true z; first | exact absurd h33 z1 | exact absurd z2 h47 | exact absurd z3 h58) hf)
          · refine r_aload_n K 0 rfl rfl dX7_firstOf_36 ?_
            refine get_71_24 K fl_RX7_45 dX7_firstOf_37 ?_
            refine r_iload K rfl dX7_firstOf_40 ?_
            refine r_iald K 56 (n := 24) (by decide) rfl rfl (by decide) (by omega) dX7_firstOf_42 ?_
            refine r_topi (b := (nI (plc T b ms h))) ((hpl h (by omega)).2) ?_
            refine r_bipush K ((nI (20))) (by decide) dX7_firstOf_43 ?_
            refine r_idiv K (nI_ne0 (by omega) (by omega)) dX7_firstOf_45 ?_
            refine r_topi (pk_div (by omega) (by omega) (by omega)) ?_
            refine r_iload_n K 2 rfl rfl dX7_firstOf_46 ?_
            refine n_icmp_ne K 64 (by omega) (by omega) dX7_firstOf_47 (by decide) (fun h47 => ?_) (fun h47 => ?_)
            · refine r_iinc K ((nI (h + 1))) rfl (nI_1 _) (lv' := [(4, .int (nI (h + 1))), (0, .ref (ad 71)), (1, .int (nI (b))), (2, .int (nI (r))), (3, .int (nI (l)))]) (by decide) rfl dX7_firstOf_64 ?_
              refine r_goto K 14 dX7_firstOf_67 (by decide) ?_
              refine r_pick [1, 2, 3, 4, 0] (lv' := [(0, .ref (ad 71)), (1, .int (nI (b))), (2, .int (nI (r))), (3, .int (nI (l))), (4, .int (nI (h + 1)))]) rfl ?_
              exact ihA _ (by omega) (h + 1) rfl (by omega) (first_no (by omega) (fun z => by rw [hol] at z; obtain ⟨-, z1, z2, z3⟩ := of_decide_eq_true z; first | exact absurd h33 z1 | exact absurd z2 h47 | exact absurd z3 h58) hf)
            · refine r_aload_n K 0 rfl rfl dX7_firstOf_50 ?_
              refine get_71_23 K fl_RX7_42 dX7_firstOf_51 ?_
              refine r_iload K rfl dX7_firstOf_54 ?_
              refine r_iald K 55 (n := 24) (by decide) rfl rfl (by decide) (by omega) dX7_firstOf_56 ?_
              refine r_topi (b := (nI (ms.getD h 0))) ((hpl h (by omega)).1) ?_
              refine r_iload_n K 3 rfl rfl dX7_firstOf_57 ?_
              refine n_icmp_ne K 64 (by omega) (by omega) dX7_firstOf_58 (by decide) (fun h58 => ?_) (fun h58 => ?_)
              · refine r_iinc K ((nI (h + 1))) rfl (nI_1 _) (lv' := [(4, .int (nI (h + 1))), (0, .ref (ad 71)), (1, .int (nI (b))), (2, .int (nI (r))), (3, .int (nI (l)))]) (by decide) rfl dX7_firstOf_64 ?_
                refine r_goto K 14 dX7_firstOf_67 (by decide) ?_
                refine r_pick [1, 2, 3, 4, 0] (lv' := [(0, .ref (ad 71)), (1, .int (nI (b))), (2, .int (nI (r))), (3, .int (nI (l))), (4, .int (nI (h + 1)))]) rfl ?_
                exact ihA _ (by omega) (h + 1) rfl (by omega) (first_no (by omega) (fun z => by rw [hol] at z; obtain ⟨-, z1, z2, z3⟩ := of_decide_eq_true z; first | exact absurd h33 z1 | exact absurd z2 h47 | exact absurd z3 h58) hf)
              · refine r_iload K rfl dX7_firstOf_61 ?_
                exact r_iret K hr (⟨by rw [first_yes (by omega) (by rw [hol]; exact decide_eq_true ⟨by omega, h33, h47, h58⟩) hf], rfl, hsq⟩) dX7_firstOf_63
    exact lpA _ (0) rfl (by omega) (rfl)
  · refine r_iconst K ((-1)) (by decide) dX7_firstOf_9 ?_
    exact r_iret K hr (⟨by rw [first_out 24 0 (fun k _ => by rw [Option.not_isSome_iff_eq_none.mp (show ¬ (plS T b kn0 0).isSome = true by rw [h6]; decide)]; exact fH_out (Nat.zero_le _))], rfl, hsq⟩) dX7_firstOf_10

set_option maxHeartbeats 400000 in
set_option maxRecDepth 10000 in
theorem m_first {g : Gp} {lau : Launch} {ad : Nat → Nat} {σ : Sg} {T : Tv} (hT : TOk T) (hR : RepM T σ) (b r l : Int32) : Con g lau yX7_first cX7_first 4 (Option.some .int) 8 203 [.ref (ad 71), .int (b), .int (r), .int (l)] ad σ (fun rr a2 s2 => some (.int (fsS T b r l)) = rr ∧ ad = a2 ∧ mlE σ s2) := by
  refine con_mk (by decide) (Nat.le_of_ble_eq_true rfl) (fun x hxl K hr => ?_)
  subst hxl
  refine r_lv (lv' := [(0, .ref (ad 71)), (1, .int (b)), (2, .int (r)), (3, .int (l))]) rfl ?_
  have hn8 := hT.2.1
  have hn9 := hT.2.2.1
  have htb := tbits_lt hT
  refine r_aload_n K 0 rfl rfl dX7_first_0 ?_
  refine r_iload_n K 1 rfl rfl dX7_first_1 ?_
  refine r_callVp K 71 (As := [.int (b)]) mv_X7_isBarge ml_RX7_186 (m_isBarge hT hR ((b))) (by decide) rfl rfl rfl rfl (Nat.le_of_ble_eq_true rfl) ⟨by decide, by decide⟩ dX7_first_2 ?_
  refine b_if_eq K 33 dX7_first_5 (by decide) (fun h5 => ?_) (fun h5 => ?_)
  · refine r_bipush K ((-2)) (by decide) dX7_first_33 ?_
    exact r_iret K hr (⟨by first | rw [fsS, if_neg (by simp [*])] | simp [fsS, *], rfl, same_rf _ _ _ _ _⟩) dX7_first_35
  · obtain ⟨bN, h_bN, rfl, t_bN⟩ := hasB_t h5
    have e_bN : (nI bN).toInt.toNat = bN := nI_nat (by omega)
    refine r_aload_n K 0 rfl rfl dX7_first_8 ?_
    refine r_iload_n K 2 rfl rfl dX7_first_9 ?_
    refine r_callVp K 71 (As := [.int (r)]) mv_X7_isReach ml_RX7_177 (m_isReach hT hR ((r))) (by decide) rfl rfl rfl rfl (Nat.le_of_ble_eq_true rfl) ⟨by decide, by decide⟩ dX7_first_10 ?_
    refine b_if_eq K 33 dX7_first_13 (by decide) (fun h13 => ?_) (fun h13 => ?_)
    · refine r_bipush K ((-2)) (by decide) dX7_first_33 ?_
      exact r_iret K hr (⟨by first | rw [fsS, if_neg (by simp [*])] | simp [fsS, *], rfl, same_rf _ _ _ _ _⟩) dX7_first_35
    · obtain ⟨rN, h_rN, rfl⟩ := hasR_t h13
      have e_rN : (nI rN).toInt.toNat = rN := nI_nat (by omega)
      refine r_iload_n K 3 rfl rfl dX7_first_16 ?_
      refine r_callSp K (As := [.int (l)]) ms_X7_isLayer ml_RX7_180 (m_isLayer ((l))) rfl rfl (Nat.le_of_ble_eq_true rfl) ⟨by decide, by decide⟩ dX7_first_17 ?_
      refine b_if_eq K 33 dX7_first_20 (by decide) (fun h20 => ?_) (fun h20 => ?_)
      · refine r_bipush K ((-2)) (by decide) dX7_first_33 ?_
        exact r_iret K hr (⟨by first | rw [fsS, if_neg (by simp [*])] | simp [fsS, *], rfl, same_rf _ _ _ _ _⟩) dX7_first_35
      · obtain ⟨lN, h_lN, rfl⟩ := isL_t h20
        have e_lN : (nI lN).toInt.toNat = lN := nI_nat (by omega)
        refine r_aload_n K 0 rfl rfl dX7_first_23 ?_
        refine r_iload_n K 1 rfl rfl dX7_first_24 ?_
        refine r_iload_n K 2 rfl rfl dX7_first_25 ?_
        refine r_iload_n K 3 rfl rfl dX7_first_26 ?_
        refine r_callV K 71 (As := [.int (nI (bN)), .int (nI (rN)), .int (nI (lN))]) (rest := []) mv_X7_firstOf ml_RX7_265 (m_firstOf hT hR (b := bN) (r := rN) (l := lN) (by omega) (hT.2.2.2.2.2.2.2 _ t_bN).1 (by omega) (by omega)) (by decide) rfl rfl rfl rfl (Nat.le_of_ble_eq_true rfl) ⟨by decide, by decide⟩ dX7_first_27 (fun r_f ad_f s_f h_f => ?_)
        obtain ⟨rfl, rfl, hsf⟩ := h_f
        refine r_st (st' := [.int (firstF (fH T bN (oL (plS T bN kn0 0)) rN lN) 24 0)]) rfl ?_
        refine r_goto K 35 dX7_first_30 (by decide) ?_
        exact r_iret K hr (⟨by rw [fsS, if_pos ⟨by assumption, by assumption, by assumption⟩, e_bN, e_rN, e_lN], rfl, hsf⟩) dX7_first_35

set_option maxHeartbeats 400000 in
set_option maxRecDepth 10000 in
theorem m_found {g : Gp} {lau : Launch} {ad : Nat → Nat} {σ : Sg} {T : Tv} (hT : TOk T) (hR : RepM T σ) (r l : Int32) : Con g lau yX7_found cX7_found 5 (Option.some .int) 8 203 [.ref (ad 71), .int (r), .int (l)] ad σ (fun rr a2 s2 => some (.int (fdS T r l)) = rr ∧ ad = a2 ∧ mlE σ s2) := by
  refine con_mk (by decide) (Nat.le_of_ble_eq_true rfl) (fun x hxl K hr => ?_)
  subst hxl
  refine r_lv (lv' := [(0, .ref (ad 71)), (1, .int (r)), (2, .int (l))]) rfl ?_
  have hn8 := hT.2.1
  have hn9 := hT.2.2.1
  have htb := tbits_lt hT
  refine r_aload_n K 0 rfl rfl dX7_found_0 ?_
  refine r_iload_n K 1 rfl rfl dX7_found_1 ?_
  refine r_callVp K 71 (As := [.int (r)]) mv_X7_isReach ml_RX7_177 (m_isReach hT hR ((r))) (by decide) rfl rfl rfl rfl (Nat.le_of_ble_eq_true rfl) ⟨by decide, by decide⟩ dX7_found_2 ?_
  refine b_if_eq K 15 dX7_found_5 (by decide) (fun h5 => ?_) (fun h5 => ?_)
  · refine r_bipush K ((-2)) (by decide) dX7_found_15 ?_
    exact r_iret K hr (⟨by first | rw [fdS, if_neg (by simp [*])] | simp [fdS, *], rfl, same_rf _ _ _ _ _⟩) dX7_found_17
  · obtain ⟨rN, h_rN, rfl⟩ := hasR_t h5
    have e_rN : (nI rN).toInt.toNat = rN := nI_nat (by omega)
    refine r_iload_n K 2 rfl rfl dX7_found_8 ?_
    refine r_callSp K (As := [.int (l)]) ms_X7_isLayer ml_RX7_180 (m_isLayer ((l))) rfl rfl (Nat.le_of_ble_eq_true rfl) ⟨by decide, by decide⟩ dX7_found_9 ?_
    refine b_if_ne K 18 dX7_found_12 (by decide) (fun h12 => ?_) (fun h12 => ?_)
    · obtain ⟨lN, h_lN, rfl⟩ := isL_t h12
      have e_lN : (nI lN).toInt.toNat = lN := nI_nat (by omega)
      refine r_iconst K ((nI (0))) (by decide) dX7_found_18 ?_
      refine r_istore_n K (lv' := [(3, .int (nI (0))), (0, .ref (ad 71)), (1, .int (nI (rN))), (2, .int (nI (lN)))]) 3 rfl (by decide) rfl dX7_found_19 ?_
      refine r_iconst K ((nI (0))) (by decide) dX7_found_20 ?_
      refine r_istore K (lv' := [(4, .int (nI (0))), (3, .int (nI (0))), (0, .ref (ad 71)), (1, .int (nI (rN))), (2, .int (nI (lN)))]) (by decide) rfl dX7_found_21 ?_
      refine r_pick [2, 3, 4, 1, 0] (lv' := [(0, .ref (ad 71)), (1, .int (nI (rN))), (2, .int (nI (lN))), (3, .int (nI (0))), (4, .int (nI (0)))]) rfl ?_
      have lpA : ∀ (mm_ : Nat) (i : Nat) (s1 : Sg), mm_ = 4 - i → (i ≤ 4) → (mlE σ s1) → GJ g x 5 23 [(0, .ref (ad 71)), (1, .int (nI (rN))), (2, .int (nI (lN))), (3, .int (nI (bitS (fdF T rN lN) i))), (4, .int (nI (i)))] [] ad (s1) := by
        intro mm_
        induction mm_ using Nat.strongRecOn with
        | _ mm_ ihA =>
          intro i s1 hmA hi hs1
          refine r_iload K rfl dX7_found_23 ?_
          refine r_iconst K ((nI (4))) (by decide) dX7_found_25 ?_
          refine n_icmp_ge K 70 (by omega) (by omega) dX7_found_26 (by decide) (fun h26 => ?_) (fun h26 => ?_)
          · refine r_iload_n K 3 rfl rfl dX7_found_70 ?_
            exact r_iret K hr (⟨by rw [fdS, if_pos ⟨by assumption, by assumption⟩, e_rN, e_lN, show i = 4 by omega], rfl, hs1⟩) dX7_found_71
          · refine r_iload_n K 3 rfl rfl dX7_found_29 ?_
            refine r_aload_n K 0 rfl rfl dX7_found_30 ?_
            refine get_71_4 K fl_RX7_65 dX7_found_31 ?_
            refine r_topi (b := (nI (tbits T))) ((mlE_M hR hs1).2.2.1) ?_
            refine r_iload K rfl dX7_found_34 ?_
            refine r_callSp K (As := [.int (nI (tbits T)), .int (nI (i))]) ms_X7_has ml_RX7_68 (m_has (s := tbits T) (k := i) (by omega) (by omega)) rfl rfl (Nat.le_of_ble_eq_true rfl) ⟨by decide, by decide⟩ dX7_found_36 ?_
            refine b_if_eq K 61 dX7_found_39 (by decide) (fun h39 => ?_) (fun h39 => ?_)
            · rw [tbits_at hT (by omega)] at h39
              have ht0 : ¬ T 5 i = 1 := of_decide_eq_false h39
              refine r_iconst K ((nI (0))) (by decide) dX7_found_61 ?_
              refine r_ior K dX7_found_62 ?_
              refine r_topi (b := (nI (bitS (fdF T rN lN) (i + 1)))) (bitS_f0 (by omega) (by simp [fdF, *])) ?_
              refine r_istore_n K (lv' := [(3, .int (nI (bitS (fdF T rN lN) (i + 1)))), (0, .ref (ad 71)), (1, .int (nI (rN))), (2, .int (nI (lN))), (4, .int (nI (i)))]) 3 rfl (by decide) rfl dX7_found_63 ?_
              refine r_iinc K ((nI (i + 1))) rfl (nI_1 _) (lv' := [(4, .int (nI (i + 1))), (3, .int (nI (bitS (fdF T rN lN) (i + 1)))), (0, .ref (ad 71)), (1, .int (nI (rN))), (2, .int (nI (lN)))]) (by decide) rfl dX7_found_64 ?_
              refine r_goto K 23 dX7_found_67 (by decide) ?_
              refine r_pick [2, 3, 4, 1, 0] (lv' := [(0, .ref (ad 71)), (1, .int (nI (rN))), (2, .int (nI (lN))), (3, .int (nI (bitS (fdF T rN lN) (i + 1)))), (4, .int (nI (i + 1)))]) rfl ?_
              exact ihA _ (by omega) (i + 1) (s1) rfl (by omega) (hs1)
            · rw [tbits_at hT (by omega)] at h39
              have ht1 : T 5 i = 1 := of_decide_eq_true h39
              refine r_aload_n K 0 rfl rfl dX7_found_42 ?_
              refine r_iload K rfl dX7_found_43 ?_
              refine r_iload_n K 1 rfl rfl dX7_found_45 ?_
              refine r_iload_n K 2 rfl rfl dX7_found_46 ?_
              refine r_callV K 71 (As := [.int (nI (i)), .int (nI (rN)), .int (nI (lN))]) (rest := [.int (nI (bitS (fdF T rN lN) i))]) mv_X7_firstOf ml_RX7_265 (m_firstOf hT (mlE_M hR hs1) (b := i) (r := rN) (l := lN) (by omega) (hT.2.2.2.2.2.2.2 _ ht1).1 (by omega) (by omega)) (by decide) rfl rfl rfl rfl (Nat.le_of_ble_eq_true rfl) ⟨by decide, by decide⟩ dX7_found_47 (fun r_f ad_f s_f h_f => ?_)
              obtain ⟨rfl, rfl, hsf⟩ := h_f
              refine r_st (st' := [.int (firstF (fH T i (oL (plS T i kn0 0)) rN lN) 24 0), .int (nI (bitS (fdF T rN lN) i))]) rfl ?_
              refine r_iconst K ((-1)) (by decide) dX7_found_50 ?_
              refine r_icmp_eq K 61 dX7_found_51 (by decide) (fun h51 => ?_) (fun h51 => ?_)
              · refine r_iconst K ((nI (0))) (by decide) dX7_found_61 ?_
                refine r_ior K dX7_found_62 ?_
                refine r_topi (b := (nI (bitS (fdF T rN lN) (i + 1)))) (bitS_f0 (by omega) (by simp [fdF, *])) ?_
                refine r_istore_n K (lv' := [(3, .int (nI (bitS (fdF T rN lN) (i + 1)))), (0, .ref (ad 71)), (1, .int (nI (rN))), (2, .int (nI (lN))), (4, .int (nI (i)))]) 3 rfl (by decide) rfl dX7_found_63 ?_
                refine r_iinc K ((nI (i + 1))) rfl (nI_1 _) (lv' := [(4, .int (nI (i + 1))), (3, .int (nI (bitS (fdF T rN lN) (i + 1)))), (0, .ref (ad 71)), (1, .int (nI (rN))), (2, .int (nI (lN)))]) (by decide) rfl dX7_found_64 ?_
                refine r_goto K 23 dX7_found_67 (by decide) ?_
                refine r_pick [2, 3, 4, 1, 0] (lv' := [(0, .ref (ad 71)), (1, .int (nI (rN))), (2, .int (nI (lN))), (3, .int (nI (bitS (fdF T rN lN) (i + 1)))), (4, .int (nI (i + 1)))]) rfl ?_
                exact ihA _ (by omega) (i + 1) (s_f) rfl (by omega) (same_tr hs1 hsf)
              · refine r_iconst K ((nI (1))) (by decide) dX7_found_54 ?_
                refine r_iload K rfl dX7_found_55 ?_
                refine r_ishl K dX7_found_57 ?_
                refine r_topi (b := (nI (2 ^ i))) (nI_shl1 (by omega)) ?_
                refine r_goto K 62 dX7_found_58 (by decide) ?_
                refine r_ior K dX7_found_62 ?_
                refine r_topi (b := (nI (bitS (fdF T rN lN) (i + 1)))) (bitS_t (by omega) (by simp [fdF, *])) ?_
                refine r_istore_n K (lv' := [(3, .int (nI (bitS (fdF T rN lN) (i + 1)))), (0, .ref (ad 71)), (1, .int (nI (rN))), (2, .int (nI (lN))), (4, .int (nI (i)))]) 3 rfl (by decide) rfl dX7_found_63 ?_
                refine r_iinc K ((nI (i + 1))) rfl (nI_1 _) (lv' := [(4, .int (nI (i + 1))), (3, .int (nI (bitS (fdF T rN lN) (i + 1)))), (0, .ref (ad 71)), (1, .int (nI (rN))), (2, .int (nI (lN)))]) (by decide) rfl dX7_found_64 ?_
                refine r_goto K 23 dX7_found_67 (by decide) ?_
                refine r_pick [2, 3, 4, 1, 0] (lv' := [(0, .ref (ad 71)), (1, .int (nI (rN))), (2, .int (nI (lN))), (3, .int (nI (bitS (fdF T rN lN) (i + 1)))), (4, .int (nI (i + 1)))]) rfl ?_
                exact ihA _ (by omega) (i + 1) (s_f) rfl (by omega) (same_tr hs1 hsf)
      exact lpA _ (0) (σ) rfl (by omega) (same_rf _ _ _ _ _)
    · refine r_bipush K ((-2)) (by decide) dX7_found_15 ?_
      exact r_iret K hr (⟨by first | rw [fdS, if_neg (by simp [*])] | simp [fdS, *], rfl, same_rf _ _ _ _ _⟩) dX7_found_17

set_option maxHeartbeats 400000 in
set_option maxRecDepth 10000 in
theorem m_books {g : Gp} {lau : Launch} {ad : Nat → Nat} {σ : Sg} {T : Tv} (hT : TOk T) (hR : RepM T σ) (b w : Int32) : Con g lau yX7_books cX7_books 5 (Option.some .int) 7 179 [.ref (ad 71), .int (b), .int (w)] ad σ (fun rr a2 s2 => some (.int (bkR T b w)) = rr ∧ ad = a2 ∧ mlE σ s2) := by
  refine con_mk (by decide) (Nat.le_of_ble_eq_true rfl) (fun x hxl K hr => ?_)
  subst hxl
  refine r_lv (lv' := [(0, .ref (ad 71)), (1, .int (b)), (2, .int (w))]) rfl ?_
  have hn8 := hT.2.1
  have hn9 := hT.2.2.1
  have htb := tbits_lt hT
  refine r_aload_n K 0 rfl rfl dX7_books_0 ?_
  refine r_iload_n K 1 rfl rfl dX7_books_1 ?_
  refine r_callVp K 71 (As := [.int (b)]) mv_X7_isBarge ml_RX7_186 (m_isBarge hT hR ((b))) (by decide) rfl rfl rfl rfl (Nat.le_of_ble_eq_true rfl) ⟨by decide, by decide⟩ dX7_books_2 ?_
  refine b_if_ne K 11 dX7_books_5 (by decide) (fun h5 => ?_) (fun h5 => ?_)
  · obtain ⟨bN, h_bN, rfl, t_bN⟩ := hasB_t h5
    have e_bN : (nI bN).toInt.toNat = bN := nI_nat (by omega)
    refine r_iload_n K 2 rfl rfl dX7_books_11 ?_
    refine r_iconst K ((nI (0))) (by decide) dX7_books_12 ?_
    refine r_iconst K ((nI (1))) (by decide) dX7_books_13 ?_
    refine r_callSp K (As := [.int (w), .int (nI (0)), .int (nI (1))]) ms_X7_in ml_RX7_61 (m_in ((w)) ((nI (0))) ((nI (1)))) rfl rfl (Nat.le_of_ble_eq_true rfl) ⟨by decide, by decide⟩ dX7_books_14 ?_
    refine b_if_ne K 23 dX7_books_17 (by decide) (fun h17 => ?_) (fun h17 => ?_)
    · obtain ⟨m, hm0, hm1, rfl⟩ := inS_t (by decide) (by decide) h17
      refine r_aload_n K 0 rfl rfl dX7_books_23 ?_
      refine get_71_0 K fl_RX7_160 dX7_books_24 ?_
      refine r_topi (b := (nI (T 10 0))) (hR.1) ?_
      refine n_if_ne K 33 (by omega) dX7_books_27 (by decide) (fun h27 => ?_) (fun h27 => ?_)
      · refine r_iconst K ((nI (0))) (by decide) dX7_books_33 ?_
        refine r_istore_n K (lv' := [(3, .int (nI (0))), (0, .ref (ad 71)), (1, .int (nI (bN))), (2, .int (nI (m)))]) 3 rfl (by decide) rfl dX7_books_34 ?_
        refine r_iconst K ((nI (0))) (by decide) dX7_books_35 ?_
        refine r_istore K (lv' := [(4, .int (nI (0))), (3, .int (nI (0))), (0, .ref (ad 71)), (1, .int (nI (bN))), (2, .int (nI (m)))]) (by decide) rfl dX7_books_36 ?_
        refine r_pick [2, 3, 4, 1, 0] (lv' := [(0, .ref (ad 71)), (1, .int (nI (bN))), (2, .int (nI (m))), (3, .int (nI (0))), (4, .int (nI (0)))]) rfl ?_
        have lpA : ∀ (mm_ : Nat) (n : Nat) (h : Nat) (s1 : Sg), mm_ = 24 - h → (n ≤ h) → (h ≤ 24) → (bkN T bN 24 0 = n + bkN T bN (24 - n) h) → (mlE σ s1) → GJ g x 5 38 [(0, .ref (ad 71)), (1, .int (nI (bN))), (2, .int (nI (m))), (3, .int (nI (n))), (4, .int (nI (h)))] [] ad (s1) := by
          intro mm_
          induction mm_ using Nat.strongRecOn with
          | _ mm_ ihA =>
            intro n h s1 hmA hn hh hv hs1
            refine r_iload K rfl dX7_books_38 ?_
            refine r_bipush K ((nI (24))) (by decide) dX7_books_40 ?_
            refine n_icmp_ge K 70 (by omega) (by omega) dX7_books_42 (by decide) (fun h42 => ?_) (fun h42 => ?_)
            · have hbn : bkN T bN 24 0 = n := by rw [hv, bk_end (by omega), Nat.add_zero]
              have hs9 : mlE σ s1 := hs1
              have hn24 : n ≤ 24 := by omega
              refine r_iload_n K 2 rfl rfl dX7_books_70 ?_
              refine n_if_ne K 78 (by omega) dX7_books_71 (by decide) (fun h71 => ?_) (fun h71 => ?_)
              · refine r_iload_n K 3 rfl rfl dX7_books_78 ?_
                refine r_aload_n K 0 rfl rfl dX7_books_79 ?_
                refine get_71_5 K fl_RX7_20 dX7_books_80 ?_
                refine r_iconst K ((nI (4))) (by decide) dX7_books_83 ?_
                refine r_iload_n K 1 rfl rfl dX7_books_84 ?_
                refine r_imul K dX7_books_85 ?_
                refine r_topi (pk_mul _ _) ?_
                refine r_iconst K ((nI (3))) (by decide) dX7_books_86 ?_
                refine r_iadd K dX7_books_87 ?_
                refine r_topi (nI_add _ _) ?_
                refine r_iald K 48 (n := 16) (by decide) rfl rfl (by decide) (by omega) dX7_books_88 ?_
                have hf9 := (hT.2.2.2.2.2.2.1 bN).2.2.2.2
                refine r_topi (b := (nI (T 9 bN))) ((mlE_M hR hs9).2.2.2.2.2 bN (by omega) 3 (by decide)) ?_
                refine r_imul K dX7_books_89 ?_
                refine r_topi (pk_mul _ _) ?_
                exact r_iret K hr (⟨by rw [bkR, if_pos h5, if_pos h17, if_neg h27, if_neg (fun z => h71 ((nI_eq (by omega) (by decide)).mp z)), e_bN, hbn], rfl, hs9⟩) dX7_books_90
              · refine r_iload_n K 3 rfl rfl dX7_books_74 ?_
                refine r_goto K 90 dX7_books_75 (by decide) ?_
                exact r_iret K hr (⟨by rw [bkR, if_pos h5, if_pos h17, if_neg h27, if_pos (by rw [h71]), e_bN, hbn], rfl, hs9⟩) dX7_books_90
            · refine r_aload_n K 0 rfl rfl dX7_books_45 ?_
              refine r_iload_n K 1 rfl rfl dX7_books_46 ?_
              refine r_iload K rfl dX7_books_47 ?_
              refine r_callV K 71 (As := [.int (nI (bN)), .int (nI (h))]) (rest := []) mv_X7_isSoonest ml_RX7_236 (m_isSoonest hT (mlE_M hR hs1) (b := bN) (h0 := h) (by omega) (hT.2.2.2.2.2.2.2 _ t_bN).1 (by omega)) (by decide) rfl rfl rfl rfl (Nat.le_of_ble_eq_true rfl) ⟨by decide, by decide⟩ dX7_books_49 (fun r_q ad_q s_q h_q => ?_)
              obtain ⟨rfl, rfl, hsq, hmq, hzq⟩ := h_q
              refine r_st (st' := [.int (bI (plS T bN kn0 h).isSome)]) rfl ?_
              refine b_if_eq K 70 dX7_books_52 (by decide) (fun h52 => ?_) (fun h52 => ?_)
              · have hbn : bkN T bN 24 0 = n := by rw [hv, show 24 - n = (24 - (n + 1)) + 1 by omega, bk_none (by omega) (Option.not_isSome_iff_eq_none.mp (by rw [h52]; decide)), Nat.add_zero]
                have hs9 : mlE σ s_q := same_tr hs1 hsq
                have hn24 : n ≤ 24 := by omega
                refine r_iload_n K 2 rfl rfl dX7_books_70 ?_
                refine n_if_ne K 78 (by omega) dX7_books_71 (by decide) (fun h71 => ?_) (fun h71 => ?_)
                · refine r_iload_n K 3 rfl rfl dX7_books_78 ?_
                  refine r_aload_n K 0 rfl rfl dX7_books_79 ?_
                  refine get_71_5 K fl_RX7_20 dX7_books_80 ?_
                  refine r_iconst K ((nI (4))) (by decide) dX7_books_83 ?_
                  refine r_iload_n K 1 rfl rfl dX7_books_84 ?_
                  refine r_imul K dX7_books_85 ?_
                  refine r_topi (pk_mul _ _) ?_
                  refine r_iconst K ((nI (3))) (by decide) dX7_books_86 ?_
                  refine r_iadd K dX7_books_87 ?_
                  refine r_topi (nI_add _ _) ?_
                  refine r_iald K 48 (n := 16) (by decide) rfl rfl (by decide) (by omega) dX7_books_88 ?_
                  have hf9 := (hT.2.2.2.2.2.2.1 bN).2.2.2.2
                  refine r_topi (b := (nI (T 9 bN))) ((mlE_M hR hs9).2.2.2.2.2 bN (by omega) 3 (by decide)) ?_
                  refine r_imul K dX7_books_89 ?_
                  refine r_topi (pk_mul _ _) ?_
                  exact r_iret K hr (⟨by rw [bkR, if_pos h5, if_pos h17, if_neg h27, if_neg (fun z => h71 ((nI_eq (by omega) (by decide)).mp z)), e_bN, hbn], rfl, hs9⟩) dX7_books_90
                · refine r_iload_n K 3 rfl rfl dX7_books_74 ?_
                  refine r_goto K 90 dX7_books_75 (by decide) ?_
                  exact r_iret K hr (⟨by rw [bkR, if_pos h5, if_pos h17, if_neg h27, if_pos (by rw [h71]), e_bN, hbn], rfl, hs9⟩) dX7_books_90
              · obtain ⟨ms, hq⟩ := Option.isSome_iff_exists.mp h52
                obtain ⟨h24, h25, hpl⟩ := hmq ms hq
                have hms := okP_len (pl_ok hq) (by omega)
                have hm1 := pl_pos h27 hq
                refine r_iload K rfl dX7_books_55 ?_
                refine r_aload_n K 0 rfl rfl dX7_books_57 ?_
                refine get_71_21 K fl_RX7_224 dX7_books_58 ?_
                refine r_topi (b := (nI (ms.length))) (h24) ?_
                refine r_iadd K dX7_books_61 ?_
                refine r_topi (nI_add _ _) ?_
                refine r_istore K (lv' := [(4, .int (nI (h + ms.length))), (0, .ref (ad 71)), (1, .int (nI (bN))), (2, .int (nI (m))), (3, .int (nI (n)))]) (by decide) rfl dX7_books_62 ?_
                refine r_iinc K ((nI (n + 1))) rfl (nI_1 _) (lv' := [(3, .int (nI (n + 1))), (4, .int (nI (h + ms.length))), (0, .ref (ad 71)), (1, .int (nI (bN))), (2, .int (nI (m)))]) (by decide) rfl dX7_books_64 ?_
                refine r_goto K 38 dX7_books_67 (by decide) ?_
                refine r_pick [2, 3, 4, 0, 1] (lv' := [(0, .ref (ad 71)), (1, .int (nI (bN))), (2, .int (nI (m))), (3, .int (nI (n + 1))), (4, .int (nI (h + ms.length)))]) rfl ?_
                exact ihA _ (by omega) (n + 1) (h + ms.length) (s_q) rfl (by omega) (by omega) (by rw [hv, show 24 - n = (24 - (n + 1)) + 1 by omega, bk_some (by omega) hq]; omega) (same_tr hs1 hsq)
        exact lpA _ (0) (0) (σ) rfl (by omega) (by omega) ((Nat.zero_add _).symm) (same_rf _ _ _ _ _)
      · refine r_bipush K ((-4)) (by decide) dX7_books_30 ?_
        exact r_iret K hr (⟨by rw [bkR, if_pos h5, if_pos h17, if_pos h27], rfl, same_rf _ _ _ _ _⟩) dX7_books_32
    · refine r_bipush K ((-3)) (by decide) dX7_books_20 ?_
      exact r_iret K hr (⟨by rw [bkR, if_pos h5, if_neg (by rw [h17]; decide)], rfl, same_rf _ _ _ _ _⟩) dX7_books_22
  · refine r_bipush K ((-2)) (by decide) dX7_books_8 ?_
    exact r_iret K hr (⟨by simp (decide := true) [bkR, *], rfl, same_rf _ _ _ _ _⟩) dX7_books_10

