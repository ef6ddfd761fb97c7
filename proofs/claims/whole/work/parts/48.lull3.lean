def adX (ad a2 : Nat → Nat) : Prop := ∀ k, k ∉ [41, 42] → a2 k = ad k
theorem adX_rf (ad : Nat → Nat) : adX ad ad := fun _ _ => rfl
theorem adX_tr {a b c : Nat → Nat} (h : adX a b) (h2 : adX b c) : adX a c := fun k hk => (h2 k hk).trans (h k hk)
theorem adX_sx (ad : Nat → Nat) : adX ad (asx ad) := by
  intro k hk
  show ad (psx k) = ad k
  unfold psx
  rw [if_neg (fun z => hk (by rw [z]; simp)), if_neg (fun z => hk (by rw [z]; simp))]
def llE (σ s2 : Sg) : Prop := same [39, 41, 42, 43] [] [40, 41, 42, 44, 45] false σ s2
theorem llE_sx {σ s : Sg} (h : llE σ s) : llE σ (ssx s) := by
  have key : ∀ k, k ≠ 41 → k ≠ 42 → psx k = k := fun k h1 h2 => by
    unfold psx
    rw [if_neg h1, if_neg h2]
  refine ⟨fun k hk => ?_, h.2.1, fun k hk => ?_, h.2.2.2⟩
  · show s.A (psx k) = σ.A k
    rw [key k (fun z => hk (by rw [z]; simp)) (fun z => hk (by rw [z]; simp))]
    exact h.1 k hk
  · show s.J (psx k) = σ.J k
    rw [key k (fun z => hk (by rw [z]; simp)) (fun z => hk (by rw [z]; simp))]
    exact h.2.2.1 k hk
theorem llE_C {T : Tv} {σ s : Sg} (h : RepC T σ) (hs : llE σ s) : RepC T s := h.same hs (by intro k hk; simp; omega) (by simp)
theorem sub1_eq (n : Nat) : nI n - nI 1 = nI n + (-1) := by
  rw [Int32.sub_eq_add_neg]
  rfl
theorem see_next {T : Tv} {b p n j q l : Nat} (h1 : 1 ≤ j) (h2 : j ≤ n) : p * mxV l (cordS T b) (fun m => seeV T b p (n - j) j q m) 6 + (10 - p) * mxV l (cordS T b) (fun m => seeV T b p (n - j) j (goS T b q m (j - 1)) m) 6 = seeV T b p (n - (j - 1)) (j - 1) q l := by
  rw [show n - (j - 1) = (n - j) + 1 by omega, seeV, show j - 1 + 1 = j by omega]
set_option maxHeartbeats 1000000 in
set_option maxRecDepth 10000 in
theorem c_bestSeeing {g : Gp} {lau : Launch} {ad : Nat → Nat} {σ : Sg} {T : Tv} (hT : TOk T) (hR : RepC T σ) {b n p : Nat} (hb : b < 4) (hn : n ≤ 8) (hp : p ≤ 10) : Con g lau yX2_bestSeeing cX2_bestSeeing 6 (Option.some .long) 5 124 [.ref (ad 70), .int (nI (b)), .int (nI (n)), .int (nI (p))] ad σ (fun r a2 s2 => some (.long (lN (seeV T b p n 0 (startS T) 0))) = r ∧ adX ad a2 ∧ llE σ s2) := by
  refine con_mk (by decide) (Nat.le_of_ble_eq_true rfl) (fun x hxl K hr => ?_)
  subst hxl
  refine r_lv (lv' := [(0, .ref (ad 70)), (1, .int (nI (b))), (2, .int (nI (n))), (3, .int (nI (p)))]) rfl ?_
  have hsv := validP_le hT (validP_start hT)
  refine r_aload_n K 0 rfl rfl dX2_bestSeeing_0 ?_
  refine r_iload_n K 1 rfl rfl dX2_bestSeeing_1 ?_
  refine r_iload_n K 2 rfl rfl dX2_bestSeeing_2 ?_
  refine r_callV K 70 (As := [.int (nI (b)), .int (nI (n))]) (rest := []) mv_X2_findPlaces ml_RX2_80 (c_findPlaces hT hR (b := b) (n := n) hb hn) (by decide) rfl rfl rfl rfl (Nat.le_of_ble_eq_true rfl) ⟨by decide, by decide⟩ dX2_bestSeeing_3 (fun r_f ad_f s_f h_f => ?_)
  obtain ⟨t, rfl, rfl, hsf, hrf, h9, hn9, hcl⟩ := h_f
  refine r_st (st' := []) rfl ?_
  refine r_aload_n K 0 rfl rfl dX2_bestSeeing_6 ?_
  refine get_70_4 K fl_RX2_22 dX2_bestSeeing_7 ?_
  refine r_lconst K (lN 0) rfl dX2_bestSeeing_10 ?_
  refine r_callS K (As := [.ref (ad 42), .long (lN (0))]) (rest := []) ms_J7_fill_d0a16 ml_RX2_83 (c_fillJ 42 (n := 966) (by decide) rfl rfl (by decide) ((lN (0)))) rfl rfl (Nat.le_of_ble_eq_true rfl) ⟨by decide, by decide⟩ dX2_bestSeeing_11 (fun r_ ad_ s_ h_ => ?_)
  obtain ⟨rfl, rfl, rfl⟩ := h_
  refine r_st (st' := []) rfl ?_
  refine r_iconst K ((nI (0))) (by decide) dX2_bestSeeing_14 ?_
  refine r_istore K (lv' := [(4, .int (nI (0))), (0, .ref (ad 70)), (1, .int (nI (b))), (2, .int (nI (n))), (3, .int (nI (p)))]) (by decide) rfl dX2_bestSeeing_15 ?_
  refine r_pick [1, 2, 3, 4, 0] (lv' := [(0, .ref (ad 70)), (1, .int (nI (b))), (2, .int (nI (n))), (3, .int (nI (p))), (4, .int (nI (0)))]) rfl ?_
  have lpA : ∀ (mm_ : Nat) (l : Nat) (s1 : Sg), mm_ = 6 - l → (l ≤ 6) → (same [] [] [42] false s_f s1) → (∀ i, i < 966 → s1.J 42 i = lN (if 960 ≤ i ∧ i < 960 + l then 1 else 0)) → GJ g x 6 17 [(0, .ref (ad 70)), (1, .int (nI (b))), (2, .int (nI (n))), (3, .int (nI (p))), (4, .int (nI (l)))] [] ad (s1) := by
    intro mm_
    induction mm_ using Nat.strongRecOn with
    | _ mm_ ihA =>
      intro l s1 hmA hl hs1 h42
      refine r_iload K rfl dX2_bestSeeing_17 ?_
      refine r_bipush K ((nI (6))) (by decide) dX2_bestSeeing_19 ?_
      refine n_icmp_ge K 42 (by omega) (by omega) dX2_bestSeeing_21 (by decide) (fun h21 => ?_) (fun h21 => ?_)
      · refine r_iload_n K 2 rfl rfl dX2_bestSeeing_42 ?_
        refine r_iconst K ((nI (1))) (by decide) dX2_bestSeeing_43 ?_
        refine r_isub K dX2_bestSeeing_44 ?_
        refine r_istore K (lv' := [(4, .int ((nI (n)) - (nI (1)))), (0, .ref (ad 70)), (1, .int (nI (b))), (2, .int (nI (n))), (3, .int (nI (p)))]) (by decide) rfl dX2_bestSeeing_45 ?_
        refine r_lv (lv' := [(4, .int (nI n + (-1))), (0, .ref (ad 70)), (1, .int (nI (b))), (2, .int (nI (n))), (3, .int (nI (p)))]) (by rw [sub1_eq n]) ?_
        refine r_pick [1, 2, 3, 4, 0] (lv' := [(0, .ref (ad 70)), (1, .int (nI (b))), (2, .int (nI (n))), (3, .int (nI (p))), (4, .int (nI n + (-1)))]) rfl ?_
        have lpB : ∀ (mm_ : Nat) (j : Nat) (a1 : Nat → Nat) (s2 : Sg), mm_ = j → (j ≤ n) → (adX ad a1) → (llE σ s2) → (RepH t s2) → (∀ q l, q ≤ 160 → l < 6 → (j = n ∨ t q ≤ j) → s2.J 42 (q * 6 + l) = lN (seeV T b p (n - j) j q l)) → GJ g x 6 47 [(0, .ref (a1 70)), (1, .int (nI (b))), (2, .int (nI (n))), (3, .int (nI (p))), (4, .int (nI j + (-1)))] [] a1 (s2) := by
          intro mm_
          induction mm_ using Nat.strongRecOn with
          | _ mm_ ihB =>
            intro j a1 s2 hmB hj ha1 hs2 hr2 hlt
            refine r_iload K rfl dX2_bestSeeing_47 ?_
            rcases (show j = 0 ∨ 1 ≤ j by omega) with hj0 | hj1
            · skip
              refine r_if_lt K 101 dX2_bestSeeing_49 (by decide) (fun h49 => ?_) (fun h49 => absurd h49 (fun z => z (by rw [hj0]; decide)))
              refine r_aload_n K 0 rfl rfl dX2_bestSeeing_101 ?_
              refine get_70_4 K fl_RX2_22 dX2_bestSeeing_102 ?_
              refine r_aload_n K 0 rfl rfl dX2_bestSeeing_105 ?_
              refine get_70_0 K fl_RX2_34 dX2_bestSeeing_106 ?_
              refine r_callVp K 62 (As := []) mv_X4_begin ml_RX2_38 (c_begin hT (llE_C hR hs2)) (by decide) rfl rfl rfl rfl (Nat.le_of_ble_eq_true rfl) ⟨by decide, by decide⟩ dX2_bestSeeing_109 ?_
              refine r_bipush K ((nI (6))) (by decide) dX2_bestSeeing_112 ?_
              refine r_imul K dX2_bestSeeing_114 ?_
              refine r_topi (pk_mul _ _) ?_
              refine r_lald K 42 (n := 966) (by decide) rfl rfl (by decide) (by omega) dX2_bestSeeing_115 ?_
              refine r_topl (b := (lN (seeV T b p n 0 (startS T) 0))) (by have hz := hlt (startS T) 0 hsv (by decide) (Or.inr (by rw [hcl.1]; omega)); rw [hj0] at hz; exact hz) ?_
              exact r_lret K hr (⟨rfl, ha1, hs2⟩) dX2_bestSeeing_116
            · rw [nI_dec (show 0 < j by omega)]
              refine r_if_lt K 101 dX2_bestSeeing_49 (by decide) (fun h49 => absurd h49 (nI_nn (by omega))) (fun h49 => ?_)
              refine r_iconst K ((nI (0))) (by decide) dX2_bestSeeing_52 ?_
              refine r_istore K (lv' := [(5, .int (nI (0))), (0, .ref (a1 70)), (1, .int (nI (b))), (2, .int (nI (n))), (3, .int (nI (p))), (4, .int (nI (j - 1)))]) (by decide) rfl dX2_bestSeeing_53 ?_
              refine r_pick [1, 2, 3, 4, 5, 0] (lv' := [(0, .ref (a1 70)), (1, .int (nI (b))), (2, .int (nI (n))), (3, .int (nI (p))), (4, .int (nI (j - 1))), (5, .int (nI (0)))]) rfl ?_
              have lpC : ∀ (mm_ : Nat) (i : Nat) (s3 : Sg), mm_ = 161 - i → (i ≤ 161) → (llE σ s3) → (RepH t s3) → (s3.J 42 = s2.J 42) → (∀ q l, q < i → l < 6 → t q ≤ j - 1 → s3.J 41 (q * 6 + l) = lN (seeV T b p (n - (j - 1)) (j - 1) q l)) → GJ g x 6 55 [(0, .ref (a1 70)), (1, .int (nI (b))), (2, .int (nI (n))), (3, .int (nI (p))), (4, .int (nI (j - 1))), (5, .int (nI (i)))] [] a1 (s3) := by
                intro mm_
                induction mm_ using Nat.strongRecOn with
                | _ mm_ ihC =>
                  intro i s3 hmC hi hs3 hr3 g42 h41
                  refine r_iload K rfl dX2_bestSeeing_55 ?_
                  refine r_sipush K ((nI (161))) (by decide) dX2_bestSeeing_57 ?_
                  refine n_icmp_ge K 91 (by omega) (by omega) dX2_bestSeeing_60 (by decide) (fun h60 => ?_) (fun h60 => ?_)
                  · refine r_aload_n K 0 rfl rfl dX2_bestSeeing_91 ?_
                    refine r_callV K 70 (As := []) (rest := []) mv_X2_swap ml_RX2_93 (c_X2_swap) (by decide) rfl rfl rfl rfl (Nat.le_of_ble_eq_true rfl) ⟨by decide, by decide⟩ dX2_bestSeeing_92 (fun r_w ad_w s_w h_w => ?_)
                    obtain ⟨rfl, rfl, rfl⟩ := h_w
                    refine r_st (st' := []) rfl ?_
                    rw [show a1 70 = asx a1 70 from (adX_sx a1 70 (by decide)).symm]
                    refine r_iinc K ((nI (j - 1) + (-1))) rfl (by rw [show Int32.ofInt (-1) = (-1 : Int32) from rfl]) (lv' := [(4, .int (nI (j - 1) + (-1))), (0, .ref (asx a1 70)), (1, .int (nI (b))), (2, .int (nI (n))), (3, .int (nI (p))), (5, .int (nI (i)))]) (by decide) rfl dX2_bestSeeing_95 ?_
                    refine r_goto K 47 dX2_bestSeeing_98 (by decide) ?_
                    refine r_pick [1, 2, 3, 4, 0] (lv' := [(0, .ref (asx a1 70)), (1, .int (nI (b))), (2, .int (nI (n))), (3, .int (nI (p))), (4, .int (nI (j - 1) + (-1)))]) rfl ?_
                    exact ihB _ (by omega) (j - 1) (asx a1) (ssx s3) rfl (by omega) (adX_tr ha1 (adX_sx a1)) (llE_sx hs3) (hr3) (fun q l2 hq hl2 hz => h41 q l2 (by omega) hl2 (by omega))
                  · refine r_aload_n K 0 rfl rfl dX2_bestSeeing_63 ?_
                    refine get_70_5 K fl_RX2_25 dX2_bestSeeing_64 ?_
                    refine r_iload K rfl dX2_bestSeeing_67 ?_
                    refine r_iald K 43 (n := 161) (by decide) rfl rfl (by decide) (by omega) dX2_bestSeeing_69 ?_
                    have hti := hcl.2.1 i
                    refine r_topi (b := (nI (t i))) (hr3 i (by omega)) ?_
                    refine r_iload K rfl dX2_bestSeeing_70 ?_
                    refine n_icmp_gt K 85 (by omega) (by omega) dX2_bestSeeing_72 (by decide) (fun h72 => ?_) (fun h72 => ?_)
                    · refine r_iinc K ((nI (i + 1))) rfl (nI_1 _) (lv' := [(5, .int (nI (i + 1))), (0, .ref (a1 70)), (1, .int (nI (b))), (2, .int (nI (n))), (3, .int (nI (p))), (4, .int (nI (j - 1)))]) (by decide) rfl dX2_bestSeeing_85 ?_
                      refine r_goto K 55 dX2_bestSeeing_88 (by decide) ?_
                      refine r_pick [1, 2, 3, 4, 5, 0] (lv' := [(0, .ref (a1 70)), (1, .int (nI (b))), (2, .int (nI (n))), (3, .int (nI (p))), (4, .int (nI (j - 1))), (5, .int (nI (i + 1)))]) rfl ?_
                      exact ihC _ (by omega) (i + 1) (s3) rfl (by omega) (hs3) (hr3) (g42) (fun q l2 hq hl2 hz => by by_cases e : q = i; (rw [e] at hz; omega); exact h41 q l2 (by omega) hl2 hz)
                    · refine r_aload_n K 0 rfl rfl dX2_bestSeeing_75 ?_
                      refine r_iload_n K 1 rfl rfl dX2_bestSeeing_76 ?_
                      refine r_iload K rfl dX2_bestSeeing_77 ?_
                      refine r_iload K rfl dX2_bestSeeing_79 ?_
                      refine r_iload_n K 3 rfl rfl dX2_bestSeeing_81 ?_
                      have hvi := hti.2 (by omega)
                      have hgt : ∀ m, m < 6 → (j = n ∨ t (goS T b i m (j - 1)) ≤ j) := fun m hm => by
                        by_cases e : j = n
                        · exact Or.inl e
                        · refine Or.inr ?_
                          by_cases e2 : i = 160
                          · have e3 : goS T b i m (j - 1) = 160 := by unfold goS; rw [if_pos (by omega)]
                            rw [e3, ← e2]; omega
                          · have := hcl.2.2.1 (j - 1) i (by omega) (by omega) (by omega) m hm
                            omega
                      refine r_callV K 70 (As := [.int (nI (b)), .int (nI (i)), .int (nI (j - 1)), .int (nI (p))]) (rest := []) mv_X2_valuePlace ml_RX2_89 (c_valuePlace hT (llE_C hR hs3) (b := b) (q := i) (h := j - 1) (p := p) (f0 := fun m => seeV T b p (n - j) j i m) (f1 := fun m => seeV T b p (n - j) j (goS T b i m (j - 1)) m) hb hvi (by omega) hp (fun m hm => by rw [g42]; exact hlt i m (by omega) hm (Or.inr (by omega))) (fun m hm => by rw [g42]; exact hlt _ m (validP_le hT (validP_go hT hvi b m (j - 1))) hm (hgt m hm)) (fun m => Nat.le_trans (seeV_le hp _ _ _ _) (pow8 (by omega))) (fun m => Nat.le_trans (seeV_le hp _ _ _ _) (pow8 (by omega)))) (by decide) rfl rfl rfl rfl (Nat.le_of_ble_eq_true rfl) ⟨by decide, by decide⟩ dX2_bestSeeing_82 (fun r_v ad_v s_v h_v => ?_)
                      obtain ⟨rfl, rfl, hvs, hv1, hv2⟩ := h_v
                      refine r_st (st' := []) rfl ?_
                      refine r_iinc K ((nI (i + 1))) rfl (nI_1 _) (lv' := [(5, .int (nI (i + 1))), (0, .ref (a1 70)), (1, .int (nI (b))), (2, .int (nI (n))), (3, .int (nI (p))), (4, .int (nI (j - 1)))]) (by decide) rfl dX2_bestSeeing_85 ?_
                      refine r_goto K 55 dX2_bestSeeing_88 (by decide) ?_
                      refine r_pick [1, 2, 3, 4, 5, 0] (lv' := [(0, .ref (a1 70)), (1, .int (nI (b))), (2, .int (nI (n))), (3, .int (nI (p))), (4, .int (nI (j - 1))), (5, .int (nI (i + 1)))]) rfl ?_
                      exact ihC _ (by omega) (i + 1) (s_v) rfl (by omega) (same_tr hs3 (same_w hvs (by simp) (by simp) (by simp) id)) (fun q hq => by rw [hvs.1 43 (by simp)]; exact hr3 q hq) (by rw [hvs.2.2.1 42 (by simp)]; exact g42) (fun q l2 hq hl2 hz => by by_cases e : q = i; (rw [e, hv1 l2 hl2, see_next hj1 hj]); (rw [hv2 _ (by omega)]; exact h41 q l2 (by omega) hl2 hz))
              exact lpC _ (0) (s2) rfl (by omega) (hs2) (hr2) (rfl) (fun q l hq => absurd hq (Nat.not_lt_zero q))
        exact lpB _ (n) (ad) (s1) rfl (Nat.le_refl _) (adX_rf ad) (same_tr (same_w hsf (by simp) (by simp) (by simp) id) (same_w hs1 (by simp) (by simp) (by simp) id)) (fun q hq => by rw [hs1.1 43 (by simp)]; exact hrf q hq) (fun q l2 hq hl2 _ => by rw [h42 _ (by omega), Nat.sub_self, seeV]; by_cases e : q = 160; (rw [if_pos e, if_pos (by omega)]); (rw [if_neg e, if_neg (by omega)]))
      · refine r_aload_n K 0 rfl rfl dX2_bestSeeing_24 ?_
        refine get_70_4 K fl_RX2_22 dX2_bestSeeing_25 ?_
        refine r_sipush K ((nI (960))) (by decide) dX2_bestSeeing_28 ?_
        refine r_iload K rfl dX2_bestSeeing_31 ?_
        refine r_iadd K dX2_bestSeeing_33 ?_
        refine r_topi (nI_add _ _) ?_
        refine r_lconst K (lN 1) rfl dX2_bestSeeing_34 ?_
        refine r_last K 42 (n := 966) (by decide) rfl rfl (by decide) (by omega) dX2_bestSeeing_35 ?_
        refine r_iinc K ((nI (l + 1))) rfl (nI_1 _) (lv' := [(4, .int (nI (l + 1))), (0, .ref (ad 70)), (1, .int (nI (b))), (2, .int (nI (n))), (3, .int (nI (p)))]) (by decide) rfl dX2_bestSeeing_36 ?_
        refine r_goto K 17 dX2_bestSeeing_39 (by decide) ?_
        refine r_pick [1, 2, 3, 4, 0] (lv' := [(0, .ref (ad 70)), (1, .int (nI (b))), (2, .int (nI (n))), (3, .int (nI (p))), (4, .int (nI (l + 1)))]) rfl ?_
        exact ihA _ (by omega) (l + 1) ((s1).sJ 42 (vp_updL ((s1).J 42) (960 + l) ((lN (1))))) rfl (by omega) (same_sJ hs1 (by simp) _) (fun i hi => by rw [sJ_at]; unfold vp_updL; by_cases e : i = 960 + l; (rw [if_pos e, if_pos (by omega)]); (rw [if_neg e, h42 i hi]; by_cases e2 : 960 ≤ i ∧ i < 960 + l; (rw [if_pos e2, if_pos (by omega)]); (rw [if_neg e2, if_neg (by omega)])))
  exact lpA _ (0) (_) rfl (by omega) (same_sJ (same_rf _ _ _ _ _) (by simp) _) (fun i hi => by rw [sJ_at]; unfold fillJ; rw [if_pos hi, if_neg (by omega)])

def setR (ls : Nat → Nat) (h t : Nat) : Nat → Nat := fun i => if i = h then t else ls i
def blH (T : Tv) (b p n h : Nat) (ls : Nat → Nat) (Q : (Nat → Nat) → Prop) (X : Nat) : Prop := (∀ ls', (∀ i, i < h → ls' i = ls i) → adm T b ls' n → Q ls' → rowV T b p ls' n 0 (startS T) ≤ X) ∧ (X = 0 ∨ ∃ ls', (∀ i, i < h → ls' i = ls i) ∧ adm T b ls' n ∧ rowV T b p ls' n 0 (startS T) = X)
theorem blH_leaf {T : Tv} {b p n : Nat} {ls : Nat → Nat} (ha : adm T b ls n) : blH T b p n n ls (fun _ => True) (rowV T b p ls n 0 (startS T)) :=
  ⟨fun ls' he _ _ => Nat.le_of_eq (rowV_eq n 0 _ (fun i _ hi => he i (by omega))), Or.inr ⟨ls, fun _ _ => rfl, ha, rfl⟩⟩
theorem prevL_eq {ls ls' : Nat → Nat} {h : Nat} (he : ∀ i, i < h → ls' i = ls i) : prevL ls' h = prevL ls h := by
  unfold prevL
  by_cases q : h = 0
  · rw [if_pos q, if_pos q]
  · rw [if_neg q, if_neg q, he (h - 1) (by omega)]
theorem adm_set {T : Tv} {b h t : Nat} {ls : Nat → Nat} (ha : adm T b ls h) (ht : t < 6) (ho : offS (prevL ls h) t ≤ cordS T b) : adm T b (setR ls h t) (h + 1) := by
  intro i hi
  by_cases e : i = h
  · subst e
    have e1 : setR ls i t i = t := if_pos rfl
    rw [e1, show prevL (setR ls i t) i = prevL ls i from prevL_eq (fun k hk => if_neg (by omega))]
    exact ⟨ht, ho⟩
  · have e1 : setR ls h t i = ls i := if_neg e
    rw [e1, show prevL (setR ls h t) i = prevL ls i from prevL_eq (fun k hk => if_neg (by omega))]
    exact ha i (by omega)
theorem blH_0 {T : Tv} {b p n h l : Nat} {ls : Nat → Nat} (hn : h < n) (hl : prevL ls h = l) : blH T b p n h ls (fun ls' => ls' h < l - cordS T b) 0 :=
  ⟨fun ls' he ha hq => by
    exfalso
    have ho := (ha h hn).2
    rw [prevL_eq he, hl] at ho
    unfold offS at ho
    split at ho <;> omega, Or.inl rfl⟩
theorem blH_s {T : Tv} {b p n h t X Y : Nat} {ls : Nat → Nat} (h1 : blH T b p n h ls (fun ls' => ls' h < t) X) (h2 : blH T b p n (h + 1) (setR ls h t) (fun _ => True) Y) : blH T b p n h ls (fun ls' => ls' h < t + 1) (max X Y) := by
  have es : ∀ ls' : Nat → Nat, (∀ i, i < h + 1 → ls' i = setR ls h t i) → ∀ i, i < h → ls' i = ls i := fun ls' he i hi => by
    rw [he i (by omega)]; exact if_neg (by omega)
  refine ⟨fun ls' he ha hq => ?_, ?_⟩
  · by_cases e : ls' h = t
    · refine Nat.le_trans (h2.1 ls' (fun i hi => ?_) ha trivial) (Nat.le_max_right _ _)
      by_cases e2 : i = h
      · rw [e2, e]; exact (if_pos rfl).symm
      · rw [he i (by omega)]; exact (if_neg e2).symm
    · exact Nat.le_trans (h1.1 ls' he ha (show ls' h < t by have hq2 : ls' h < t + 1 := hq; omega)) (Nat.le_max_left _ _)
  · by_cases q : X ≤ Y
    · rw [Nat.max_eq_right q]
      rcases h2.2 with e | ⟨ls', e1, e2, e3⟩
      · exact Or.inl e
      · exact Or.inr ⟨ls', es ls' e1, e2, e3⟩
    · rw [Nat.max_eq_left (by omega)]
      exact h1.2
theorem blH_all {T : Tv} {b p n h l t X : Nat} {ls : Nat → Nat} (hn : h < n) (hl : prevL ls h = l) (ht : min 5 (l + cordS T b) < t) (h1 : blH T b p n h ls (fun ls' => ls' h < t) X) : blH T b p n h ls (fun _ => True) X :=
  ⟨fun ls' he ha _ => h1.1 ls' he ha (by
    obtain ⟨h6, ho⟩ := ha h hn
    rw [prevL_eq he, hl] at ho
    unfold offS at ho
    show ls' h < t
    split at ho <;> omega), h1.2⟩
theorem blH_bl {T : Tv} {b p n X : Nat} {ls : Nat → Nat} (h : blH T b p n 0 ls (fun _ => True) X) : blS T b p n X :=
  ⟨fun ls' ha => h.1 ls' (fun i hi => absurd hi (Nat.not_lt_zero i)) ha trivial, h.2.imp id (fun ⟨ls', _, e2, e3⟩ => ⟨ls', e2, e3⟩)⟩
theorem blH_le {T : Tv} {b p n h X : Nat} {ls : Nat → Nat} {Q : (Nat → Nat) → Prop} (hp : p ≤ 10) (h1 : blH T b p n h ls Q X) : X ≤ 10 ^ n := by
  rcases h1.2 with e | ⟨ls', -, -, e⟩
  · rw [e]; exact Nat.zero_le _
  · rw [← e]; exact rowV_le hp _ _ _
set_option maxHeartbeats 400000 in
set_option maxRecDepth 10000 in
theorem c_bestRow_0 {g : Gp} {lau : Launch} {ad : Nat → Nat} {σ : Sg} {T : Tv} (hT : TOk T) (hR : RepC T σ) {b p n h l : Nat} {ls : Nat → Nat} (hn : n ≤ 4) (hk : h + 0 = n) (hb : b < 4) (hp : p ≤ 10) (hl : l < 6) (hpl : prevL ls h = l) (ha : adm T b ls h) (ht : TreeP T b ls h σ) (hc : ChP p n σ) : Con g lau yX2_bestRow cX2_bestRow 10 (Option.some .long) 4 99 [.ref (ad 70), .int (nI (b)), .int (nI (n)), .int (nI (h)), .int (nI (l))] ad σ (fun r a2 s2 => ∃ X, some (.long (lN X)) = r ∧ ad = a2 ∧ same [39] [] [] false σ s2 ∧ TreeP T b ls h s2 ∧ blH T b p n h ls (fun _ => True) X) := by
  refine con_mk (by decide) (Nat.le_of_ble_eq_true rfl) (fun x hxl K hr => ?_)
  subst hxl
  refine r_lv (lv' := [(0, .ref (ad 70)), (1, .int (nI (b))), (2, .int (nI (n))), (3, .int (nI (h))), (4, .int (nI (l)))]) rfl ?_
  refine r_iload_n K 3 rfl rfl dX2_bestRow_0 ?_
  refine r_iload_n K 2 rfl rfl dX2_bestRow_1 ?_
  refine n_icmp_ge K 10 (by omega) (by omega) dX2_bestRow_2 (by decide) (fun h2 => ?_) (fun h2 => absurd h2 (by omega))
  refine r_aload_n K 0 rfl rfl dX2_bestRow_10 ?_
  refine r_iload_n K 2 rfl rfl dX2_bestRow_11 ?_
  refine r_callVp K 70 (As := [.int (nI (n))]) mv_X2_thereAfter ml_RX2_62 (c_thereAfter hT (b := b) (n := n) (p := p) (ls := ls) (by omega) (by have hz := ht; rw [show h = n by omega] at hz; exact hz) hc) (by decide) rfl rfl rfl rfl (Nat.le_of_ble_eq_true rfl) ⟨by decide, by decide⟩ dX2_bestRow_12 ?_
  exact r_lret K hr (⟨_, rfl, rfl, same_rf _ _ _ _ _, ht, by have hz : h = n := (by omega); subst hz; exact blH_leaf ha⟩) dX2_bestRow_15

set_option maxHeartbeats 400000 in
set_option maxRecDepth 10000 in
theorem c_bestRow_1 {g : Gp} {lau : Launch} {ad : Nat → Nat} {σ : Sg} {T : Tv} (hT : TOk T) (hR : RepC T σ) {b p n h l : Nat} {ls : Nat → Nat} (hn : n ≤ 4) (hk : h + 1 = n) (hb : b < 4) (hp : p ≤ 10) (hl : l < 6) (hpl : prevL ls h = l) (ha : adm T b ls h) (ht : TreeP T b ls h σ) (hc : ChP p n σ) : Con g lau yX2_bestRow cX2_bestRow 10 (Option.some .long) 5 128 [.ref (ad 70), .int (nI (b)), .int (nI (n)), .int (nI (h)), .int (nI (l))] ad σ (fun r a2 s2 => ∃ X, some (.long (lN X)) = r ∧ ad = a2 ∧ same [39] [] [] false σ s2 ∧ TreeP T b ls h s2 ∧ blH T b p n h ls (fun _ => True) X) := by
  refine con_mk (by decide) (Nat.le_of_ble_eq_true rfl) (fun x hxl K hr => ?_)
  subst hxl
  refine r_lv (lv' := [(0, .ref (ad 70)), (1, .int (nI (b))), (2, .int (nI (n))), (3, .int (nI (h))), (4, .int (nI (l)))]) rfl ?_
  refine r_iload_n K 3 rfl rfl dX2_bestRow_0 ?_
  refine r_iload_n K 2 rfl rfl dX2_bestRow_1 ?_
  refine n_icmp_ge K 10 (by omega) (by omega) dX2_bestRow_2 (by decide) (fun h2 => absurd h2 (by omega)) (fun h2 => ?_)
  refine r_iload_n K 3 rfl rfl dX2_bestRow_5 ?_
  refine r_iconst K ((nI (4))) (by decide) dX2_bestRow_6 ?_
  refine n_icmp_lt K 16 (by omega) (by omega) dX2_bestRow_7 (by decide) (fun h7 => ?_) (fun h7 => absurd h7 (by omega))
  refine r_lconst K (lN 0) rfl dX2_bestRow_16 ?_
  refine r_lstore K (lv' := [(5, .long (lN (0))), (0, .ref (ad 70)), (1, .int (nI (b))), (2, .int (nI (n))), (3, .int (nI (h))), (4, .int (nI (l)))]) (by decide) rfl dX2_bestRow_17 ?_
  refine r_aload_n K 0 rfl rfl dX2_bestRow_19 ?_
  refine get_70_0 K fl_RX2_34 dX2_bestRow_20 ?_
  refine r_iload_n K 1 rfl rfl dX2_bestRow_23 ?_
  refine r_callVp K 62 (As := [.int (nI (b))]) mv_X4_cordOf ml_RX2_66 (c_cordOf hT hR (b := b) (by omega)) (by decide) rfl rfl rfl rfl (Nat.le_of_ble_eq_true rfl) ⟨by decide, by decide⟩ dX2_bestRow_24 ?_
  have hcd := cordS_le hT b
  refine r_istore K (lv' := [(7, .int (nI (cordS T b))), (5, .long (lN (0))), (0, .ref (ad 70)), (1, .int (nI (b))), (2, .int (nI (n))), (3, .int (nI (h))), (4, .int (nI (l)))]) (by decide) rfl dX2_bestRow_27 ?_
  refine r_iconst K ((nI (5))) (by decide) dX2_bestRow_29 ?_
  refine r_iload K rfl dX2_bestRow_30 ?_
  refine r_iload K rfl dX2_bestRow_32 ?_
  refine r_iadd K dX2_bestRow_34 ?_
  refine r_topi (nI_add _ _) ?_
  refine r_mmin K ml_RX2_44 (by decide) (Nat.le_of_ble_eq_true rfl) dX2_bestRow_35 ?_
  refine r_topi (b := (nI (min 5 (l + (cordS T b))))) (nI_min (by omega) (by omega)) ?_
  refine r_istore K (lv' := [(8, .int (nI (min 5 (l + (cordS T b))))), (7, .int (nI (cordS T b))), (5, .long (lN (0))), (0, .ref (ad 70)), (1, .int (nI (b))), (2, .int (nI (n))), (3, .int (nI (h))), (4, .int (nI (l)))]) (by decide) rfl dX2_bestRow_38 ?_
  refine r_iconst K ((nI (0))) (by decide) dX2_bestRow_40 ?_
  refine r_iload K rfl dX2_bestRow_41 ?_
  refine r_iload K rfl dX2_bestRow_43 ?_
  refine r_isub K dX2_bestRow_45 ?_
  refine r_mmax K ml_RX2_70 (by decide) (Nat.le_of_ble_eq_true rfl) dX2_bestRow_46 ?_
  refine r_topi (b := (nI (l - cordS T b))) (max_sub (by omega) (by omega)) ?_
  refine r_istore K (lv' := [(9, .int (nI (l - cordS T b))), (8, .int (nI (min 5 (l + (cordS T b))))), (7, .int (nI (cordS T b))), (5, .long (lN (0))), (0, .ref (ad 70)), (1, .int (nI (b))), (2, .int (nI (n))), (3, .int (nI (h))), (4, .int (nI (l)))]) (by decide) rfl dX2_bestRow_49 ?_
  refine r_pick [4, 5, 6, 7, 8, 3, 2, 1, 0] (lv' := [(0, .ref (ad 70)), (1, .int (nI (b))), (2, .int (nI (n))), (3, .int (nI (h))), (4, .int (nI (l))), (5, .long (lN (0))), (7, .int (nI (cordS T b))), (8, .int (nI (min 5 (l + (cordS T b))))), (9, .int (nI (l - cordS T b)))]) rfl ?_
  have lpA : ∀ (mm_ : Nat) (t : Nat) (X : Nat) (s1 : Sg), mm_ = min 5 (l + cordS T b) + 1 - t → (l - cordS T b ≤ t) → (t ≤ min 5 (l + cordS T b) + 1) → (same [39] [] [] false σ s1) → (TreeP T b ls h s1) → (blH T b p n h ls (fun ls' => ls' h < t) X) → GJ g x 10 51 [(0, .ref (ad 70)), (1, .int (nI (b))), (2, .int (nI (n))), (3, .int (nI (h))), (4, .int (nI (l))), (5, .long (lN (X))), (7, .int (nI (cordS T b))), (8, .int (nI (min 5 (l + cordS T b)))), (9, .int (nI (t)))] [] ad (s1) := by
    intro mm_
    induction mm_ using Nat.strongRecOn with
    | _ mm_ ihA =>
      intro t X s1 hmA ht1 ht2 hs1 htr hX
      refine r_iload K rfl dX2_bestRow_51 ?_
      refine r_iload K rfl dX2_bestRow_53 ?_
      refine n_icmp_gt K 90 (by omega) (by omega) dX2_bestRow_55 (by decide) (fun h55 => ?_) (fun h55 => ?_)
      · refine r_lload K rfl dX2_bestRow_90 ?_
        exact r_lret K hr (⟨X, rfl, rfl, hs1, htr, blH_all (by omega) hpl (by omega) hX⟩) dX2_bestRow_92
      · refine r_aload_n K 0 rfl rfl dX2_bestRow_58 ?_
        refine r_iload_n K 1 rfl rfl dX2_bestRow_59 ?_
        refine r_iload_n K 3 rfl rfl dX2_bestRow_60 ?_
        refine r_iload K rfl dX2_bestRow_61 ?_
        refine r_callV K 70 (As := [.int (nI (b)), .int (nI (h)), .int (nI (t))]) (rest := []) mv_X2_branch ml_RX2_73 (c_branch hT (hR.same hs1 (by intro k hk; simp; omega) (by simp)) (b := b) (h := h) (l := t) (ls := setR ls h t) hb (by omega) (by omega) (if_pos rfl) (TreeP_eq htr (fun i hi => (if_neg (by omega)).symm))) (by decide) rfl rfl rfl rfl (Nat.le_of_ble_eq_true rfl) ⟨by decide, by decide⟩ dX2_bestRow_63 (fun r_b ad_b s_b h_b => ?_)
        obtain ⟨rfl, rfl, hbs, hbt⟩ := h_b
        refine r_st (st' := []) rfl ?_
        refine r_lload K rfl dX2_bestRow_66 ?_
        refine r_aload_n K 0 rfl rfl dX2_bestRow_68 ?_
        refine r_iload_n K 1 rfl rfl dX2_bestRow_69 ?_
        refine r_iload_n K 2 rfl rfl dX2_bestRow_70 ?_
        refine r_iload_n K 3 rfl rfl dX2_bestRow_71 ?_
        refine r_iconst K ((nI (1))) (by decide) dX2_bestRow_72 ?_
        refine r_iadd K dX2_bestRow_73 ?_
        refine r_topi (nI_add _ _) ?_
        refine r_iload K rfl dX2_bestRow_74 ?_
        have hof : offS l t ≤ cordS T b := by unfold offS; split <;> omega
        refine r_callV K 70 (As := [.int (nI (b)), .int (nI (n)), .int (nI (h + 1)), .int (nI (t))]) (rest := [.long (lN (X))]) mv_X2_bestRow ml_RX2_58 (c_bestRow_0 hT (hR.same (same_tr hs1 hbs) (by intro k hk; simp; omega) (by simp)) (b := b) (p := p) (n := n) (h := h + 1) (l := t) (ls := setR ls h t) hn (by omega) hb hp (by omega) (by unfold prevL; rw [if_neg (by omega)]; exact if_pos rfl) (adm_set ha (by omega) (by rw [hpl]; exact hof)) hbt (fun e he j hj => by rw [hbs.2.2.1 40 (by simp), hs1.2.2.1 40 (by simp)]; exact hc e he j hj)) (by decide) rfl rfl rfl rfl (Nat.le_of_ble_eq_true rfl) ⟨by decide, by decide⟩ dX2_bestRow_76 (fun r_r ad_r s_r h_r => ?_)
        obtain ⟨Y, rfl, rfl, hrs, htk, hY⟩ := h_r
        refine r_st (st' := [.long (lN Y), .long (lN X)]) rfl ?_
        have hYl := Nat.le_trans (blH_le hp hY) (pow8 (show n ≤ 8 by omega))
        have hXl := Nat.le_trans (blH_le hp hX) (pow8 (show n ≤ 8 by omega))
        refine r_mmax_long K ml_RX2_77 (by decide) (Nat.le_of_ble_eq_true rfl) dX2_bestRow_79 ?_
        refine r_topl (b := (lN (max X Y))) (lN_max (by omega) (by omega)) ?_
        refine r_lstore K (lv' := [(5, .long (lN (max X Y))), (0, .ref (ad 70)), (1, .int (nI (b))), (2, .int (nI (n))), (3, .int (nI (h))), (4, .int (nI (l))), (7, .int (nI (cordS T b))), (8, .int (nI (min 5 (l + cordS T b)))), (9, .int (nI (t)))]) (by decide) rfl dX2_bestRow_82 ?_
        refine r_iinc K ((nI (t + 1))) rfl (nI_1 _) (lv' := [(9, .int (nI (t + 1))), (5, .long (lN (max X Y))), (0, .ref (ad 70)), (1, .int (nI (b))), (2, .int (nI (n))), (3, .int (nI (h))), (4, .int (nI (l))), (7, .int (nI (cordS T b))), (8, .int (nI (min 5 (l + cordS T b))))]) (by decide) rfl dX2_bestRow_84 ?_
        refine r_goto K 51 dX2_bestRow_87 (by decide) ?_
        refine r_pick [2, 3, 4, 5, 6, 1, 7, 8, 0] (lv' := [(0, .ref (ad 70)), (1, .int (nI (b))), (2, .int (nI (n))), (3, .int (nI (h))), (4, .int (nI (l))), (5, .long (lN (max X Y))), (7, .int (nI (cordS T b))), (8, .int (nI (min 5 (l + cordS T b)))), (9, .int (nI (t + 1)))]) rfl ?_
        exact ihA _ (by omega) (t + 1) (max X Y) (s_r) rfl (by omega) (by omega) (same_tr (same_tr hs1 hbs) hrs) (TreeP_eq (ls := setR ls h t) (fun e he j hj => by have hz := (htk e (by omega) j hj); exact hz) (fun i hi => if_neg (by omega))) (blH_s hX hY)
  exact lpA _ (_) (0) (σ) rfl (Nat.le_refl _) (by omega) (same_rf _ _ _ _ _) (ht) (blH_0 (by omega) hpl)

set_option maxHeartbeats 400000 in
set_option maxRecDepth 10000 in
theorem c_bestRow_2 {g : Gp} {lau : Launch} {ad : Nat → Nat} {σ : Sg} {T : Tv} (hT : TOk T) (hR : RepC T σ) {b p n h l : Nat} {ls : Nat → Nat} (hn : n ≤ 4) (hk : h + 2 = n) (hb : b < 4) (hp : p ≤ 10) (hl : l < 6) (hpl : prevL ls h = l) (ha : adm T b ls h) (ht : TreeP T b ls h σ) (hc : ChP p n σ) : Con g lau yX2_bestRow cX2_bestRow 10 (Option.some .long) 6 157 [.ref (ad 70), .int (nI (b)), .int (nI (n)), .int (nI (h)), .int (nI (l))] ad σ (fun r a2 s2 => ∃ X, some (.long (lN X)) = r ∧ ad = a2 ∧ same [39] [] [] false σ s2 ∧ TreeP T b ls h s2 ∧ blH T b p n h ls (fun _ => True) X) := by
  refine con_mk (by decide) (Nat.le_of_ble_eq_true rfl) (fun x hxl K hr => ?_)
  subst hxl
  refine r_lv (lv' := [(0, .ref (ad 70)), (1, .int (nI (b))), (2, .int (nI (n))), (3, .int (nI (h))), (4, .int (nI (l)))]) rfl ?_
  refine r_iload_n K 3 rfl rfl dX2_bestRow_0 ?_
  refine r_iload_n K 2 rfl rfl dX2_bestRow_1 ?_
  refine n_icmp_ge K 10 (by omega) (by omega) dX2_bestRow_2 (by decide) (fun h2 => absurd h2 (by omega)) (fun h2 => ?_)
  refine r_iload_n K 3 rfl rfl dX2_bestRow_5 ?_
  refine r_iconst K ((nI (4))) (by decide) dX2_bestRow_6 ?_
  refine n_icmp_lt K 16 (by omega) (by omega) dX2_bestRow_7 (by decide) (fun h7 => ?_) (fun h7 => absurd h7 (by omega))
  refine r_lconst K (lN 0) rfl dX2_bestRow_16 ?_
  refine r_lstore K (lv' := [(5, .long (lN (0))), (0, .ref (ad 70)), (1, .int (nI (b))), (2, .int (nI (n))), (3, .int (nI (h))), (4, .int (nI (l)))]) (by decide) rfl dX2_bestRow_17 ?_
  refine r_aload_n K 0 rfl rfl dX2_bestRow_19 ?_
  refine get_70_0 K fl_RX2_34 dX2_bestRow_20 ?_
  refine r_iload_n K 1 rfl rfl dX2_bestRow_23 ?_
  refine r_callVp K 62 (As := [.int (nI (b))]) mv_X4_cordOf ml_RX2_66 (c_cordOf hT hR (b := b) (by omega)) (by decide) rfl rfl rfl rfl (Nat.le_of_ble_eq_true rfl) ⟨by decide, by decide⟩ dX2_bestRow_24 ?_
  have hcd := cordS_le hT b
  refine r_istore K (lv' := [(7, .int (nI (cordS T b))), (5, .long (lN (0))), (0, .ref (ad 70)), (1, .int (nI (b))), (2, .int (nI (n))), (3, .int (nI (h))), (4, .int (nI (l)))]) (by decide) rfl dX2_bestRow_27 ?_
  refine r_iconst K ((nI (5))) (by decide) dX2_bestRow_29 ?_
  refine r_iload K rfl dX2_bestRow_30 ?_
  refine r_iload K rfl dX2_bestRow_32 ?_
  refine r_iadd K dX2_bestRow_34 ?_
  refine r_topi (nI_add _ _) ?_
  refine r_mmin K ml_RX2_44 (by decide) (Nat.le_of_ble_eq_true rfl) dX2_bestRow_35 ?_
  refine r_topi (b := (nI (min 5 (l + (cordS T b))))) (nI_min (by omega) (by omega)) ?_
  refine r_istore K (lv' := [(8, .int (nI (min 5 (l + (cordS T b))))), (7, .int (nI (cordS T b))), (5, .long (lN (0))), (0, .ref (ad 70)), (1, .int (nI (b))), (2, .int (nI (n))), (3, .int (nI (h))), (4, .int (nI (l)))]) (by decide) rfl dX2_bestRow_38 ?_
  refine r_iconst K ((nI (0))) (by decide) dX2_bestRow_40 ?_
  refine r_iload K rfl dX2_bestRow_41 ?_
  refine r_iload K rfl dX2_bestRow_43 ?_
  refine r_isub K dX2_bestRow_45 ?_
  refine r_mmax K ml_RX2_70 (by decide) (Nat.le_of_ble_eq_true rfl) dX2_bestRow_46 ?_
  refine r_topi (b := (nI (l - cordS T b))) (max_sub (by omega) (by omega)) ?_
  refine r_istore K (lv' := [(9, .int (nI (l - cordS T b))), (8, .int (nI (min 5 (l + (cordS T b))))), (7, .int (nI (cordS T b))), (5, .long (lN (0))), (0, .ref (ad 70)), (1, .int (nI (b))), (2, .int (nI (n))), (3, .int (nI (h))), (4, .int (nI (l)))]) (by decide) rfl dX2_bestRow_49 ?_
  refine r_pick [4, 5, 6, 7, 8, 3, 2, 1, 0] (lv' := [(0, .ref (ad 70)), (1, .int (nI (b))), (2, .int (nI (n))), (3, .int (nI (h))), (4, .int (nI (l))), (5, .long (lN (0))), (7, .int (nI (cordS T b))), (8, .int (nI (min 5 (l + (cordS T b))))), (9, .int (nI (l - cordS T b)))]) rfl ?_
  have lpA : ∀ (mm_ : Nat) (t : Nat) (X : Nat) (s1 : Sg), mm_ = min 5 (l + cordS T b) + 1 - t → (l - cordS T b ≤ t) → (t ≤ min 5 (l + cordS T b) + 1) → (same [39] [] [] false σ s1) → (TreeP T b ls h s1) → (blH T b p n h ls (fun ls' => ls' h < t) X) → GJ g x 10 51 [(0, .ref (ad 70)), (1, .int (nI (b))), (2, .int (nI (n))), (3, .int (nI (h))), (4, .int (nI (l))), (5, .long (lN (X))), (7, .int (nI (cordS T b))), (8, .int (nI (min 5 (l + cordS T b)))), (9, .int (nI (t)))] [] ad (s1) := by
    intro mm_
    induction mm_ using Nat.strongRecOn with
    | _ mm_ ihA =>
      intro t X s1 hmA ht1 ht2 hs1 htr hX
      refine r_iload K rfl dX2_bestRow_51 ?_
      refine r_iload K rfl dX2_bestRow_53 ?_
      refine n_icmp_gt K 90 (by omega) (by omega) dX2_bestRow_55 (by decide) (fun h55 => ?_) (fun h55 => ?_)
      · refine r_lload K rfl dX2_bestRow_90 ?_
        exact r_lret K hr (⟨X, rfl, rfl, hs1, htr, blH_all (by omega) hpl (by omega) hX⟩) dX2_bestRow_92
      · refine r_aload_n K 0 rfl rfl dX2_bestRow_58 ?_
        refine r_iload_n K 1 rfl rfl dX2_bestRow_59 ?_
        refine r_iload_n K 3 rfl rfl dX2_bestRow_60 ?_
        refine r_iload K rfl dX2_bestRow_61 ?_
        refine r_callV K 70 (As := [.int (nI (b)), .int (nI (h)), .int (nI (t))]) (rest := []) mv_X2_branch ml_RX2_73 (c_branch hT (hR.same hs1 (by intro k hk; simp; omega) (by simp)) (b := b) (h := h) (l := t) (ls := setR ls h t) hb (by omega) (by omega) (if_pos rfl) (TreeP_eq htr (fun i hi => (if_neg (by omega)).symm))) (by decide) rfl rfl rfl rfl (Nat.le_of_ble_eq_true rfl) ⟨by decide, by decide⟩ dX2_bestRow_63 (fun r_b ad_b s_b h_b => ?_)
        obtain ⟨rfl, rfl, hbs, hbt⟩ := h_b
        refine r_st (st' := []) rfl ?_
        refine r_lload K rfl dX2_bestRow_66 ?_
        refine r_aload_n K 0 rfl rfl dX2_bestRow_68 ?_
        refine r_iload_n K 1 rfl rfl dX2_bestRow_69 ?_
        refine r_iload_n K 2 rfl rfl dX2_bestRow_70 ?_
        refine r_iload_n K 3 rfl rfl dX2_bestRow_71 ?_
        refine r_iconst K ((nI (1))) (by decide) dX2_bestRow_72 ?_
        refine r_iadd K dX2_bestRow_73 ?_
        refine r_topi (nI_add _ _) ?_
        refine r_iload K rfl dX2_bestRow_74 ?_
        have hof : offS l t ≤ cordS T b := by unfold offS; split <;> omega
        refine r_callV K 70 (As := [.int (nI (b)), .int (nI (n)), .int (nI (h + 1)), .int (nI (t))]) (rest := [.long (lN (X))]) mv_X2_bestRow ml_RX2_58 (c_bestRow_1 hT (hR.same (same_tr hs1 hbs) (by intro k hk; simp; omega) (by simp)) (b := b) (p := p) (n := n) (h := h + 1) (l := t) (ls := setR ls h t) hn (by omega) hb hp (by omega) (by unfold prevL; rw [if_neg (by omega)]; exact if_pos rfl) (adm_set ha (by omega) (by rw [hpl]; exact hof)) hbt (fun e he j hj => by rw [hbs.2.2.1 40 (by simp), hs1.2.2.1 40 (by simp)]; exact hc e he j hj)) (by decide) rfl rfl rfl rfl (Nat.le_of_ble_eq_true rfl) ⟨by decide, by decide⟩ dX2_bestRow_76 (fun r_r ad_r s_r h_r => ?_)
        obtain ⟨Y, rfl, rfl, hrs, htk, hY⟩ := h_r
        refine r_st (st' := [.long (lN Y), .long (lN X)]) rfl ?_
        have hYl := Nat.le_trans (blH_le hp hY) (pow8 (show n ≤ 8 by omega))
        have hXl := Nat.le_trans (blH_le hp hX) (pow8 (show n ≤ 8 by omega))
        refine r_mmax_long K ml_RX2_77 (by decide) (Nat.le_of_ble_eq_true rfl) dX2_bestRow_79 ?_
        refine r_topl (b := (lN (max X Y))) (lN_max (by omega) (by omega)) ?_
        refine r_lstore K (lv' := [(5, .long (lN (max X Y))), (0, .ref (ad 70)), (1, .int (nI (b))), (2, .int (nI (n))), (3, .int (nI (h))), (4, .int (nI (l))), (7, .int (nI (cordS T b))), (8, .int (nI (min 5 (l + cordS T b)))), (9, .int (nI (t)))]) (by decide) rfl dX2_bestRow_82 ?_
        refine r_iinc K ((nI (t + 1))) rfl (nI_1 _) (lv' := [(9, .int (nI (t + 1))), (5, .long (lN (max X Y))), (0, .ref (ad 70)), (1, .int (nI (b))), (2, .int (nI (n))), (3, .int (nI (h))), (4, .int (nI (l))), (7, .int (nI (cordS T b))), (8, .int (nI (min 5 (l + cordS T b))))]) (by decide) rfl dX2_bestRow_84 ?_
        refine r_goto K 51 dX2_bestRow_87 (by decide) ?_
        refine r_pick [2, 3, 4, 5, 6, 1, 7, 8, 0] (lv' := [(0, .ref (ad 70)), (1, .int (nI (b))), (2, .int (nI (n))), (3, .int (nI (h))), (4, .int (nI (l))), (5, .long (lN (max X Y))), (7, .int (nI (cordS T b))), (8, .int (nI (min 5 (l + cordS T b)))), (9, .int (nI (t + 1)))]) rfl ?_
        exact ihA _ (by omega) (t + 1) (max X Y) (s_r) rfl (by omega) (by omega) (same_tr (same_tr hs1 hbs) hrs) (TreeP_eq (ls := setR ls h t) (fun e he j hj => by have hz := (htk e (by omega) j hj); exact hz) (fun i hi => if_neg (by omega))) (blH_s hX hY)
  exact lpA _ (_) (0) (σ) rfl (Nat.le_refl _) (by omega) (same_rf _ _ _ _ _) (ht) (blH_0 (by omega) hpl)

set_option maxHeartbeats 400000 in
set_option maxRecDepth 10000 in
theorem c_bestRow_3 {g : Gp} {lau : Launch} {ad : Nat → Nat} {σ : Sg} {T : Tv} (hT : TOk T) (hR : RepC T σ) {b p n h l : Nat} {ls : Nat → Nat} (hn : n ≤ 4) (hk : h + 3 = n) (hb : b < 4) (hp : p ≤ 10) (hl : l < 6) (hpl : prevL ls h = l) (ha : adm T b ls h) (ht : TreeP T b ls h σ) (hc : ChP p n σ) : Con g lau yX2_bestRow cX2_bestRow 10 (Option.some .long) 7 186 [.ref (ad 70), .int (nI (b)), .int (nI (n)), .int (nI (h)), .int (nI (l))] ad σ (fun r a2 s2 => ∃ X, some (.long (lN X)) = r ∧ ad = a2 ∧ same [39] [] [] false σ s2 ∧ TreeP T b ls h s2 ∧ blH T b p n h ls (fun _ => True) X) := by
  refine con_mk (by decide) (Nat.le_of_ble_eq_true rfl) (fun x hxl K hr => ?_)
  subst hxl
  refine r_lv (lv' := [(0, .ref (ad 70)), (1, .int (nI (b))), (2, .int (nI (n))), (3, .int (nI (h))), (4, .int (nI (l)))]) rfl ?_
  refine r_iload_n K 3 rfl rfl dX2_bestRow_0 ?_
  refine r_iload_n K 2 rfl rfl dX2_bestRow_1 ?_
  refine n_icmp_ge K 10 (by omega) (by omega) dX2_bestRow_2 (by decide) (fun h2 => absurd h2 (by omega)) (fun h2 => ?_)
  refine r_iload_n K 3 rfl rfl dX2_bestRow_5 ?_
  refine r_iconst K ((nI (4))) (by decide) dX2_bestRow_6 ?_
  refine n_icmp_lt K 16 (by omega) (by omega) dX2_bestRow_7 (by decide) (fun h7 => ?_) (fun h7 => absurd h7 (by omega))
  refine r_lconst K (lN 0) rfl dX2_bestRow_16 ?_
  refine r_lstore K (lv' := [(5, .long (lN (0))), (0, .ref (ad 70)), (1, .int (nI (b))), (2, .int (nI (n))), (3, .int (nI (h))), (4, .int (nI (l)))]) (by decide) rfl dX2_bestRow_17 ?_
  refine r_aload_n K 0 rfl rfl dX2_bestRow_19 ?_
  refine get_70_0 K fl_RX2_34 dX2_bestRow_20 ?_
  refine r_iload_n K 1 rfl rfl dX2_bestRow_23 ?_
  refine r_callVp K 62 (As := [.int (nI (b))]) mv_X4_cordOf ml_RX2_66 (c_cordOf hT hR (b := b) (by omega)) (by decide) rfl rfl rfl rfl (Nat.le_of_ble_eq_true rfl) ⟨by decide, by decide⟩ dX2_bestRow_24 ?_
  have hcd := cordS_le hT b
  refine r_istore K (lv' := [(7, .int (nI (cordS T b))), (5, .long (lN (0))), (0, .ref (ad 70)), (1, .int (nI (b))), (2, .int (nI (n))), (3, .int (nI (h))), (4, .int (nI (l)))]) (by decide) rfl dX2_bestRow_27 ?_
  refine r_iconst K ((nI (5))) (by decide) dX2_bestRow_29 ?_
  refine r_iload K rfl dX2_bestRow_30 ?_
  refine r_iload K rfl dX2_bestRow_32 ?_
  refine r_iadd K dX2_bestRow_34 ?_
  refine r_topi (nI_add _ _) ?_
  refine r_mmin K ml_RX2_44 (by decide) (Nat.le_of_ble_eq_true rfl) dX2_bestRow_35 ?_
  refine r_topi (b := (nI (min 5 (l + (cordS T b))))) (nI_min (by omega) (by omega)) ?_
  refine r_istore K (lv' := [(8, .int (nI (min 5 (l + (cordS T b))))), (7, .int (nI (cordS T b))), (5, .long (lN (0))), (0, .ref (ad 70)), (1, .int (nI (b))), (2, .int (nI (n))), (3, .int (nI (h))), (4, .int (nI (l)))]) (by decide) rfl dX2_bestRow_38 ?_
  refine r_iconst K ((nI (0))) (by decide) dX2_bestRow_40 ?_
  refine r_iload K rfl dX2_bestRow_41 ?_
  refine r_iload K rfl dX2_bestRow_43 ?_
  refine r_isub K dX2_bestRow_45 ?_
  refine r_mmax K ml_RX2_70 (by decide) (Nat.le_of_ble_eq_true rfl) dX2_bestRow_46 ?_
  refine r_topi (b := (nI (l - cordS T b))) (max_sub (by omega) (by omega)) ?_
  refine r_istore K (lv' := [(9, .int (nI (l - cordS T b))), (8, .int (nI (min 5 (l + (cordS T b))))), (7, .int (nI (cordS T b))), (5, .long (lN (0))), (0, .ref (ad 70)), (1, .int (nI (b))), (2, .int (nI (n))), (3, .int (nI (h))), (4, .int (nI (l)))]) (by decide) rfl dX2_bestRow_49 ?_
  refine r_pick [4, 5, 6, 7, 8, 3, 2, 1, 0] (lv' := [(0, .ref (ad 70)), (1, .int (nI (b))), (2, .int (nI (n))), (3, .int (nI (h))), (4, .int (nI (l))), (5, .long (lN (0))), (7, .int (nI (cordS T b))), (8, .int (nI (min 5 (l + (cordS T b))))), (9, .int (nI (l - cordS T b)))]) rfl ?_
  have lpA : ∀ (mm_ : Nat) (t : Nat) (X : Nat) (s1 : Sg), mm_ = min 5 (l + cordS T b) + 1 - t → (l - cordS T b ≤ t) → (t ≤ min 5 (l + cordS T b) + 1) → (same [39] [] [] false σ s1) → (TreeP T b ls h s1) → (blH T b p n h ls (fun ls' => ls' h < t) X) → GJ g x 10 51 [(0, .ref (ad 70)), (1, .int (nI (b))), (2, .int (nI (n))), (3, .int (nI (h))), (4, .int (nI (l))), (5, .long (lN (X))), (7, .int (nI (cordS T b))), (8, .int (nI (min 5 (l + cordS T b)))), (9, .int (nI (t)))] [] ad (s1) := by
    intro mm_
    induction mm_ using Nat.strongRecOn with
    | _ mm_ ihA =>
      intro t X s1 hmA ht1 ht2 hs1 htr hX
      refine r_iload K rfl dX2_bestRow_51 ?_
      refine r_iload K rfl dX2_bestRow_53 ?_
      refine n_icmp_gt K 90 (by omega) (by omega) dX2_bestRow_55 (by decide) (fun h55 => ?_) (fun h55 => ?_)
      · refine r_lload K rfl dX2_bestRow_90 ?_
        exact r_lret K hr (⟨X, rfl, rfl, hs1, htr, blH_all (by omega) hpl (by omega) hX⟩) dX2_bestRow_92
      · refine r_aload_n K 0 rfl rfl dX2_bestRow_58 ?_
        refine r_iload_n K 1 rfl rfl dX2_bestRow_59 ?_
        refine r_iload_n K 3 rfl rfl dX2_bestRow_60 ?_
        refine r_iload K rfl dX2_bestRow_61 ?_
        refine r_callV K 70 (As := [.int (nI (b)), .int (nI (h)), .int (nI (t))]) (rest := []) mv_X2_branch ml_RX2_73 (c_branch hT (hR.same hs1 (by intro k hk; simp; omega) (by simp)) (b := b) (h := h) (l := t) (ls := setR ls h t) hb (by omega) (by omega) (if_pos rfl) (TreeP_eq htr (fun i hi => (if_neg (by omega)).symm))) (by decide) rfl rfl rfl rfl (Nat.le_of_ble_eq_true rfl) ⟨by decide, by decide⟩ dX2_bestRow_63 (fun r_b ad_b s_b h_b => ?_)
        obtain ⟨rfl, rfl, hbs, hbt⟩ := h_b
        refine r_st (st' := []) rfl ?_
        refine r_lload K rfl dX2_bestRow_66 ?_
        refine r_aload_n K 0 rfl rfl dX2_bestRow_68 ?_
        refine r_iload_n K 1 rfl rfl dX2_bestRow_69 ?_
        refine r_iload_n K 2 rfl rfl dX2_bestRow_70 ?_
        refine r_iload_n K 3 rfl rfl dX2_bestRow_71 ?_
        refine r_iconst K ((nI (1))) (by decide) dX2_bestRow_72 ?_
        refine r_iadd K dX2_bestRow_73 ?_
        refine r_topi (nI_add _ _) ?_
        refine r_iload K rfl dX2_bestRow_74 ?_
        have hof : offS l t ≤ cordS T b := by unfold offS; split <;> omega
        refine r_callV K 70 (As := [.int (nI (b)), .int (nI (n)), .int (nI (h + 1)), .int (nI (t))]) (rest := [.long (lN (X))]) mv_X2_bestRow ml_RX2_58 (c_bestRow_2 hT (hR.same (same_tr hs1 hbs) (by intro k hk; simp; omega) (by simp)) (b := b) (p := p) (n := n) (h := h + 1) (l := t) (ls := setR ls h t) hn (by omega) hb hp (by omega) (by unfold prevL; rw [if_neg (by omega)]; exact if_pos rfl) (adm_set ha (by omega) (by rw [hpl]; exact hof)) hbt (fun e he j hj => by rw [hbs.2.2.1 40 (by simp), hs1.2.2.1 40 (by simp)]; exact hc e he j hj)) (by decide) rfl rfl rfl rfl (Nat.le_of_ble_eq_true rfl) ⟨by decide, by decide⟩ dX2_bestRow_76 (fun r_r ad_r s_r h_r => ?_)
        obtain ⟨Y, rfl, rfl, hrs, htk, hY⟩ := h_r
        refine r_st (st' := [.long (lN Y), .long (lN X)]) rfl ?_
        have hYl := Nat.le_trans (blH_le hp hY) (pow8 (show n ≤ 8 by omega))
        have hXl := Nat.le_trans (blH_le hp hX) (pow8 (show n ≤ 8 by omega))
        refine r_mmax_long K ml_RX2_77 (by decide) (Nat.le_of_ble_eq_true rfl) dX2_bestRow_79 ?_
        refine r_topl (b := (lN (max X Y))) (lN_max (by omega) (by omega)) ?_
        refine r_lstore K (lv' := [(5, .long (lN (max X Y))), (0, .ref (ad 70)), (1, .int (nI (b))), (2, .int (nI (n))), (3, .int (nI (h))), (4, .int (nI (l))), (7, .int (nI (cordS T b))), (8, .int (nI (min 5 (l + cordS T b)))), (9, .int (nI (t)))]) (by decide) rfl dX2_bestRow_82 ?_
        refine r_iinc K ((nI (t + 1))) rfl (nI_1 _) (lv' := [(9, .int (nI (t + 1))), (5, .long (lN (max X Y))), (0, .ref (ad 70)), (1, .int (nI (b))), (2, .int (nI (n))), (3, .int (nI (h))), (4, .int (nI (l))), (7, .int (nI (cordS T b))), (8, .int (nI (min 5 (l + cordS T b))))]) (by decide) rfl dX2_bestRow_84 ?_
        refine r_goto K 51 dX2_bestRow_87 (by decide) ?_
        refine r_pick [2, 3, 4, 5, 6, 1, 7, 8, 0] (lv' := [(0, .ref (ad 70)), (1, .int (nI (b))), (2, .int (nI (n))), (3, .int (nI (h))), (4, .int (nI (l))), (5, .long (lN (max X Y))), (7, .int (nI (cordS T b))), (8, .int (nI (min 5 (l + cordS T b)))), (9, .int (nI (t + 1)))]) rfl ?_
        exact ihA _ (by omega) (t + 1) (max X Y) (s_r) rfl (by omega) (by omega) (same_tr (same_tr hs1 hbs) hrs) (TreeP_eq (ls := setR ls h t) (fun e he j hj => by have hz := (htk e (by omega) j hj); exact hz) (fun i hi => if_neg (by omega))) (blH_s hX hY)
  exact lpA _ (_) (0) (σ) rfl (Nat.le_refl _) (by omega) (same_rf _ _ _ _ _) (ht) (blH_0 (by omega) hpl)

set_option maxHeartbeats 400000 in
set_option maxRecDepth 10000 in
theorem c_bestRow_4 {g : Gp} {lau : Launch} {ad : Nat → Nat} {σ : Sg} {T : Tv} (hT : TOk T) (hR : RepC T σ) {b p n h l : Nat} {ls : Nat → Nat} (hn : n ≤ 4) (hk : h + 4 = n) (hb : b < 4) (hp : p ≤ 10) (hl : l < 6) (hpl : prevL ls h = l) (ha : adm T b ls h) (ht : TreeP T b ls h σ) (hc : ChP p n σ) : Con g lau yX2_bestRow cX2_bestRow 10 (Option.some .long) 8 215 [.ref (ad 70), .int (nI (b)), .int (nI (n)), .int (nI (h)), .int (nI (l))] ad σ (fun r a2 s2 => ∃ X, some (.long (lN X)) = r ∧ ad = a2 ∧ same [39] [] [] false σ s2 ∧ TreeP T b ls h s2 ∧ blH T b p n h ls (fun _ => True) X) := by
  refine con_mk (by decide) (Nat.le_of_ble_eq_true rfl) (fun x hxl K hr => ?_)
  subst hxl
  refine r_lv (lv' := [(0, .ref (ad 70)), (1, .int (nI (b))), (2, .int (nI (n))), (3, .int (nI (h))), (4, .int (nI (l)))]) rfl ?_
  refine r_iload_n K 3 rfl rfl dX2_bestRow_0 ?_
  refine r_iload_n K 2 rfl rfl dX2_bestRow_1 ?_
  refine n_icmp_ge K 10 (by omega) (by omega) dX2_bestRow_2 (by decide) (fun h2 => absurd h2 (by omega)) (fun h2 => ?_)
  refine r_iload_n K 3 rfl rfl dX2_bestRow_5 ?_
  refine r_iconst K ((nI (4))) (by decide) dX2_bestRow_6 ?_
  refine n_icmp_lt K 16 (by omega) (by omega) dX2_bestRow_7 (by decide) (fun h7 => ?_) (fun h7 => absurd h7 (by omega))
  refine r_lconst K (lN 0) rfl dX2_bestRow_16 ?_
  refine r_lstore K (lv' := [(5, .long (lN (0))), (0, .ref (ad 70)), (1, .int (nI (b))), (2, .int (nI (n))), (3, .int (nI (h))), (4, .int (nI (l)))]) (by decide) rfl dX2_bestRow_17 ?_
  refine r_aload_n K 0 rfl rfl dX2_bestRow_19 ?_
  refine get_70_0 K fl_RX2_34 dX2_bestRow_20 ?_
  refine r_iload_n K 1 rfl rfl dX2_bestRow_23 ?_
  refine r_callVp K 62 (As := [.int (nI (b))]) mv_X4_cordOf ml_RX2_66 (c_cordOf hT hR (b := b) (by omega)) (by decide) rfl rfl rfl rfl (Nat.le_of_ble_eq_true rfl) ⟨by decide, by decide⟩ dX2_bestRow_24 ?_
  have hcd := cordS_le hT b
  refine r_istore K (lv' := [(7, .int (nI (cordS T b))), (5, .long (lN (0))), (0, .ref (ad 70)), (1, .int (nI (b))), (2, .int (nI (n))), (3, .int (nI (h))), (4, .int (nI (l)))]) (by decide) rfl dX2_bestRow_27 ?_
  refine r_iconst K ((nI (5))) (by decide) dX2_bestRow_29 ?_
  refine r_iload K rfl dX2_bestRow_30 ?_
  refine r_iload K rfl dX2_bestRow_32 ?_
  refine r_iadd K dX2_bestRow_34 ?_
  refine r_topi (nI_add _ _) ?_
  refine r_mmin K ml_RX2_44 (by decide) (Nat.le_of_ble_eq_true rfl) dX2_bestRow_35 ?_
  refine r_topi (b := (nI (min 5 (l + (cordS T b))))) (nI_min (by omega) (by omega)) ?_
  refine r_istore K (lv' := [(8, .int (nI (min 5 (l + (cordS T b))))), (7, .int (nI (cordS T b))), (5, .long (lN (0))), (0, .ref (ad 70)), (1, .int (nI (b))), (2, .int (nI (n))), (3, .int (nI (h))), (4, .int (nI (l)))]) (by decide) rfl dX2_bestRow_38 ?_
  refine r_iconst K ((nI (0))) (by decide) dX2_bestRow_40 ?_
  refine r_iload K rfl dX2_bestRow_41 ?_
  refine r_iload K rfl dX2_bestRow_43 ?_
  refine r_isub K dX2_bestRow_45 ?_
  refine r_mmax K ml_RX2_70 (by decide) (Nat.le_of_ble_eq_true rfl) dX2_bestRow_46 ?_
  refine r_topi (b := (nI (l - cordS T b))) (max_sub (by omega) (by omega)) ?_
  refine r_istore K (lv' := [(9, .int (nI (l - cordS T b))), (8, .int (nI (min 5 (l + (cordS T b))))), (7, .int (nI (cordS T b))), (5, .long (lN (0))), (0, .ref (ad 70)), (1, .int (nI (b))), (2, .int (nI (n))), (3, .int (nI (h))), (4, .int (nI (l)))]) (by decide) rfl dX2_bestRow_49 ?_
  refine r_pick [4, 5, 6, 7, 8, 3, 2, 1, 0] (lv' := [(0, .ref (ad 70)), (1, .int (nI (b))), (2, .int (nI (n))), (3, .int (nI (h))), (4, .int (nI (l))), (5, .long (lN (0))), (7, .int (nI (cordS T b))), (8, .int (nI (min 5 (l + (cordS T b))))), (9, .int (nI (l - cordS T b)))]) rfl ?_
  have lpA : ∀ (mm_ : Nat) (t : Nat) (X : Nat) (s1 : Sg), mm_ = min 5 (l + cordS T b) + 1 - t → (l - cordS T b ≤ t) → (t ≤ min 5 (l + cordS T b) + 1) → (same [39] [] [] false σ s1) → (TreeP T b ls h s1) → (blH T b p n h ls (fun ls' => ls' h < t) X) → GJ g x 10 51 [(0, .ref (ad 70)), (1, .int (nI (b))), (2, .int (nI (n))), (3, .int (nI (h))), (4, .int (nI (l))), (5, .long (lN (X))), (7, .int (nI (cordS T b))), (8, .int (nI (min 5 (l + cordS T b)))), (9, .int (nI (t)))] [] ad (s1) := by
    intro mm_
    induction mm_ using Nat.strongRecOn with
    | _ mm_ ihA =>
      intro t X s1 hmA ht1 ht2 hs1 htr hX
      refine r_iload K rfl dX2_bestRow_51 ?_
      refine r_iload K rfl dX2_bestRow_53 ?_
      refine n_icmp_gt K 90 (by omega) (by omega) dX2_bestRow_55 (by decide) (fun h55 => ?_) (fun h55 => ?_)
      · refine r_lload K rfl dX2_bestRow_90 ?_
        exact r_lret K hr (⟨X, rfl, rfl, hs1, htr, blH_all (by omega) hpl (by omega) hX⟩) dX2_bestRow_92
      · refine r_aload_n K 0 rfl rfl dX2_bestRow_58 ?_
        refine r_iload_n K 1 rfl rfl dX2_bestRow_59 ?_
        refine r_iload_n K 3 rfl rfl dX2_bestRow_60 ?_
        refine r_iload K rfl dX2_bestRow_61 ?_
        refine r_callV K 70 (As := [.int (nI (b)), .int (nI (h)), .int (nI (t))]) (rest := []) mv_X2_branch ml_RX2_73 (c_branch hT (hR.same hs1 (by intro k hk; simp; omega) (by simp)) (b := b) (h := h) (l := t) (ls := setR ls h t) hb (by omega) (by omega) (if_pos rfl) (TreeP_eq htr (fun i hi => (if_neg (by omega)).symm))) (by decide) rfl rfl rfl rfl (Nat.le_of_ble_eq_true rfl) ⟨by decide, by decide⟩ dX2_bestRow_63 (fun r_b ad_b s_b h_b => ?_)
        obtain ⟨rfl, rfl, hbs, hbt⟩ := h_b
        refine r_st (st' := []) rfl ?_
        refine r_lload K rfl dX2_bestRow_66 ?_
        refine r_aload_n K 0 rfl rfl dX2_bestRow_68 ?_
        refine r_iload_n K 1 rfl rfl dX2_bestRow_69 ?_
        refine r_iload_n K 2 rfl rfl dX2_bestRow_70 ?_
        refine r_iload_n K 3 rfl rfl dX2_bestRow_71 ?_
        refine r_iconst K ((nI (1))) (by decide) dX2_bestRow_72 ?_
        refine r_iadd K dX2_bestRow_73 ?_
        refine r_topi (nI_add _ _) ?_
        refine r_iload K rfl dX2_bestRow_74 ?_
        have hof : offS l t ≤ cordS T b := by unfold offS; split <;> omega
        refine r_callV K 70 (As := [.int (nI (b)), .int (nI (n)), .int (nI (h + 1)), .int (nI (t))]) (rest := [.long (lN (X))]) mv_X2_bestRow ml_RX2_58 (c_bestRow_3 hT (hR.same (same_tr hs1 hbs) (by intro k hk; simp; omega) (by simp)) (b := b) (p := p) (n := n) (h := h + 1) (l := t) (ls := setR ls h t) hn (by omega) hb hp (by omega) (by unfold prevL; rw [if_neg (by omega)]; exact if_pos rfl) (adm_set ha (by omega) (by rw [hpl]; exact hof)) hbt (fun e he j hj => by rw [hbs.2.2.1 40 (by simp), hs1.2.2.1 40 (by simp)]; exact hc e he j hj)) (by decide) rfl rfl rfl rfl (Nat.le_of_ble_eq_true rfl) ⟨by decide, by decide⟩ dX2_bestRow_76 (fun r_r ad_r s_r h_r => ?_)
        obtain ⟨Y, rfl, rfl, hrs, htk, hY⟩ := h_r
        refine r_st (st' := [.long (lN Y), .long (lN X)]) rfl ?_
        have hYl := Nat.le_trans (blH_le hp hY) (pow8 (show n ≤ 8 by omega))
        have hXl := Nat.le_trans (blH_le hp hX) (pow8 (show n ≤ 8 by omega))
        refine r_mmax_long K ml_RX2_77 (by decide) (Nat.le_of_ble_eq_true rfl) dX2_bestRow_79 ?_
        refine r_topl (b := (lN (max X Y))) (lN_max (by omega) (by omega)) ?_
        refine r_lstore K (lv' := [(5, .long (lN (max X Y))), (0, .ref (ad 70)), (1, .int (nI (b))), (2, .int (nI (n))), (3, .int (nI (h))), (4, .int (nI (l))), (7, .int (nI (cordS T b))), (8, .int (nI (min 5 (l + cordS T b)))), (9, .int (nI (t)))]) (by decide) rfl dX2_bestRow_82 ?_
        refine r_iinc K ((nI (t + 1))) rfl (nI_1 _) (lv' := [(9, .int (nI (t + 1))), (5, .long (lN (max X Y))), (0, .ref (ad 70)), (1, .int (nI (b))), (2, .int (nI (n))), (3, .int (nI (h))), (4, .int (nI (l))), (7, .int (nI (cordS T b))), (8, .int (nI (min 5 (l + cordS T b))))]) (by decide) rfl dX2_bestRow_84 ?_
        refine r_goto K 51 dX2_bestRow_87 (by decide) ?_
        refine r_pick [2, 3, 4, 5, 6, 1, 7, 8, 0] (lv' := [(0, .ref (ad 70)), (1, .int (nI (b))), (2, .int (nI (n))), (3, .int (nI (h))), (4, .int (nI (l))), (5, .long (lN (max X Y))), (7, .int (nI (cordS T b))), (8, .int (nI (min 5 (l + cordS T b)))), (9, .int (nI (t + 1)))]) rfl ?_
        exact ihA _ (by omega) (t + 1) (max X Y) (s_r) rfl (by omega) (by omega) (same_tr (same_tr hs1 hbs) hrs) (TreeP_eq (ls := setR ls h t) (fun e he j hj => by have hz := (htk e (by omega) j hj); exact hz) (fun i hi => if_neg (by omega))) (blH_s hX hY)
  exact lpA _ (_) (0) (σ) rfl (Nat.le_refl _) (by omega) (same_rf _ _ _ _ _) (ht) (blH_0 (by omega) hpl)

set_option maxHeartbeats 400000 in
set_option maxRecDepth 10000 in
theorem c_bestBlind_0 {g : Gp} {lau : Launch} {ad : Nat → Nat} {σ : Sg} {T : Tv} (hT : TOk T) (hR : RepC T σ) {b p : Nat} (hb : b < 4) (hp : p ≤ 10) : Con g lau yX2_bestBlind cX2_bestBlind 4 (Option.some .long) 9 244 [.ref (ad 70), .int (nI (b)), .int (nI (0)), .int (nI (p))] ad σ (fun r a2 s2 => some (.long (lN (blV T b p 0))) = r ∧ ad = a2 ∧ same [39] [] [40] false σ s2 ∧ blS T b p 0 (blV T b p 0)) := by
  refine con_mk (by decide) (Nat.le_of_ble_eq_true rfl) (fun x hxl K hr => ?_)
  subst hxl
  refine r_lv (lv' := [(0, .ref (ad 70)), (1, .int (nI (b))), (2, .int (nI (0))), (3, .int (nI (p)))]) rfl ?_
  refine r_aload_n K 0 rfl rfl dX2_bestBlind_0 ?_
  refine r_iload_n K 2 rfl rfl dX2_bestBlind_1 ?_
  refine r_iload_n K 3 rfl rfl dX2_bestBlind_2 ?_
  refine r_callV K 70 (As := [.int (nI (0)), .int (nI (p))]) (rest := []) mv_X2_start ml_RX2_54 (c_start hT hR (n := 0) (p := p) (by omega) hp) (by decide) rfl rfl rfl rfl (Nat.le_of_ble_eq_true rfl) ⟨by decide, by decide⟩ dX2_bestBlind_3 (fun r_s ad_s s_s h_s => ?_)
  obtain ⟨rfl, rfl, hss, hsa, hsc⟩ := h_s
  refine r_st (st' := []) rfl ?_
  refine r_aload_n K 0 rfl rfl dX2_bestBlind_6 ?_
  refine r_iload_n K 1 rfl rfl dX2_bestBlind_7 ?_
  refine r_iload_n K 2 rfl rfl dX2_bestBlind_8 ?_
  refine r_iconst K ((nI (0))) (by decide) dX2_bestBlind_9 ?_
  refine r_iconst K ((nI (0))) (by decide) dX2_bestBlind_10 ?_
  refine r_callV K 70 (As := [.int (nI (b)), .int (nI (0)), .int (nI (0)), .int (nI (0))]) (rest := []) mv_X2_bestRow ml_RX2_58 (c_bestRow_0 hT (hR.same hss (by intro k hk; simp; omega) (by simp)) (b := b) (p := p) (n := 0) (h := 0) (l := 0) (ls := fun _ => 0) (by omega) (by omega) hb hp (by omega) rfl (fun i hi => absurd hi (Nat.not_lt_zero i)) (fun e he j hj => by have he0 : e = 0 := (by omega); subst he0; have hj0 : j = 0 := (by rw [Nat.pow_zero] at hj; omega); subst hj0; exact hsa) hsc) (by decide) rfl rfl rfl rfl (Nat.le_of_ble_eq_true rfl) ⟨by decide, by decide⟩ dX2_bestBlind_11 (fun r_r ad_r s_r h_r => ?_)
  obtain ⟨Y, rfl, rfl, hrs, htk, hY⟩ := h_r
  refine r_st (st' := [.long (lN Y)]) rfl ?_
  exact r_lret K hr (⟨by rw [blV_is (blH_bl hY)], rfl, same_tr hss (same_w hrs (by simp) (by simp) (by simp) id), by rw [blV_is (blH_bl hY)]; exact blH_bl hY⟩) dX2_bestBlind_14

set_option maxHeartbeats 400000 in
set_option maxRecDepth 10000 in
theorem c_bestBlind_1 {g : Gp} {lau : Launch} {ad : Nat → Nat} {σ : Sg} {T : Tv} (hT : TOk T) (hR : RepC T σ) {b p : Nat} (hb : b < 4) (hp : p ≤ 10) : Con g lau yX2_bestBlind cX2_bestBlind 4 (Option.some .long) 9 244 [.ref (ad 70), .int (nI (b)), .int (nI (1)), .int (nI (p))] ad σ (fun r a2 s2 => some (.long (lN (blV T b p 1))) = r ∧ ad = a2 ∧ same [39] [] [40] false σ s2 ∧ blS T b p 1 (blV T b p 1)) := by
  refine con_mk (by decide) (Nat.le_of_ble_eq_true rfl) (fun x hxl K hr => ?_)
  subst hxl
  refine r_lv (lv' := [(0, .ref (ad 70)), (1, .int (nI (b))), (2, .int (nI (1))), (3, .int (nI (p)))]) rfl ?_
  refine r_aload_n K 0 rfl rfl dX2_bestBlind_0 ?_
  refine r_iload_n K 2 rfl rfl dX2_bestBlind_1 ?_
  refine r_iload_n K 3 rfl rfl dX2_bestBlind_2 ?_
  refine r_callV K 70 (As := [.int (nI (1)), .int (nI (p))]) (rest := []) mv_X2_start ml_RX2_54 (c_start hT hR (n := 1) (p := p) (by omega) hp) (by decide) rfl rfl rfl rfl (Nat.le_of_ble_eq_true rfl) ⟨by decide, by decide⟩ dX2_bestBlind_3 (fun r_s ad_s s_s h_s => ?_)
  obtain ⟨rfl, rfl, hss, hsa, hsc⟩ := h_s
  refine r_st (st' := []) rfl ?_
  refine r_aload_n K 0 rfl rfl dX2_bestBlind_6 ?_
  refine r_iload_n K 1 rfl rfl dX2_bestBlind_7 ?_
  refine r_iload_n K 2 rfl rfl dX2_bestBlind_8 ?_
  refine r_iconst K ((nI (0))) (by decide) dX2_bestBlind_9 ?_
  refine r_iconst K ((nI (0))) (by decide) dX2_bestBlind_10 ?_
  refine r_callV K 70 (As := [.int (nI (b)), .int (nI (1)), .int (nI (0)), .int (nI (0))]) (rest := []) mv_X2_bestRow ml_RX2_58 (c_bestRow_1 hT (hR.same hss (by intro k hk; simp; omega) (by simp)) (b := b) (p := p) (n := 1) (h := 0) (l := 0) (ls := fun _ => 0) (by omega) (by omega) hb hp (by omega) rfl (fun i hi => absurd hi (Nat.not_lt_zero i)) (fun e he j hj => by have he0 : e = 0 := (by omega); subst he0; have hj0 : j = 0 := (by rw [Nat.pow_zero] at hj; omega); subst hj0; exact hsa) hsc) (by decide) rfl rfl rfl rfl (Nat.le_of_ble_eq_true rfl) ⟨by decide, by decide⟩ dX2_bestBlind_11 (fun r_r ad_r s_r h_r => ?_)
  obtain ⟨Y, rfl, rfl, hrs, htk, hY⟩ := h_r
  refine r_st (st' := [.long (lN Y)]) rfl ?_
  exact r_lret K hr (⟨by rw [blV_is (blH_bl hY)], rfl, same_tr hss (same_w hrs (by simp) (by simp) (by simp) id), by rw [blV_is (blH_bl hY)]; exact blH_bl hY⟩) dX2_bestBlind_14

set_option maxHeartbeats 400000 in
set_option maxRecDepth 10000 in
theorem c_bestBlind_2 {g : Gp} {lau : Launch} {ad : Nat → Nat} {σ : Sg} {T : Tv} (hT : TOk T) (hR : RepC T σ) {b p : Nat} (hb : b < 4) (hp : p ≤ 10) : Con g lau yX2_bestBlind cX2_bestBlind 4 (Option.some .long) 9 244 [.ref (ad 70), .int (nI (b)), .int (nI (2)), .int (nI (p))] ad σ (fun r a2 s2 => some (.long (lN (blV T b p 2))) = r ∧ ad = a2 ∧ same [39] [] [40] false σ s2 ∧ blS T b p 2 (blV T b p 2)) := by
  refine con_mk (by decide) (Nat.le_of_ble_eq_true rfl) (fun x hxl K hr => ?_)
  subst hxl
  refine r_lv (lv' := [(0, .ref (ad 70)), (1, .int (nI (b))), (2, .int (nI (2))), (3, .int (nI (p)))]) rfl ?_
  refine r_aload_n K 0 rfl rfl dX2_bestBlind_0 ?_
  refine r_iload_n K 2 rfl rfl dX2_bestBlind_1 ?_
  refine r_iload_n K 3 rfl rfl dX2_bestBlind_2 ?_
  refine r_callV K 70 (As := [.int (nI (2)), .int (nI (p))]) (rest := []) mv_X2_start ml_RX2_54 (c_start hT hR (n := 2) (p := p) (by omega) hp) (by decide) rfl rfl rfl rfl (Nat.le_of_ble_eq_true rfl) ⟨by decide, by decide⟩ dX2_bestBlind_3 (fun r_s ad_s s_s h_s => ?_)
  obtain ⟨rfl, rfl, hss, hsa, hsc⟩ := h_s
  refine r_st (st' := []) rfl ?_
  refine r_aload_n K 0 rfl rfl dX2_bestBlind_6 ?_
  refine r_iload_n K 1 rfl rfl dX2_bestBlind_7 ?_
  refine r_iload_n K 2 rfl rfl dX2_bestBlind_8 ?_
  refine r_iconst K ((nI (0))) (by decide) dX2_bestBlind_9 ?_
  refine r_iconst K ((nI (0))) (by decide) dX2_bestBlind_10 ?_
  refine r_callV K 70 (As := [.int (nI (b)), .int (nI (2)), .int (nI (0)), .int (nI (0))]) (rest := []) mv_X2_bestRow ml_RX2_58 (c_bestRow_2 hT (hR.same hss (by intro k hk; simp; omega) (by simp)) (b := b) (p := p) (n := 2) (h := 0) (l := 0) (ls := fun _ => 0) (by omega) (by omega) hb hp (by omega) rfl (fun i hi => absurd hi (Nat.not_lt_zero i)) (fun e he j hj => by have he0 : e = 0 := (by omega); subst he0; have hj0 : j = 0 := (by rw [Nat.pow_zero] at hj; omega); subst hj0; exact hsa) hsc) (by decide) rfl rfl rfl rfl (Nat.le_of_ble_eq_true rfl) ⟨by decide, by decide⟩ dX2_bestBlind_11 (fun r_r ad_r s_r h_r => ?_)
  obtain ⟨Y, rfl, rfl, hrs, htk, hY⟩ := h_r
  refine r_st (st' := [.long (lN Y)]) rfl ?_
  exact r_lret K hr (⟨by rw [blV_is (blH_bl hY)], rfl, same_tr hss (same_w hrs (by simp) (by simp) (by simp) id), by rw [blV_is (blH_bl hY)]; exact blH_bl hY⟩) dX2_bestBlind_14

set_option maxHeartbeats 400000 in
set_option maxRecDepth 10000 in
theorem c_bestBlind_3 {g : Gp} {lau : Launch} {ad : Nat → Nat} {σ : Sg} {T : Tv} (hT : TOk T) (hR : RepC T σ) {b p : Nat} (hb : b < 4) (hp : p ≤ 10) : Con g lau yX2_bestBlind cX2_bestBlind 4 (Option.some .long) 9 244 [.ref (ad 70), .int (nI (b)), .int (nI (3)), .int (nI (p))] ad σ (fun r a2 s2 => some (.long (lN (blV T b p 3))) = r ∧ ad = a2 ∧ same [39] [] [40] false σ s2 ∧ blS T b p 3 (blV T b p 3)) := by
  refine con_mk (by decide) (Nat.le_of_ble_eq_true rfl) (fun x hxl K hr => ?_)
  subst hxl
  refine r_lv (lv' := [(0, .ref (ad 70)), (1, .int (nI (b))), (2, .int (nI (3))), (3, .int (nI (p)))]) rfl ?_
  refine r_aload_n K 0 rfl rfl dX2_bestBlind_0 ?_
  refine r_iload_n K 2 rfl rfl dX2_bestBlind_1 ?_
  refine r_iload_n K 3 rfl rfl dX2_bestBlind_2 ?_
  refine r_callV K 70 (As := [.int (nI (3)), .int (nI (p))]) (rest := []) mv_X2_start ml_RX2_54 (c_start hT hR (n := 3) (p := p) (by omega) hp) (by decide) rfl rfl rfl rfl (Nat.le_of_ble_eq_true rfl) ⟨by decide, by decide⟩ dX2_bestBlind_3 (fun r_s ad_s s_s h_s => ?_)
  obtain ⟨rfl, rfl, hss, hsa, hsc⟩ := h_s
  refine r_st (st' := []) rfl ?_
  refine r_aload_n K 0 rfl rfl dX2_bestBlind_6 ?_
  refine r_iload_n K 1 rfl rfl dX2_bestBlind_7 ?_
  refine r_iload_n K 2 rfl rfl dX2_bestBlind_8 ?_
  refine r_iconst K ((nI (0))) (by decide) dX2_bestBlind_9 ?_
  refine r_iconst K ((nI (0))) (by decide) dX2_bestBlind_10 ?_
  refine r_callV K 70 (As := [.int (nI (b)), .int (nI (3)), .int (nI (0)), .int (nI (0))]) (rest := []) mv_X2_bestRow ml_RX2_58 (c_bestRow_3 hT (hR.same hss (by intro k hk; simp; omega) (by simp)) (b := b) (p := p) (n := 3) (h := 0) (l := 0) (ls := fun _ => 0) (by omega) (by omega) hb hp (by omega) rfl (fun i hi => absurd hi (Nat.not_lt_zero i)) (fun e he j hj => by have he0 : e = 0 := (by omega); subst he0; have hj0 : j = 0 := (by rw [Nat.pow_zero] at hj; omega); subst hj0; exact hsa) hsc) (by decide) rfl rfl rfl rfl (Nat.le_of_ble_eq_true rfl) ⟨by decide, by decide⟩ dX2_bestBlind_11 (fun r_r ad_r s_r h_r => ?_)
  obtain ⟨Y, rfl, rfl, hrs, htk, hY⟩ := h_r
  refine r_st (st' := [.long (lN Y)]) rfl ?_
  exact r_lret K hr (⟨by rw [blV_is (blH_bl hY)], rfl, same_tr hss (same_w hrs (by simp) (by simp) (by simp) id), by rw [blV_is (blH_bl hY)]; exact blH_bl hY⟩) dX2_bestBlind_14

set_option maxHeartbeats 400000 in
set_option maxRecDepth 10000 in
theorem c_bestBlind_4 {g : Gp} {lau : Launch} {ad : Nat → Nat} {σ : Sg} {T : Tv} (hT : TOk T) (hR : RepC T σ) {b p : Nat} (hb : b < 4) (hp : p ≤ 10) : Con g lau yX2_bestBlind cX2_bestBlind 4 (Option.some .long) 9 244 [.ref (ad 70), .int (nI (b)), .int (nI (4)), .int (nI (p))] ad σ (fun r a2 s2 => some (.long (lN (blV T b p 4))) = r ∧ ad = a2 ∧ same [39] [] [40] false σ s2 ∧ blS T b p 4 (blV T b p 4)) := by
  refine con_mk (by decide) (Nat.le_of_ble_eq_true rfl) (fun x hxl K hr => ?_)
  subst hxl
  refine r_lv (lv' := [(0, .ref (ad 70)), (1, .int (nI (b))), (2, .int (nI (4))), (3, .int (nI (p)))]) rfl ?_
  refine r_aload_n K 0 rfl rfl dX2_bestBlind_0 ?_
  refine r_iload_n K 2 rfl rfl dX2_bestBlind_1 ?_
  refine r_iload_n K 3 rfl rfl dX2_bestBlind_2 ?_
  refine r_callV K 70 (As := [.int (nI (4)), .int (nI (p))]) (rest := []) mv_X2_start ml_RX2_54 (c_start hT hR (n := 4) (p := p) (by omega) hp) (by decide) rfl rfl rfl rfl (Nat.le_of_ble_eq_true rfl) ⟨by decide, by decide⟩ dX2_bestBlind_3 (fun r_s ad_s s_s h_s => ?_)
  obtain ⟨rfl, rfl, hss, hsa, hsc⟩ := h_s
  refine r_st (st' := []) rfl ?_
  refine r_aload_n K 0 rfl rfl dX2_bestBlind_6 ?_
  refine r_iload_n K 1 rfl rfl dX2_bestBlind_7 ?_
  refine r_iload_n K 2 rfl rfl dX2_bestBlind_8 ?_
  refine r_iconst K ((nI (0))) (by decide) dX2_bestBlind_9 ?_
  refine r_iconst K ((nI (0))) (by decide) dX2_bestBlind_10 ?_
  refine r_callV K 70 (As := [.int (nI (b)), .int (nI (4)), .int (nI (0)), .int (nI (0))]) (rest := []) mv_X2_bestRow ml_RX2_58 (c_bestRow_4 hT (hR.same hss (by intro k hk; simp; omega) (by simp)) (b := b) (p := p) (n := 4) (h := 0) (l := 0) (ls := fun _ => 0) (by omega) (by omega) hb hp (by omega) rfl (fun i hi => absurd hi (Nat.not_lt_zero i)) (fun e he j hj => by have he0 : e = 0 := (by omega); subst he0; have hj0 : j = 0 := (by rw [Nat.pow_zero] at hj; omega); subst hj0; exact hsa) hsc) (by decide) rfl rfl rfl rfl (Nat.le_of_ble_eq_true rfl) ⟨by decide, by decide⟩ dX2_bestBlind_11 (fun r_r ad_r s_r h_r => ?_)
  obtain ⟨Y, rfl, rfl, hrs, htk, hY⟩ := h_r
  refine r_st (st' := [.long (lN Y)]) rfl ?_
  exact r_lret K hr (⟨by rw [blV_is (blH_bl hY)], rfl, same_tr hss (same_w hrs (by simp) (by simp) (by simp) id), by rw [blV_is (blH_bl hY)]; exact blH_bl hY⟩) dX2_bestBlind_14

theorem c_bestBlind {g : Gp} {lau : Launch} {ad : Nat → Nat} {σ : Sg} {T : Tv} (hT : TOk T) (hR : RepC T σ) {b n p : Nat} (hb : b < 4) (hn : n ≤ 4) (hp : p ≤ 10) : Con g lau yX2_bestBlind cX2_bestBlind 4 (Option.some .long) 9 244 [.ref (ad 70), .int (nI b), .int (nI n), .int (nI p)] ad σ (fun r a2 s2 => some (.long (lN (blV T b p n))) = r ∧ ad = a2 ∧ same [39] [] [40] false σ s2 ∧ blS T b p n (blV T b p n)) := by
  rcases (show n = 0 ∨ n = 1 ∨ n = 2 ∨ n = 3 ∨ n = 4 by omega) with rfl | rfl | rfl | rfl | rfl
  · exact c_bestBlind_0 hT hR hb hp
  · exact c_bestBlind_1 hT hR hb hp
  · exact c_bestBlind_2 hT hR hb hp
  · exact c_bestBlind_3 hT hR hb hp
  · exact c_bestBlind_4 hT hR hb hp
