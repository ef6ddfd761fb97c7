def TreeP (T : Tv) (b : Nat) (ls : Nat → Nat) (d : Nat) (σ : Sg) : Prop := ∀ e, e ≤ d → ∀ j, j < 2 ^ e → σ.A 39 (2 ^ e + j) = nI (plD T b ls e j)
def ChP (p n : Nat) (σ : Sg) : Prop := ∀ e, e ≤ n → ∀ j, j < 2 ^ e → σ.J 40 (2 ^ e + j) = lN (chD p e j)
theorem TreeP_eq {T : Tv} {b : Nat} {ls ls' : Nat → Nat} {d : Nat} {σ : Sg} (h : TreeP T b ls d σ) (he : ∀ i, i < d → ls i = ls' i) : TreeP T b ls' d σ := fun e hd j hj => by
  rw [h e hd j hj, plD_eq e j (fun i hi => he i (by omega))]
theorem nI_nn {n : Nat} (h : n < 2 ^ 31) : ¬ nI n < 0 := fun z => by
  have := neg_toInt z
  rw [nI_toInt h] at this
  omega
theorem shl_two : ∀ h, h < 9 → nI 2 <<< (nI h &&& 31) = nI (2 * 2 ^ h) := by decide +kernel
theorem pow_le9 {n : Nat} (h : n ≤ 8) : 2 ^ n ≤ 256 := by
  have : (2 : Nat) ^ n ≤ 2 ^ 8 := Nat.pow_le_pow_right (by decide) h
  omega
theorem two_s (n : Nat) : 2 ^ (n + 1) = 2 * 2 ^ n := by rw [Nat.pow_succ, Nat.mul_comm]
theorem two_p (n : Nat) : 1 ≤ 2 ^ n := Nat.pow_pos (by decide)
theorem ch_next {p n i : Nat} {s : Sg} (hi : 1 ≤ i) (hn : i < 2 ^ n) (h : ∀ e, e ≤ n → ∀ j, j < 2 ^ e → 2 ^ e + j < 2 * i → s.J 40 (2 ^ e + j) = lN (chD p e j)) : ∀ e, e ≤ n → ∀ j, j < 2 ^ e → 2 ^ e + j < 2 * (i + 1) → vp_updL (vp_updL (s.J 40) (2 * i) (s.J 40 i * lN p)) (2 * i + 1) (s.J 40 i * lN (10 - p)) (2 ^ e + j) = lN (chD p e j) := by
  intro e he j hj hlt
  unfold vp_updL
  by_cases h0 : 2 ^ e + j < 2 * i
  · rw [if_neg (by omega), if_neg (by omega)]
    exact h e he j hj h0
  · cases e with
    | zero => rw [Nat.pow_zero] at hj h0; omega
    | succ e =>
      have e2 := two_s e
      have hv := h e (by omega) (j / 2) (by omega) (by omega)
      have hi2 : 2 ^ e + j / 2 = i := by omega
      rw [hi2] at hv
      rw [chD]
      by_cases q : j % 2 = 0
      · rw [if_neg (by omega), if_pos (by omega), if_pos q, hv, lN_mul]
      · rw [if_pos (by omega), if_neg q, hv, lN_mul]
set_option maxHeartbeats 400000 in
set_option maxRecDepth 10000 in
theorem c_start {g : Gp} {lau : Launch} {ad : Nat → Nat} {σ : Sg} {T : Tv} (hT : TOk T) (hR : RepC T σ) {n p : Nat} (hn : n ≤ 8) (hp : p ≤ 10) : Con g lau yX2_start cX2_start 5 (Option.none : Option Jvm.ClassFile.FieldType) 1 24 [.ref (ad 70), .int (nI (n)), .int (nI (p))] ad σ (fun r a2 s2 => none = r ∧ ad = a2 ∧ same [39] [] [40] false σ s2 ∧ s2.A 39 1 = nI (startS T) ∧ ChP p n s2) := by
  refine con_mk (by decide) (Nat.le_of_ble_eq_true rfl) (fun x hxl K hr => ?_)
  subst hxl
  refine r_lv (lv' := [(0, .ref (ad 70)), (1, .int (nI (n))), (2, .int (nI (p)))]) rfl ?_
  have h256 := pow_le9 hn
  refine r_aload_n K 0 rfl rfl dX2_start_0 ?_
  refine get_70_1 K fl_RX2_11 dX2_start_1 ?_
  refine r_iconst K ((nI (1))) (by decide) dX2_start_4 ?_
  refine r_aload_n K 0 rfl rfl dX2_start_5 ?_
  refine get_70_0 K fl_RX2_34 dX2_start_6 ?_
  refine r_callVp K 62 (As := []) mv_X4_begin ml_RX2_38 (c_begin hT hR) (by decide) rfl rfl rfl rfl (Nat.le_of_ble_eq_true rfl) ⟨by decide, by decide⟩ dX2_start_9 ?_
  refine r_iast K 39 (n := 512) (by decide) rfl rfl (by decide) (by omega) dX2_start_12 ?_
  refine r_aload_n K 0 rfl rfl dX2_start_13 ?_
  refine get_70_2 K fl_RX2_15 dX2_start_14 ?_
  refine r_iconst K ((nI (1))) (by decide) dX2_start_17 ?_
  refine r_lconst K (lN 1) rfl dX2_start_18 ?_
  refine r_last K 40 (n := 512) (by decide) rfl rfl (by decide) (by omega) dX2_start_19 ?_
  refine r_w (σ2 := ((σ).sA 39 (upd ((σ).A 39) (1) ((nI (startS T))))).sJ 40 (vp_updL ((σ).J 40) (1) ((lN (1))))) rfl ?_
  refine r_iconst K ((nI (1))) (by decide) dX2_start_20 ?_
  refine r_iload_n K 1 rfl rfl dX2_start_21 ?_
  refine r_bipush K ((nI (8))) (by decide) dX2_start_22 ?_
  refine r_mmin K ml_RX2_44 (by decide) (Nat.le_of_ble_eq_true rfl) dX2_start_24 ?_
  refine r_topi (b := (nI (min n 8))) (nI_min (by omega) (by omega)) ?_
  refine r_ishl K dX2_start_27 ?_
  refine r_topi (b := (nI (2 ^ n))) ((nI_shl1 (by omega)).trans (by rw [Nat.min_eq_left hn])) ?_
  refine r_istore_n K (lv' := [(3, .int (nI (2 ^ n))), (0, .ref (ad 70)), (1, .int (nI (n))), (2, .int (nI (p)))]) 3 rfl (by decide) rfl dX2_start_28 ?_
  refine r_iconst K ((nI (1))) (by decide) dX2_start_29 ?_
  refine r_istore K (lv' := [(4, .int (nI (1))), (3, .int (nI (2 ^ n))), (0, .ref (ad 70)), (1, .int (nI (n))), (2, .int (nI (p)))]) (by decide) rfl dX2_start_30 ?_
  refine r_pick [2, 3, 4, 1, 0] (lv' := [(0, .ref (ad 70)), (1, .int (nI (n))), (2, .int (nI (p))), (3, .int (nI (2 ^ n))), (4, .int (nI (1)))]) rfl ?_
  have lpA : ∀ (mm_ : Nat) (i : Nat) (s1 : Sg), mm_ = 2 ^ n - i → (1 ≤ i) → (i ≤ 2 ^ n) → (same [39] [] [40] false σ s1) → (s1.A 39 1 = nI (startS T)) → (∀ e, e ≤ n → ∀ j, j < 2 ^ e → 2 ^ e + j < 2 * i → s1.J 40 (2 ^ e + j) = lN (chD p e j)) → GJ g x 5 32 [(0, .ref (ad 70)), (1, .int (nI (n))), (2, .int (nI (p))), (3, .int (nI (2 ^ n))), (4, .int (nI (i)))] [] ad (s1) := by
    intro mm_
    induction mm_ using Nat.strongRecOn with
    | _ mm_ ihA =>
      intro i s1 hmA hi hi2 hs1 hst hch
      refine r_iload K rfl dX2_start_32 ?_
      refine r_iload_n K 3 rfl rfl dX2_start_34 ?_
      refine n_icmp_ge K 87 (by omega) (by omega) dX2_start_35 (by decide) (fun h35 => ?_) (fun h35 => ?_)
      · exact r_vret K hr (⟨rfl, rfl, hs1, hst, fun e he j hj => hch e he j hj (by have := two_s e; have : 2 ^ (e + 1) ≤ 2 ^ (n + 1) := Nat.pow_le_pow_right (by decide) (by omega); have := two_s n; omega)⟩) dX2_start_87
      · refine r_aload_n K 0 rfl rfl dX2_start_38 ?_
        refine get_70_2 K fl_RX2_15 dX2_start_39 ?_
        refine r_iconst K ((nI (2))) (by decide) dX2_start_42 ?_
        refine r_iload K rfl dX2_start_43 ?_
        refine r_imul K dX2_start_45 ?_
        refine r_topi (pk_mul _ _) ?_
        refine r_aload_n K 0 rfl rfl dX2_start_46 ?_
        refine get_70_2 K fl_RX2_15 dX2_start_47 ?_
        refine r_iload K rfl dX2_start_50 ?_
        refine r_lald K 40 (n := 512) (by decide) rfl rfl (by decide) (by omega) dX2_start_52 ?_
        refine r_iload_n K 2 rfl rfl dX2_start_53 ?_
        refine r_i2l K dX2_start_54 ?_
        refine r_topl (nI_l (by omega)) ?_
        refine r_lmul K dX2_start_55 ?_
        refine r_last K 40 (n := 512) (by decide) rfl rfl (by decide) (by omega) dX2_start_56 ?_
        refine r_aload_n K 0 rfl rfl dX2_start_57 ?_
        refine get_70_2 K fl_RX2_15 dX2_start_58 ?_
        refine r_iconst K ((nI (2))) (by decide) dX2_start_61 ?_
        refine r_iload K rfl dX2_start_62 ?_
        refine r_imul K dX2_start_64 ?_
        refine r_topi (pk_mul _ _) ?_
        refine r_iconst K ((nI (1))) (by decide) dX2_start_65 ?_
        refine r_iadd K dX2_start_66 ?_
        refine r_topi (nI_add _ _) ?_
        refine r_aload_n K 0 rfl rfl dX2_start_67 ?_
        refine get_70_2 K fl_RX2_15 dX2_start_68 ?_
        refine r_iload K rfl dX2_start_71 ?_
        refine r_lald K 40 (n := 512) (by decide) rfl rfl (by decide) (by omega) dX2_start_73 ?_
        refine r_topl (b := (s1.J 40 (i))) (by rw [sJ_at]; unfold vp_updL; rw [if_neg (by omega)]) ?_
        refine r_bipush K ((nI (10))) (by decide) dX2_start_74 ?_
        refine r_iload_n K 2 rfl rfl dX2_start_76 ?_
        refine r_isub K dX2_start_77 ?_
        refine r_topi (b := (nI (10 - p))) (pk_sub (by omega)) ?_
        refine r_i2l K dX2_start_78 ?_
        refine r_topl (nI_l (by omega)) ?_
        refine r_lmul K dX2_start_79 ?_
        refine r_last K 40 (n := 512) (by decide) rfl rfl (by decide) (by omega) dX2_start_80 ?_
        refine r_iinc K ((nI (i + 1))) rfl (nI_1 _) (lv' := [(4, .int (nI (i + 1))), (0, .ref (ad 70)), (1, .int (nI (n))), (2, .int (nI (p))), (3, .int (nI (2 ^ n)))]) (by decide) rfl dX2_start_81 ?_
        refine r_goto K 32 dX2_start_84 (by decide) ?_
        refine r_pick [1, 2, 3, 4, 0] (lv' := [(0, .ref (ad 70)), (1, .int (nI (n))), (2, .int (nI (p))), (3, .int (nI (2 ^ n))), (4, .int (nI (i + 1)))]) rfl ?_
        exact ihA _ (by omega) (i + 1) (((s1).sJ 40 (vp_updL ((s1).J 40) (2 * i) (((s1.J 40 (i)) * (lN (p)))))).sJ 40 (vp_updL (((s1).sJ 40 (vp_updL ((s1).J 40) (2 * i) (((s1.J 40 (i)) * (lN (p)))))).J 40) ((2 * i) + 1) (((s1.J 40 (i)) * (lN (10 - p)))))) rfl (by omega) (by omega) (same_sJ (same_sJ hs1 (by simp) _) (by simp) _) (hst) (by rw [sJ_at, sJ_at]; exact ch_next hi (by omega) hch)
  exact lpA _ (1) (_) rfl (by omega) (two_p n) (same_sJ (same_sA (same_rf _ _ _ _ _) (by simp) _) (by simp) _) (by rw [sJ_A, sA_at]; unfold upd; rw [if_pos rfl]) (fun e he j hj hlt => by have := two_p e; rw [sJ_at]; unfold vp_updL; rw [if_pos (by omega)]; cases e with | zero => rfl | succ e => (have e2 := two_s e; have := two_p e; omega))

theorem br_next {T : Tv} {b : Nat} {ls : Nat → Nat} {h j l : Nat} {s : Sg} (hls : ls h = l) (hn : ∀ i, i < 2 * j → s.A 39 (2 ^ (h + 1) + i) = nI (plD T b ls (h + 1) i)) : ∀ i, i < 2 * (j + 1) → ((s.sA 39 (upd (s.A 39) (2 * (2 ^ h + j)) (nI (plD T b ls h j)))).sA 39 (upd ((s.sA 39 (upd (s.A 39) (2 * (2 ^ h + j)) (nI (plD T b ls h j)))).A 39) (2 * (2 ^ h + j) + 1) (nI (goS T b (plD T b ls h j) l h)))).A 39 (2 ^ (h + 1) + i) = nI (plD T b ls (h + 1) i) := by
  intro i hi
  have e2 := two_s h
  rw [sA_at, sA_at]
  unfold upd
  by_cases h0 : i < 2 * j
  · rw [if_neg (by omega), if_neg (by omega)]
    exact hn i h0
  · rw [plD]
    have hj : i / 2 = j := by omega
    rw [hj]
    by_cases q : i % 2 = 0
    · rw [if_neg (by omega), if_pos (by omega), if_pos q]
    · rw [if_pos (by omega), if_neg q, hls]
set_option maxHeartbeats 400000 in
set_option maxRecDepth 10000 in
theorem c_branch {g : Gp} {lau : Launch} {ad : Nat → Nat} {σ : Sg} {T : Tv} (hT : TOk T) (hR : RepC T σ) {b h l : Nat} {ls : Nat → Nat} (hb : b < 4) (hh : h < 8) (hl : l < 6) (hls : ls h = l) (ht : TreeP T b ls h σ) : Con g lau yX2_branch cX2_branch 5 (Option.none : Option Jvm.ClassFile.FieldType) 3 75 [.ref (ad 70), .int (nI (b)), .int (nI (h)), .int (nI (l))] ad σ (fun r a2 s2 => none = r ∧ ad = a2 ∧ same [39] [] [] false σ s2 ∧ TreeP T b ls (h + 1) s2) := by
  refine con_mk (by decide) (Nat.le_of_ble_eq_true rfl) (fun x hxl K hr => ?_)
  subst hxl
  refine r_lv (lv' := [(0, .ref (ad 70)), (1, .int (nI (b))), (2, .int (nI (h))), (3, .int (nI (l)))]) rfl ?_
  have h256 := pow_le9 (show h ≤ 8 by omega)
  have h128 : 2 ^ (h + 1) ≤ 256 := pow_le9 (by omega)
  have e2s := two_s h
  have e2p := two_p h
  refine r_iload_n K 2 rfl rfl dX2_branch_0 ?_
  refine r_if_lt K 10 dX2_branch_1 (by decide) (fun h1 => absurd h1 (nI_nn (by omega))) (fun h1 => ?_)
  refine r_iload_n K 2 rfl rfl dX2_branch_4 ?_
  refine r_bipush K ((nI (8))) (by decide) dX2_branch_5 ?_
  refine n_icmp_lt K 11 (by omega) (by omega) dX2_branch_7 (by decide) (fun h7 => ?_) (fun h7 => absurd h7 (by omega))
  refine r_iconst K ((nI (1))) (by decide) dX2_branch_11 ?_
  refine r_iload_n K 2 rfl rfl dX2_branch_12 ?_
  refine r_ishl K dX2_branch_13 ?_
  refine r_topi (b := (nI (2 ^ h))) (nI_shl1 (by omega)) ?_
  refine r_istore K (lv' := [(4, .int (nI (2 ^ h))), (0, .ref (ad 70)), (1, .int (nI (b))), (2, .int (nI (h))), (3, .int (nI (l)))]) (by decide) rfl dX2_branch_14 ?_
  refine r_pick [1, 2, 3, 4, 0] (lv' := [(0, .ref (ad 70)), (1, .int (nI (b))), (2, .int (nI (h))), (3, .int (nI (l))), (4, .int (nI (2 ^ h)))]) rfl ?_
  have lpA : ∀ (mm_ : Nat) (j : Nat) (s1 : Sg), mm_ = 2 ^ h - j → (j ≤ 2 ^ h) → (same [39] [] [] false σ s1) → (TreeP T b ls h s1) → (∀ i, i < 2 * j → s1.A 39 (2 ^ (h + 1) + i) = nI (plD T b ls (h + 1) i)) → GJ g x 5 16 [(0, .ref (ad 70)), (1, .int (nI (b))), (2, .int (nI (h))), (3, .int (nI (l))), (4, .int (nI (2 ^ h + j)))] [] ad (s1) := by
    intro mm_
    induction mm_ using Nat.strongRecOn with
    | _ mm_ ihA =>
      intro j s1 hmA hj hs1 ht1 hn1
      refine r_iload K rfl dX2_branch_16 ?_
      refine r_iconst K ((nI (2))) (by decide) dX2_branch_18 ?_
      refine r_iload_n K 2 rfl rfl dX2_branch_19 ?_
      refine r_ishl K dX2_branch_20 ?_
      refine r_topi (b := (nI (2 * 2 ^ h))) (shl_two h (by omega)) ?_
      refine n_icmp_ge K 74 (by omega) (by omega) dX2_branch_21 (by decide) (fun h21 => ?_) (fun h21 => ?_)
      · exact r_vret K hr (⟨rfl, rfl, hs1, fun e he j2 hj2 => by by_cases q : e = h + 1; (subst q; exact hn1 j2 (by omega)); exact ht1 e (by omega) j2 hj2⟩) dX2_branch_74
      · refine r_aload_n K 0 rfl rfl dX2_branch_24 ?_
        refine get_70_1 K fl_RX2_11 dX2_branch_25 ?_
        refine r_iconst K ((nI (2))) (by decide) dX2_branch_28 ?_
        refine r_iload K rfl dX2_branch_29 ?_
        refine r_imul K dX2_branch_31 ?_
        refine r_topi (pk_mul _ _) ?_
        refine r_aload_n K 0 rfl rfl dX2_branch_32 ?_
        refine get_70_1 K fl_RX2_11 dX2_branch_33 ?_
        refine r_iload K rfl dX2_branch_36 ?_
        refine r_iald K 39 (n := 512) (by decide) rfl rfl (by decide) (by omega) dX2_branch_38 ?_
        refine r_topi (b := (nI (plD T b ls h j))) (ht1 h (Nat.le_refl _) j (by omega)) ?_
        refine r_iast K 39 (n := 512) (by decide) rfl rfl (by decide) (by omega) dX2_branch_39 ?_
        refine r_aload_n K 0 rfl rfl dX2_branch_40 ?_
        refine get_70_1 K fl_RX2_11 dX2_branch_41 ?_
        refine r_iconst K ((nI (2))) (by decide) dX2_branch_44 ?_
        refine r_iload K rfl dX2_branch_45 ?_
        refine r_imul K dX2_branch_47 ?_
        refine r_topi (pk_mul _ _) ?_
        refine r_iconst K ((nI (1))) (by decide) dX2_branch_48 ?_
        refine r_iadd K dX2_branch_49 ?_
        refine r_topi (nI_add _ _) ?_
        refine r_aload_n K 0 rfl rfl dX2_branch_50 ?_
        refine get_70_0 K fl_RX2_34 dX2_branch_51 ?_
        refine r_iload_n K 1 rfl rfl dX2_branch_54 ?_
        refine r_aload_n K 0 rfl rfl dX2_branch_55 ?_
        refine get_70_1 K fl_RX2_11 dX2_branch_56 ?_
        refine r_iload K rfl dX2_branch_59 ?_
        refine r_iald K 39 (n := 512) (by decide) rfl rfl (by decide) (by omega) dX2_branch_61 ?_
        refine r_topi (b := (nI (plD T b ls h j))) (by rw [sA_at]; unfold upd; rw [if_neg (by omega)]; exact ht1 h (Nat.le_refl _) j (by omega)) ?_
        refine r_iload_n K 3 rfl rfl dX2_branch_62 ?_
        refine r_iload_n K 2 rfl rfl dX2_branch_63 ?_
        refine r_callVp K 62 (As := [.int (nI (b)), .int (nI (plD T b ls h j)), .int (nI (l)), .int (nI (h))]) mv_X4_moved ml_RX2_50 (c_moved hT (hR.same (same_sA hs1 (by simp) _) (by intro k hk; simp; omega) (by simp)) (b := b) (p := plD T b ls h j) (l := l) (h := h) (by omega) (by omega) (by omega) (validP_or (plD_valid hT h j))) (by decide) rfl rfl rfl rfl (Nat.le_of_ble_eq_true rfl) ⟨by decide, by decide⟩ dX2_branch_64 ?_
        refine r_iast K 39 (n := 512) (by decide) rfl rfl (by decide) (by omega) dX2_branch_67 ?_
        refine r_iinc K ((nI ((2 ^ h + j) + 1))) rfl (nI_1 _) (lv' := [(4, .int (nI ((2 ^ h + j) + 1))), (0, .ref (ad 70)), (1, .int (nI (b))), (2, .int (nI (h))), (3, .int (nI (l)))]) (by decide) rfl dX2_branch_68 ?_
        refine r_goto K 16 dX2_branch_71 (by decide) ?_
        refine r_pick [1, 2, 3, 4, 0] (lv' := [(0, .ref (ad 70)), (1, .int (nI (b))), (2, .int (nI (h))), (3, .int (nI (l))), (4, .int (nI ((2 ^ h + j) + 1)))]) rfl ?_
        exact ihA _ (by omega) (j + 1) (((s1).sA 39 (upd ((s1).A 39) (2 * (2 ^ h + j)) ((nI (plD T b ls h j))))).sA 39 (upd (((s1).sA 39 (upd ((s1).A 39) (2 * (2 ^ h + j)) ((nI (plD T b ls h j))))).A 39) ((2 * (2 ^ h + j)) + 1) ((nI (goS T b (plD T b ls h j) l h))))) rfl (by omega) (same_sA (same_sA hs1 (by simp) _) (by simp) _) (fun e he i hi => by have : 2 ^ e ≤ 2 ^ h := Nat.pow_le_pow_right (by decide) he; rw [sA_at, sA_at]; unfold upd; rw [if_neg (by omega), if_neg (by omega)]; exact ht1 e he i hi) (fun i hi => br_next hls hn1 i hi)
  exact lpA _ (0) (σ) rfl (by omega) (same_rf _ _ _ _ _) (ht) (fun i hi => by omega)

set_option maxHeartbeats 400000 in
set_option maxRecDepth 10000 in
theorem c_thereAfter {g : Gp} {lau : Launch} {ad : Nat → Nat} {σ : Sg} {T : Tv} (hT : TOk T) {b n p : Nat} {ls : Nat → Nat} (hn : n ≤ 8) (ht : TreeP T b ls n σ) (hc : ChP p n σ) : Con g lau yX2_thereAfter cX2_thereAfter 5 (Option.some .long) 0 0 [.ref (ad 70), .int (nI (n))] ad σ (pu (.long (lN (rowV T b p ls n 0 (startS T)))) ad σ) := by
  refine con_mk (by decide) (Nat.le_of_ble_eq_true rfl) (fun x hxl K hr => ?_)
  subst hxl
  refine r_lv (lv' := [(0, .ref (ad 70)), (1, .int (nI (n)))]) rfl ?_
  have h256 := pow_le9 hn
  have e2p := two_p n
  refine r_lconst K (lN 0) rfl dX2_thereAfter_0 ?_
  refine r_lstore_n K (lv' := [(2, .long (lN (0))), (0, .ref (ad 70)), (1, .int (nI (n)))]) 2 rfl (by decide) rfl dX2_thereAfter_1 ?_
  refine r_iload_n K 1 rfl rfl dX2_thereAfter_2 ?_
  refine r_if_lt K 12 dX2_thereAfter_3 (by decide) (fun h3 => absurd h3 (nI_nn (by omega))) (fun h3 => ?_)
  refine r_iload_n K 1 rfl rfl dX2_thereAfter_6 ?_
  refine r_bipush K ((nI (8))) (by decide) dX2_thereAfter_7 ?_
  refine n_icmp_le K 14 (by omega) (by omega) dX2_thereAfter_9 (by decide) (fun h9 => ?_) (fun h9 => absurd h9 (by omega))
  refine r_iconst K ((nI (1))) (by decide) dX2_thereAfter_14 ?_
  refine r_iload_n K 1 rfl rfl dX2_thereAfter_15 ?_
  refine r_ishl K dX2_thereAfter_16 ?_
  refine r_topi (b := (nI (2 ^ n))) (nI_shl1 (by omega)) ?_
  refine r_istore K (lv' := [(4, .int (nI (2 ^ n))), (2, .long (lN (0))), (0, .ref (ad 70)), (1, .int (nI (n)))]) (by decide) rfl dX2_thereAfter_17 ?_
  refine r_pick [2, 3, 1, 0] (lv' := [(0, .ref (ad 70)), (1, .int (nI (n))), (2, .long (lN (0))), (4, .int (nI (2 ^ n)))]) rfl ?_
  have lpA : ∀ (mm_ : Nat) (j : Nat) (a : Nat), mm_ = 2 ^ n - j → (j ≤ 2 ^ n) → (a = sumS (fun j => if plD T b ls n j = 160 then chD p n j else 0) j) → GJ g x 5 19 [(0, .ref (ad 70)), (1, .int (nI (n))), (2, .long (lN (a))), (4, .int (nI (2 ^ n + j)))] [] ad (σ) := by
    intro mm_
    induction mm_ using Nat.strongRecOn with
    | _ mm_ ihA =>
      intro j a hmA hj ha
      refine r_iload K rfl dX2_thereAfter_19 ?_
      refine r_iconst K ((nI (2))) (by decide) dX2_thereAfter_21 ?_
      refine r_iload_n K 1 rfl rfl dX2_thereAfter_22 ?_
      refine r_ishl K dX2_thereAfter_23 ?_
      refine r_topi (b := (nI (2 * 2 ^ n))) (shl_two n (by omega)) ?_
      refine n_icmp_ge K 60 (by omega) (by omega) dX2_thereAfter_24 (by decide) (fun h24 => ?_) (fun h24 => ?_)
      · refine r_lload_n K 2 rfl rfl dX2_thereAfter_60 ?_
        exact r_lret K hr (⟨by rw [ha, show j = 2 ^ n by omega, leaf_sum], rfl, rfl⟩) dX2_thereAfter_61
      · refine r_lload_n K 2 rfl rfl dX2_thereAfter_27 ?_
        refine r_aload_n K 0 rfl rfl dX2_thereAfter_28 ?_
        refine get_70_1 K fl_RX2_11 dX2_thereAfter_29 ?_
        refine r_iload K rfl dX2_thereAfter_32 ?_
        refine r_iald K 39 (n := 512) (by decide) rfl rfl (by decide) (by omega) dX2_thereAfter_34 ?_
        have hvl := validP_le hT (plD_valid hT (b := b) (ls := ls) n j)
        refine r_topi (b := (nI (plD T b ls n j))) (ht n (Nat.le_refl _) j (by omega)) ?_
        refine r_sipush K ((nI (160))) (by decide) dX2_thereAfter_35 ?_
        refine n_icmp_ne K 51 (by omega) (by omega) dX2_thereAfter_38 (by decide) (fun h38 => ?_) (fun h38 => ?_)
        · refine r_lconst K (lN 0) rfl dX2_thereAfter_51 ?_
          refine r_ladd K dX2_thereAfter_52 ?_
          refine r_topl (lN_add _ _) ?_
          refine r_lstore_n K (lv' := [(2, .long (lN (a + 0))), (0, .ref (ad 70)), (1, .int (nI (n))), (4, .int (nI (2 ^ n + j)))]) 2 rfl (by decide) rfl dX2_thereAfter_53 ?_
          refine r_iinc K ((nI ((2 ^ n + j) + 1))) rfl (nI_1 _) (lv' := [(4, .int (nI ((2 ^ n + j) + 1))), (2, .long (lN (a + 0))), (0, .ref (ad 70)), (1, .int (nI (n)))]) (by decide) rfl dX2_thereAfter_54 ?_
          refine r_goto K 19 dX2_thereAfter_57 (by decide) ?_
          refine r_pick [2, 3, 1, 0] (lv' := [(0, .ref (ad 70)), (1, .int (nI (n))), (2, .long (lN (a + 0))), (4, .int (nI ((2 ^ n + j) + 1)))]) rfl ?_
          exact ihA _ (by omega) (j + 1) (_) rfl (by omega) (by rw [ha, sumS]; show _ = _ + (if plD T b ls n j = 160 then chD p n j else 0); rw [if_neg h38])
        · refine r_aload_n K 0 rfl rfl dX2_thereAfter_41 ?_
          refine get_70_2 K fl_RX2_15 dX2_thereAfter_42 ?_
          refine r_iload K rfl dX2_thereAfter_45 ?_
          refine r_lald K 40 (n := 512) (by decide) rfl rfl (by decide) (by omega) dX2_thereAfter_47 ?_
          refine r_topl (b := (lN (chD p n j))) (hc n (Nat.le_refl _) j (by omega)) ?_
          refine r_goto K 52 dX2_thereAfter_48 (by decide) ?_
          refine r_ladd K dX2_thereAfter_52 ?_
          refine r_topl (lN_add _ _) ?_
          refine r_lstore_n K (lv' := [(2, .long (lN (a + (chD p n j)))), (0, .ref (ad 70)), (1, .int (nI (n))), (4, .int (nI (2 ^ n + j)))]) 2 rfl (by decide) rfl dX2_thereAfter_53 ?_
          refine r_iinc K ((nI ((2 ^ n + j) + 1))) rfl (nI_1 _) (lv' := [(4, .int (nI ((2 ^ n + j) + 1))), (2, .long (lN (a + (chD p n j)))), (0, .ref (ad 70)), (1, .int (nI (n)))]) (by decide) rfl dX2_thereAfter_54 ?_
          refine r_goto K 19 dX2_thereAfter_57 (by decide) ?_
          refine r_pick [2, 3, 1, 0] (lv' := [(0, .ref (ad 70)), (1, .int (nI (n))), (2, .long (lN (a + (chD p n j)))), (4, .int (nI ((2 ^ n + j) + 1)))]) rfl ?_
          exact ihA _ (by omega) (j + 1) (_) rfl (by omega) (by rw [ha, sumS]; show _ = _ + (if plD T b ls n j = 160 then chD p n j else 0); rw [if_pos h38])
  exact lpA _ (0) (0) rfl (by omega) (rfl)

set_option maxHeartbeats 400000 in
set_option maxRecDepth 10000 in
theorem c_greatest_44 {g : Gp} {lau : Launch} {ad : Nat → Nat} {σ : Sg} {l c : Nat} {f : Nat → Nat} (hl : l < 6) (hc : c ≤ 5) (hf : ∀ m, m < 6 → σ.J 44 m = lN (f m)) (hf2 : ∀ m, f m ≤ 100000000) : Con g lau yX2_greatest cX2_greatest 7 (Option.some .long) 1 24 [.ref (ad 44), .int (nI (l)), .int (nI (c))] ad σ (pu (.long (lN (mxV l c f 6))) ad σ) := by
  refine con_mk (by decide) (Nat.le_of_ble_eq_true rfl) (fun x hxl K hr => ?_)
  subst hxl
  refine r_lv (lv' := [(0, .ref (ad 44)), (1, .int (nI (l))), (2, .int (nI (c)))]) rfl ?_
  refine r_lconst K (lN 0) rfl dX2_greatest_0 ?_
  refine r_lstore_n K (lv' := [(3, .long (lN (0))), (0, .ref (ad 44)), (1, .int (nI (l))), (2, .int (nI (c)))]) 3 rfl (by decide) rfl dX2_greatest_1 ?_
  refine r_iconst K ((nI (5))) (by decide) dX2_greatest_2 ?_
  refine r_iload_n K 1 rfl rfl dX2_greatest_3 ?_
  refine r_iload_n K 2 rfl rfl dX2_greatest_4 ?_
  refine r_iadd K dX2_greatest_5 ?_
  refine r_topi (nI_add _ _) ?_
  refine r_mmin K ml_RX2_44 (by decide) (Nat.le_of_ble_eq_true rfl) dX2_greatest_6 ?_
  refine r_topi (b := (nI (min 5 (l + c)))) (nI_min (by omega) (by omega)) ?_
  refine r_istore K (lv' := [(5, .int (nI (min 5 (l + c)))), (3, .long (lN (0))), (0, .ref (ad 44)), (1, .int (nI (l))), (2, .int (nI (c)))]) (by decide) rfl dX2_greatest_9 ?_
  refine r_iconst K ((nI (0))) (by decide) dX2_greatest_11 ?_
  refine r_iload_n K 1 rfl rfl dX2_greatest_12 ?_
  refine r_iload_n K 2 rfl rfl dX2_greatest_13 ?_
  refine r_isub K dX2_greatest_14 ?_
  refine r_mmax K ml_RX2_70 (by decide) (Nat.le_of_ble_eq_true rfl) dX2_greatest_15 ?_
  refine r_topi (b := (nI (l - c))) (max_sub (by omega) (by omega)) ?_
  refine r_istore K (lv' := [(6, .int (nI (l - c))), (5, .int (nI (min 5 (l + c)))), (3, .long (lN (0))), (0, .ref (ad 44)), (1, .int (nI (l))), (2, .int (nI (c)))]) (by decide) rfl dX2_greatest_18 ?_
  refine r_pick [3, 4, 5, 2, 1, 0] (lv' := [(0, .ref (ad 44)), (1, .int (nI (l))), (2, .int (nI (c))), (3, .long (lN (0))), (5, .int (nI (min 5 (l + c)))), (6, .int (nI (l - c)))]) rfl ?_
  have lpA : ∀ (mm_ : Nat) (t : Nat) (v : Nat), mm_ = min 5 (l + c) + 1 - t → (l - c ≤ t) → (t ≤ min 5 (l + c) + 1) → (v = mxV l c f t) → GJ g x 7 20 [(0, .ref (ad 44)), (1, .int (nI (l))), (2, .int (nI (c))), (3, .long (lN (v))), (5, .int (nI (min 5 (l + c)))), (6, .int (nI (t)))] [] ad (σ) := by
    intro mm_
    induction mm_ using Nat.strongRecOn with
    | _ mm_ ihA =>
      intro t v hmA ht ht2 hv
      refine r_iload K rfl dX2_greatest_20 ?_
      refine r_iload K rfl dX2_greatest_22 ?_
      refine n_icmp_gt K 42 (by omega) (by omega) dX2_greatest_24 (by decide) (fun h24 => ?_) (fun h24 => ?_)
      · refine r_lload_n K 3 rfl rfl dX2_greatest_42 ?_
        exact r_lret K hr (⟨by rw [hv, ← mxV_high (show min 5 (l + c) < t by omega) (6 - t) (by omega), show t + (6 - t) = 6 by omega], rfl, rfl⟩) dX2_greatest_43
      · have hfb := hf2 t
        have hvb : v ≤ 100000000 := by rw [hv]; exact mxV_le hf2 _
        refine r_lload_n K 3 rfl rfl dX2_greatest_27 ?_
        refine r_aload_n K 0 rfl rfl dX2_greatest_28 ?_
        refine r_iload K rfl dX2_greatest_29 ?_
        refine r_lald K 44 (n := 6) (by decide) rfl rfl (by decide) (by omega) dX2_greatest_31 ?_
        refine r_topl (b := (lN (f t))) (hf t (by omega)) ?_
        refine r_mmax_long K ml_RX2_77 (by decide) (Nat.le_of_ble_eq_true rfl) dX2_greatest_32 ?_
        refine r_topl (b := (lN (max v (f t)))) (lN_max (by omega) (by omega)) ?_
        refine r_lstore_n K (lv' := [(3, .long (lN (max v (f t)))), (0, .ref (ad 44)), (1, .int (nI (l))), (2, .int (nI (c))), (5, .int (nI (min 5 (l + c)))), (6, .int (nI (t)))]) 3 rfl (by decide) rfl dX2_greatest_35 ?_
        refine r_iinc K ((nI (t + 1))) rfl (nI_1 _) (lv' := [(6, .int (nI (t + 1))), (3, .long (lN (max v (f t)))), (0, .ref (ad 44)), (1, .int (nI (l))), (2, .int (nI (c))), (5, .int (nI (min 5 (l + c))))]) (by decide) rfl dX2_greatest_36 ?_
        refine r_goto K 20 dX2_greatest_39 (by decide) ?_
        refine r_pick [2, 3, 4, 1, 5, 0] (lv' := [(0, .ref (ad 44)), (1, .int (nI (l))), (2, .int (nI (c))), (3, .long (lN (max v (f t)))), (5, .int (nI (min 5 (l + c)))), (6, .int (nI (t + 1)))]) rfl ?_
        exact ihA _ (by omega) (t + 1) (_) rfl (by omega) (by omega) (by rw [hv, mxV_max (by unfold offS; split <;> omega)])
  exact lpA _ (_) (0) rfl (Nat.le_refl _) (by omega) ((mxV_low _ (Nat.le_refl _)).symm)

set_option maxHeartbeats 400000 in
set_option maxRecDepth 10000 in
theorem c_greatest_45 {g : Gp} {lau : Launch} {ad : Nat → Nat} {σ : Sg} {l c : Nat} {f : Nat → Nat} (hl : l < 6) (hc : c ≤ 5) (hf : ∀ m, m < 6 → σ.J 45 m = lN (f m)) (hf2 : ∀ m, f m ≤ 100000000) : Con g lau yX2_greatest cX2_greatest 7 (Option.some .long) 1 24 [.ref (ad 45), .int (nI (l)), .int (nI (c))] ad σ (pu (.long (lN (mxV l c f 6))) ad σ) := by
  refine con_mk (by decide) (Nat.le_of_ble_eq_true rfl) (fun x hxl K hr => ?_)
  subst hxl
  refine r_lv (lv' := [(0, .ref (ad 45)), (1, .int (nI (l))), (2, .int (nI (c)))]) rfl ?_
  refine r_lconst K (lN 0) rfl dX2_greatest_0 ?_
  refine r_lstore_n K (lv' := [(3, .long (lN (0))), (0, .ref (ad 45)), (1, .int (nI (l))), (2, .int (nI (c)))]) 3 rfl (by decide) rfl dX2_greatest_1 ?_
  refine r_iconst K ((nI (5))) (by decide) dX2_greatest_2 ?_
  refine r_iload_n K 1 rfl rfl dX2_greatest_3 ?_
  refine r_iload_n K 2 rfl rfl dX2_greatest_4 ?_
  refine r_iadd K dX2_greatest_5 ?_
  refine r_topi (nI_add _ _) ?_
  refine r_mmin K ml_RX2_44 (by decide) (Nat.le_of_ble_eq_true rfl) dX2_greatest_6 ?_
  refine r_topi (b := (nI (min 5 (l + c)))) (nI_min (by omega) (by omega)) ?_
  refine r_istore K (lv' := [(5, .int (nI (min 5 (l + c)))), (3, .long (lN (0))), (0, .ref (ad 45)), (1, .int (nI (l))), (2, .int (nI (c)))]) (by decide) rfl dX2_greatest_9 ?_
  refine r_iconst K ((nI (0))) (by decide) dX2_greatest_11 ?_
  refine r_iload_n K 1 rfl rfl dX2_greatest_12 ?_
  refine r_iload_n K 2 rfl rfl dX2_greatest_13 ?_
  refine r_isub K dX2_greatest_14 ?_
  refine r_mmax K ml_RX2_70 (by decide) (Nat.le_of_ble_eq_true rfl) dX2_greatest_15 ?_
  refine r_topi (b := (nI (l - c))) (max_sub (by omega) (by omega)) ?_
  refine r_istore K (lv' := [(6, .int (nI (l - c))), (5, .int (nI (min 5 (l + c)))), (3, .long (lN (0))), (0, .ref (ad 45)), (1, .int (nI (l))), (2, .int (nI (c)))]) (by decide) rfl dX2_greatest_18 ?_
  refine r_pick [3, 4, 5, 2, 1, 0] (lv' := [(0, .ref (ad 45)), (1, .int (nI (l))), (2, .int (nI (c))), (3, .long (lN (0))), (5, .int (nI (min 5 (l + c)))), (6, .int (nI (l - c)))]) rfl ?_
  have lpA : ∀ (mm_ : Nat) (t : Nat) (v : Nat), mm_ = min 5 (l + c) + 1 - t → (l - c ≤ t) → (t ≤ min 5 (l + c) + 1) → (v = mxV l c f t) → GJ g x 7 20 [(0, .ref (ad 45)), (1, .int (nI (l))), (2, .int (nI (c))), (3, .long (lN (v))), (5, .int (nI (min 5 (l + c)))), (6, .int (nI (t)))] [] ad (σ) := by
    intro mm_
    induction mm_ using Nat.strongRecOn with
    | _ mm_ ihA =>
      intro t v hmA ht ht2 hv
      refine r_iload K rfl dX2_greatest_20 ?_
      refine r_iload K rfl dX2_greatest_22 ?_
      refine n_icmp_gt K 42 (by omega) (by omega) dX2_greatest_24 (by decide) (fun h24 => ?_) (fun h24 => ?_)
      · refine r_lload_n K 3 rfl rfl dX2_greatest_42 ?_
        exact r_lret K hr (⟨by rw [hv, ← mxV_high (show min 5 (l + c) < t by omega) (6 - t) (by omega), show t + (6 - t) = 6 by omega], rfl, rfl⟩) dX2_greatest_43
      · have hfb := hf2 t
        have hvb : v ≤ 100000000 := by rw [hv]; exact mxV_le hf2 _
        refine r_lload_n K 3 rfl rfl dX2_greatest_27 ?_
        refine r_aload_n K 0 rfl rfl dX2_greatest_28 ?_
        refine r_iload K rfl dX2_greatest_29 ?_
        refine r_lald K 45 (n := 6) (by decide) rfl rfl (by decide) (by omega) dX2_greatest_31 ?_
        refine r_topl (b := (lN (f t))) (hf t (by omega)) ?_
        refine r_mmax_long K ml_RX2_77 (by decide) (Nat.le_of_ble_eq_true rfl) dX2_greatest_32 ?_
        refine r_topl (b := (lN (max v (f t)))) (lN_max (by omega) (by omega)) ?_
        refine r_lstore_n K (lv' := [(3, .long (lN (max v (f t)))), (0, .ref (ad 45)), (1, .int (nI (l))), (2, .int (nI (c))), (5, .int (nI (min 5 (l + c)))), (6, .int (nI (t)))]) 3 rfl (by decide) rfl dX2_greatest_35 ?_
        refine r_iinc K ((nI (t + 1))) rfl (nI_1 _) (lv' := [(6, .int (nI (t + 1))), (3, .long (lN (max v (f t)))), (0, .ref (ad 45)), (1, .int (nI (l))), (2, .int (nI (c))), (5, .int (nI (min 5 (l + c))))]) (by decide) rfl dX2_greatest_36 ?_
        refine r_goto K 20 dX2_greatest_39 (by decide) ?_
        refine r_pick [2, 3, 4, 1, 5, 0] (lv' := [(0, .ref (ad 45)), (1, .int (nI (l))), (2, .int (nI (c))), (3, .long (lN (max v (f t)))), (5, .int (nI (min 5 (l + c)))), (6, .int (nI (t + 1)))]) rfl ?_
        exact ihA _ (by omega) (t + 1) (_) rfl (by omega) (by omega) (by rw [hv, mxV_max (by unfold offS; split <;> omega)])
  exact lpA _ (_) (0) rfl (Nat.le_refl _) (by omega) ((mxV_low _ (Nat.le_refl _)).symm)

