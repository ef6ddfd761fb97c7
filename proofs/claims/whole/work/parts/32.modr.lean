def lnM (X : Tv) (p wh w rc k : Nat) (σ s : Sg) : Prop := same [50] [17, 18, 19, 20, 21, 23] [] true σ s ∧ s.I 23 = nI rc ∧ s.A 50 wh = nI w ∧ (∀ j, j < k → s.A 50 (wh + (j + 1)) = nI (numS X p (j + 1))) ∧ ∀ i, (i < wh ∨ wh + 5 < i) → s.A 50 i = σ.A 50 i
theorem lnM_of {X : Tv} {p wh w rc k : Nat} {σ s0 s : Sg} (hs : same [50] [17, 18, 19, 20, 21, 23] [] true σ s0) (h0 : s0.A 50 = upd (σ.A 50) wh (nI w)) (h : mlP X p wh rc k s0 s) : lnM X p wh w rc k σ s := by
  obtain ⟨a1, a2, a3, a4⟩ := h
  refine ⟨same_tr hs a1, a2, ?_, a3, fun i hi => ?_⟩
  · rw [a4 wh (by omega), h0]; unfold upd; rw [if_pos rfl]
  · rw [a4 i (by omega), h0]; unfold upd; rw [if_neg (by omega)]
theorem out_of {wh w : Nat} {v : Int32} {σ s0 s : Sg} (h0 : s0.A 50 = upd (σ.A 50) wh v) (h : ∀ i, (i < wh + 1 ∨ wh + 5 < i) → s.A 50 i = s0.A 50 i) : ∀ i, (i < wh ∨ wh + 5 < i) → s.A 50 i = σ.A 50 i := fun i hi => by
  rw [h i (by omega), h0]; unfold upd; rw [if_neg (by omega)]
set_option maxHeartbeats 2000000 in
set_option maxRecDepth 10000 in
theorem m_isLine {g : Gp} {lau : Launch} {ad : Nat → Nat} {σ : Sg} {X : Tv} (hXo : XOk X) (hX : RepX 16 49 X σ) {p wh rc : Nat} (hp : p ≤ X 0 0) (g17 : σ.I 17 = nI p) (g23 : σ.I 23 = nI rc) (hrc : rc ≤ 8) (hwh : wh ≤ 42) : Con g lau yX7_isLine cX7_isLine 4 (Option.some .boolean) 4 86 [.ref (ad 71), .int (nI (wh))] ad σ (fun r a2 s2 => some (.int (bI (lineR X p rc).1)) = r ∧ ad = a2 ∧ ((lineR X p rc).1 = true → s2.I 17 = nI (lineR X p rc).2 ∧ lnM X p wh (wordS X p) (rcS (wordS X p) rc) (needS (wordS X p)) σ s2) ∧ ((lineR X p rc).1 = false → s2.I 21 = nI (lineR X p rc).2 ∧ same [50] [17, 18, 19, 20, 21, 23] [] true σ s2 ∧ ∀ i, (i < wh ∨ wh + 5 < i) → s2.A 50 i = σ.A 50 i)) := by
  refine con_mk (by decide) (Nat.le_of_ble_eq_true rfl) (fun x hxl K hr => ?_)
  subst hxl
  refine r_lv (lv' := [(0, .ref (ad 71)), (1, .int (nI (wh)))]) rfl ?_
  have hx200 := hXo.1
  obtain ⟨q1, q2, q3, q4, q5, q6⟩ := teS5_le hp
  refine r_aload_n K 0 rfl rfl dX7_isLine_0 ?_
  refine r_callV K 71 (As := []) (rest := []) mv_X7_nextToken ml_RX7_108 (m_nextToken hXo hX hp (g17)) (by decide) rfl rfl rfl rfl (Nat.le_of_ble_eq_true rfl) ⟨by decide, by decide⟩ dX7_isLine_1 (fun r_a ad_a s_a h_a => ?_)
  obtain ⟨rfl, rfl, tsa, t17a, t18a, tLa, tNa⟩ := h_a
  refine r_st (st' := []) rfl ?_
  have hXa : RepX 16 49 X s_a := RepX_same hX tsa (by simp) (by simp)
  have htea := teS_le hp
  have hle := wordS_le X p
  rcases (show wordS X p = 0 ∨ wordS X p = 1 ∨ wordS X p = 2 ∨ wordS X p = 3 ∨ wordS X p = 4 ∨ wordS X p = 5 ∨ wordS X p = 6 ∨ wordS X p = 7 ∨ wordS X p = 8 by omega) with hwd | hwd | hwd | hwd | hwd | hwd | hwd | hwd | hwd
  · have hLv : s_a.L = lN 307058 := by rw [tLa, (tokV_w X p (i := 0) (by decide)).mpr (word_t (j := 0) (by decide) hwd), codes.1]
    refine r_aload_n K 0 rfl rfl dX7_isLine_4 ?_
    refine get_71_10 K fl_RX7_91 dX7_isLine_5 ?_
    refine r_topl (b := (lN (307058))) (hLv) ?_
    refine r_ldc2 K (v := (lN (307058))) kl_RX7_131 dX7_isLine_8 ?_
    refine n_lcmp_ne K 19 (by decide) dX7_isLine_11 dX7_isLine_12 (by decide) (fun z => absurd z (by decide)) (fun _ => ?_)
    refine r_iconst K ((nI (0))) (by decide) dX7_isLine_15 ?_
    refine r_goto K 65 dX7_isLine_16 (by decide) ?_
    refine r_istore_n K (lv' := [(2, .int (nI (0))), (0, .ref (ad 71)), (1, .int (nI (wh)))]) 2 rfl (by decide) rfl dX7_isLine_65 ?_
    refine r_aload_n K 0 rfl rfl dX7_isLine_66 ?_
    refine get_71_10 K fl_RX7_91 dX7_isLine_67 ?_
    refine r_topl (b := (lN (307058))) (hLv) ?_
    refine r_ldc2 K (v := (lN (459652))) kl_RX7_139 dX7_isLine_70 ?_
    refine n_lcmp_ne K 81 (by decide) dX7_isLine_73 dX7_isLine_74 (by decide) (fun _ => ?_) (fun z => absurd z (by decide))
    refine r_aload_n K 0 rfl rfl dX7_isLine_81 ?_
    refine get_71_10 K fl_RX7_91 dX7_isLine_82 ?_
    refine r_topl (b := (lN (307058))) (hLv) ?_
    refine r_ldc2 K (v := (lN (1095881))) kl_RX7_141 dX7_isLine_85 ?_
    refine n_lcmp_ne K 96 (by decide) dX7_isLine_88 dX7_isLine_89 (by decide) (fun _ => ?_) (fun z => absurd z (by decide))
    refine r_aload_n K 0 rfl rfl dX7_isLine_96 ?_
    refine get_71_10 K fl_RX7_91 dX7_isLine_97 ?_
    refine r_topl (b := (lN (307058))) (hLv) ?_
    refine r_ldc2 K (v := (lN (385240))) kl_RX7_143 dX7_isLine_100 ?_
    refine n_lcmp_ne K 112 (by decide) dX7_isLine_103 dX7_isLine_104 (by decide) (fun _ => ?_) (fun z => absurd z (by decide))
    refine r_aload_n K 0 rfl rfl dX7_isLine_112 ?_
    refine get_71_10 K fl_RX7_91 dX7_isLine_113 ?_
    refine r_topl (b := (lN (307058))) (hLv) ?_
    refine r_ldc2 K (v := (lN (10497936))) kl_RX7_145 dX7_isLine_116 ?_
    refine n_lcmp_ne K 128 (by decide) dX7_isLine_119 dX7_isLine_120 (by decide) (fun _ => ?_) (fun z => absurd z (by decide))
    refine r_iconst K ((-1)) (by decide) dX7_isLine_128 ?_
    refine r_istore_n K (lv' := [(3, .int (-1)), (2, .int (nI (0))), (0, .ref (ad 71)), (1, .int (nI (wh)))]) 3 rfl (by decide) rfl dX7_isLine_129 ?_
    refine r_aload_n K 0 rfl rfl dX7_isLine_130 ?_
    refine get_71_16 K fl_RX7_26 dX7_isLine_131 ?_
    refine r_iload_n K 1 rfl rfl dX7_isLine_134 ?_
    refine r_iload_n K 2 rfl rfl dX7_isLine_135 ?_
    refine r_iconst K ((-1)) (by decide) dX7_isLine_136 ?_
    refine r_icmp_ne K 144 dX7_isLine_137 (by decide) (fun _ => ?_) (fun z => absurd z (by decide))
    refine r_iload_n K 2 rfl rfl dX7_isLine_144 ?_
    refine r_iast K 50 (n := 48) (by decide) rfl rfl (by decide) (by omega) dX7_isLine_145 ?_
    refine r_aload_n K 0 rfl rfl dX7_isLine_146 ?_
    refine get_71_16 K fl_RX7_26 dX7_isLine_147 ?_
    refine r_iload_n K 1 rfl rfl dX7_isLine_150 ?_
    refine r_iald K 50 (n := 48) (by decide) rfl rfl (by decide) (by omega) dX7_isLine_151 ?_
    refine r_topi (b := (nI (0))) (by rw [sA_at]; unfold upd; rw [if_pos rfl]) ?_
    refine r_tableIn K 200 dX7_isLine_152 (by decide) (by decide) rfl (by decide) ?_
    have hs0 : same [50] [17, 18, 19, 20, 21, 23] [] true σ ((s_a).sA 50 (upd ((s_a).A 50) (wh) ((nI (0))))) := same_sA (same_w tsa (by simp) (by simp) (by simp) id) (by simp) _
    have hA0 : ((s_a).sA 50 (upd ((s_a).A 50) (wh) ((nI (0))))).A 50 = upd (σ.A 50) wh (nI 0) := by rw [sA_at, tsa.1 50 (by simp)]
    have hX0 : RepX 16 49 X ((s_a).sA 50 (upd ((s_a).A 50) (wh) ((nI (0))))) := ⟨hXa.1, by rw [sA_A, if_neg (by decide)]; exact hXa.2⟩
    have e17 : ((s_a).sA 50 (upd ((s_a).A 50) (wh) ((nI (0))))).I 17 = nI (teS X p) := t17a
    have e18 : ((s_a).sA 50 (upd ((s_a).A 50) (wh) ((nI (0))))).I 18 = nI (tkS X p) := t18a
    have e23 : ((s_a).sA 50 (upd ((s_a).A 50) (wh) ((nI (0))))).I 23 = nI rc := (tsa.2.1 23 (by simp)).trans g23
    generalize ez : (s_a).sA 50 (upd ((s_a).A 50) (wh) ((nI (0)))) = s0 at hs0 hA0 hX0 e17 e18 e23 ⊢
    have hL0 : mlP X p wh rc 0 s0 s0 := ⟨same_rf _ _ _ _ _, e23, fun j hj => absurd hj (Nat.not_lt_zero j), fun i _ => rfl⟩
    refine r_aload_n K 0 rfl rfl dX7_isLine_200 ?_
    refine r_iload_n K 1 rfl rfl dX7_isLine_201 ?_
    refine r_callV K 71 (As := [.int (nI (wh))]) (rest := []) mv_X7_isReachLine ml_RX7_147 (m_isReachLine hXo hX0 (p := p) (wh := wh) (rc := rc) hp e17 e18 e23 hrc (by omega)) (by decide) rfl rfl rfl rfl (Nat.le_of_ble_eq_true rfl) ⟨by decide, by decide⟩ dX7_isLine_202 (fun r_z ad_z s_z h_z => ?_)
    obtain ⟨rfl, rfl, zok, zno⟩ := h_z
    refine r_st (st' := [.int (bI (lineR X p rc).1)]) (by simp [lineR, hwd]) ?_
    exact r_zret K (b := (lineR X p rc).1) hr (⟨rfl, rfl, fun z => by have e := (show lineR X p rc = (if rc < 8 then l1 X (teS X p) 0 7 (l1 X (teS X (teS X p)) 1 20 (true, teS X (teS X (teS X p)))) else (false, tkS X p)) from by simp [lineR, hwd]); rw [e] at z ⊢; exact ⟨(zok z).1, by rw [hwd]; exact lnM_of hs0 hA0 (zok z).2⟩, fun z => by have e := (show lineR X p rc = (if rc < 8 then l1 X (teS X p) 0 7 (l1 X (teS X (teS X p)) 1 20 (true, teS X (teS X (teS X p)))) else (false, tkS X p)) from by simp [lineR, hwd]); rw [e] at z ⊢; exact ⟨(zno z).1, same_tr hs0 (zno z).2.1, out_of (w := 0) hA0 (zno z).2.2⟩⟩) dX7_isLine_205
  · have hLv : s_a.L = lN 10986913 := by rw [tLa, (tokV_w X p (i := 1) (by decide)).mpr (word_t (j := 1) (by decide) hwd), codes.2.1]
    refine r_aload_n K 0 rfl rfl dX7_isLine_4 ?_
    refine get_71_10 K fl_RX7_91 dX7_isLine_5 ?_
    refine r_topl (b := (lN (10986913))) (hLv) ?_
    refine r_ldc2 K (v := (lN (307058))) kl_RX7_131 dX7_isLine_8 ?_
    refine n_lcmp_ne K 19 (by decide) dX7_isLine_11 dX7_isLine_12 (by decide) (fun _ => ?_) (fun z => absurd z (by decide))
    refine r_aload_n K 0 rfl rfl dX7_isLine_19 ?_
    refine get_71_10 K fl_RX7_91 dX7_isLine_20 ?_
    refine r_topl (b := (lN (10986913))) (hLv) ?_
    refine r_ldc2 K (v := (lN (10986913))) kl_RX7_133 dX7_isLine_23 ?_
    refine n_lcmp_ne K 34 (by decide) dX7_isLine_26 dX7_isLine_27 (by decide) (fun z => absurd z (by decide)) (fun _ => ?_)
    refine r_iconst K ((nI (1))) (by decide) dX7_isLine_30 ?_
    refine r_goto K 65 dX7_isLine_31 (by decide) ?_
    refine r_istore_n K (lv' := [(2, .int (nI (1))), (0, .ref (ad 71)), (1, .int (nI (wh)))]) 2 rfl (by decide) rfl dX7_isLine_65 ?_
    refine r_aload_n K 0 rfl rfl dX7_isLine_66 ?_
    refine get_71_10 K fl_RX7_91 dX7_isLine_67 ?_
    refine r_topl (b := (lN (10986913))) (hLv) ?_
    refine r_ldc2 K (v := (lN (459652))) kl_RX7_139 dX7_isLine_70 ?_
    refine n_lcmp_ne K 81 (by decide) dX7_isLine_73 dX7_isLine_74 (by decide) (fun _ => ?_) (fun z => absurd z (by decide))
    refine r_aload_n K 0 rfl rfl dX7_isLine_81 ?_
    refine get_71_10 K fl_RX7_91 dX7_isLine_82 ?_
    refine r_topl (b := (lN (10986913))) (hLv) ?_
    refine r_ldc2 K (v := (lN (1095881))) kl_RX7_141 dX7_isLine_85 ?_
    refine n_lcmp_ne K 96 (by decide) dX7_isLine_88 dX7_isLine_89 (by decide) (fun _ => ?_) (fun z => absurd z (by decide))
    refine r_aload_n K 0 rfl rfl dX7_isLine_96 ?_
    refine get_71_10 K fl_RX7_91 dX7_isLine_97 ?_
    refine r_topl (b := (lN (10986913))) (hLv) ?_
    refine r_ldc2 K (v := (lN (385240))) kl_RX7_143 dX7_isLine_100 ?_
    refine n_lcmp_ne K 112 (by decide) dX7_isLine_103 dX7_isLine_104 (by decide) (fun _ => ?_) (fun z => absurd z (by decide))
    refine r_aload_n K 0 rfl rfl dX7_isLine_112 ?_
    refine get_71_10 K fl_RX7_91 dX7_isLine_113 ?_
    refine r_topl (b := (lN (10986913))) (hLv) ?_
    refine r_ldc2 K (v := (lN (10497936))) kl_RX7_145 dX7_isLine_116 ?_
    refine n_lcmp_ne K 128 (by decide) dX7_isLine_119 dX7_isLine_120 (by decide) (fun _ => ?_) (fun z => absurd z (by decide))
    refine r_iconst K ((-1)) (by decide) dX7_isLine_128 ?_
    refine r_istore_n K (lv' := [(3, .int (-1)), (2, .int (nI (1))), (0, .ref (ad 71)), (1, .int (nI (wh)))]) 3 rfl (by decide) rfl dX7_isLine_129 ?_
    refine r_aload_n K 0 rfl rfl dX7_isLine_130 ?_
    refine get_71_16 K fl_RX7_26 dX7_isLine_131 ?_
    refine r_iload_n K 1 rfl rfl dX7_isLine_134 ?_
    refine r_iload_n K 2 rfl rfl dX7_isLine_135 ?_
    refine r_iconst K ((-1)) (by decide) dX7_isLine_136 ?_
    refine r_icmp_ne K 144 dX7_isLine_137 (by decide) (fun _ => ?_) (fun z => absurd z (by decide))
    refine r_iload_n K 2 rfl rfl dX7_isLine_144 ?_
    refine r_iast K 50 (n := 48) (by decide) rfl rfl (by decide) (by omega) dX7_isLine_145 ?_
    refine r_aload_n K 0 rfl rfl dX7_isLine_146 ?_
    refine get_71_16 K fl_RX7_26 dX7_isLine_147 ?_
    refine r_iload_n K 1 rfl rfl dX7_isLine_150 ?_
    refine r_iald K 50 (n := 48) (by decide) rfl rfl (by decide) (by omega) dX7_isLine_151 ?_
    refine r_topi (b := (nI (1))) (by rw [sA_at]; unfold upd; rw [if_pos rfl]) ?_
    refine r_tableIn K 200 dX7_isLine_152 (by decide) (by decide) rfl (by decide) ?_
    have hs0 : same [50] [17, 18, 19, 20, 21, 23] [] true σ ((s_a).sA 50 (upd ((s_a).A 50) (wh) ((nI (1))))) := same_sA (same_w tsa (by simp) (by simp) (by simp) id) (by simp) _
    have hA0 : ((s_a).sA 50 (upd ((s_a).A 50) (wh) ((nI (1))))).A 50 = upd (σ.A 50) wh (nI 1) := by rw [sA_at, tsa.1 50 (by simp)]
    have hX0 : RepX 16 49 X ((s_a).sA 50 (upd ((s_a).A 50) (wh) ((nI (1))))) := ⟨hXa.1, by rw [sA_A, if_neg (by decide)]; exact hXa.2⟩
    have e17 : ((s_a).sA 50 (upd ((s_a).A 50) (wh) ((nI (1))))).I 17 = nI (teS X p) := t17a
    have e18 : ((s_a).sA 50 (upd ((s_a).A 50) (wh) ((nI (1))))).I 18 = nI (tkS X p) := t18a
    have e23 : ((s_a).sA 50 (upd ((s_a).A 50) (wh) ((nI (1))))).I 23 = nI rc := (tsa.2.1 23 (by simp)).trans g23
    generalize ez : (s_a).sA 50 (upd ((s_a).A 50) (wh) ((nI (1)))) = s0 at hs0 hA0 hX0 e17 e18 e23 ⊢
    have hL0 : mlP X p wh rc 0 s0 s0 := ⟨same_rf _ _ _ _ _, e23, fun j hj => absurd hj (Nat.not_lt_zero j), fun i _ => rfl⟩
    refine r_aload_n K 0 rfl rfl dX7_isLine_200 ?_
    refine r_iload_n K 1 rfl rfl dX7_isLine_201 ?_
    refine r_callV K 71 (As := [.int (nI (wh))]) (rest := []) mv_X7_isReachLine ml_RX7_147 (m_isReachLine hXo hX0 (p := p) (wh := wh) (rc := rc) hp e17 e18 e23 hrc (by omega)) (by decide) rfl rfl rfl rfl (Nat.le_of_ble_eq_true rfl) ⟨by decide, by decide⟩ dX7_isLine_202 (fun r_z ad_z s_z h_z => ?_)
    obtain ⟨rfl, rfl, zok, zno⟩ := h_z
    refine r_st (st' := [.int (bI (lineR X p rc).1)]) (by simp [lineR, hwd]) ?_
    exact r_zret K (b := (lineR X p rc).1) hr (⟨rfl, rfl, fun z => by have e := (show lineR X p rc = (if rc < 8 then l1 X (teS X p) 0 7 (l1 X (teS X (teS X p)) 1 20 (true, teS X (teS X (teS X p)))) else (false, tkS X p)) from by simp [lineR, hwd]); rw [e] at z ⊢; exact ⟨(zok z).1, by rw [hwd]; exact lnM_of hs0 hA0 (zok z).2⟩, fun z => by have e := (show lineR X p rc = (if rc < 8 then l1 X (teS X p) 0 7 (l1 X (teS X (teS X p)) 1 20 (true, teS X (teS X (teS X p)))) else (false, tkS X p)) from by simp [lineR, hwd]); rw [e] at z ⊢; exact ⟨(zno z).1, same_tr hs0 (zno z).2.1, out_of (w := 0) hA0 (zno z).2.2⟩⟩) dX7_isLine_205
  · have hLv : s_a.L = lN 247223 := by rw [tLa, (tokV_w X p (i := 2) (by decide)).mpr (word_t (j := 2) (by decide) hwd), codes.2.2.1]
    refine r_aload_n K 0 rfl rfl dX7_isLine_4 ?_
    refine get_71_10 K fl_RX7_91 dX7_isLine_5 ?_
    refine r_topl (b := (lN (247223))) (hLv) ?_
    refine r_ldc2 K (v := (lN (307058))) kl_RX7_131 dX7_isLine_8 ?_
    refine n_lcmp_ne K 19 (by decide) dX7_isLine_11 dX7_isLine_12 (by decide) (fun _ => ?_) (fun z => absurd z (by decide))
    refine r_aload_n K 0 rfl rfl dX7_isLine_19 ?_
    refine get_71_10 K fl_RX7_91 dX7_isLine_20 ?_
    refine r_topl (b := (lN (247223))) (hLv) ?_
    refine r_ldc2 K (v := (lN (10986913))) kl_RX7_133 dX7_isLine_23 ?_
    refine n_lcmp_ne K 34 (by decide) dX7_isLine_26 dX7_isLine_27 (by decide) (fun _ => ?_) (fun z => absurd z (by decide))
    refine r_aload_n K 0 rfl rfl dX7_isLine_34 ?_
    refine get_71_10 K fl_RX7_91 dX7_isLine_35 ?_
    refine r_topl (b := (lN (247223))) (hLv) ?_
    refine r_ldc2 K (v := (lN (247223))) kl_RX7_135 dX7_isLine_38 ?_
    refine n_lcmp_ne K 49 (by decide) dX7_isLine_41 dX7_isLine_42 (by decide) (fun z => absurd z (by decide)) (fun _ => ?_)
    refine r_iconst K ((nI (2))) (by decide) dX7_isLine_45 ?_
    refine r_goto K 65 dX7_isLine_46 (by decide) ?_
    refine r_istore_n K (lv' := [(2, .int (nI (2))), (0, .ref (ad 71)), (1, .int (nI (wh)))]) 2 rfl (by decide) rfl dX7_isLine_65 ?_
    refine r_aload_n K 0 rfl rfl dX7_isLine_66 ?_
    refine get_71_10 K fl_RX7_91 dX7_isLine_67 ?_
    refine r_topl (b := (lN (247223))) (hLv) ?_
    refine r_ldc2 K (v := (lN (459652))) kl_RX7_139 dX7_isLine_70 ?_
    refine n_lcmp_ne K 81 (by decide) dX7_isLine_73 dX7_isLine_74 (by decide) (fun _ => ?_) (fun z => absurd z (by decide))
    refine r_aload_n K 0 rfl rfl dX7_isLine_81 ?_
    refine get_71_10 K fl_RX7_91 dX7_isLine_82 ?_
    refine r_topl (b := (lN (247223))) (hLv) ?_
    refine r_ldc2 K (v := (lN (1095881))) kl_RX7_141 dX7_isLine_85 ?_
    refine n_lcmp_ne K 96 (by decide) dX7_isLine_88 dX7_isLine_89 (by decide) (fun _ => ?_) (fun z => absurd z (by decide))
    refine r_aload_n K 0 rfl rfl dX7_isLine_96 ?_
    refine get_71_10 K fl_RX7_91 dX7_isLine_97 ?_
    refine r_topl (b := (lN (247223))) (hLv) ?_
    refine r_ldc2 K (v := (lN (385240))) kl_RX7_143 dX7_isLine_100 ?_
    refine n_lcmp_ne K 112 (by decide) dX7_isLine_103 dX7_isLine_104 (by decide) (fun _ => ?_) (fun z => absurd z (by decide))
    refine r_aload_n K 0 rfl rfl dX7_isLine_112 ?_
    refine get_71_10 K fl_RX7_91 dX7_isLine_113 ?_
    refine r_topl (b := (lN (247223))) (hLv) ?_
    refine r_ldc2 K (v := (lN (10497936))) kl_RX7_145 dX7_isLine_116 ?_
    refine n_lcmp_ne K 128 (by decide) dX7_isLine_119 dX7_isLine_120 (by decide) (fun _ => ?_) (fun z => absurd z (by decide))
    refine r_iconst K ((-1)) (by decide) dX7_isLine_128 ?_
    refine r_istore_n K (lv' := [(3, .int (-1)), (2, .int (nI (2))), (0, .ref (ad 71)), (1, .int (nI (wh)))]) 3 rfl (by decide) rfl dX7_isLine_129 ?_
    refine r_aload_n K 0 rfl rfl dX7_isLine_130 ?_
    refine get_71_16 K fl_RX7_26 dX7_isLine_131 ?_
    refine r_iload_n K 1 rfl rfl dX7_isLine_134 ?_
    refine r_iload_n K 2 rfl rfl dX7_isLine_135 ?_
    refine r_iconst K ((-1)) (by decide) dX7_isLine_136 ?_
    refine r_icmp_ne K 144 dX7_isLine_137 (by decide) (fun _ => ?_) (fun z => absurd z (by decide))
    refine r_iload_n K 2 rfl rfl dX7_isLine_144 ?_
    refine r_iast K 50 (n := 48) (by decide) rfl rfl (by decide) (by omega) dX7_isLine_145 ?_
    refine r_aload_n K 0 rfl rfl dX7_isLine_146 ?_
    refine get_71_16 K fl_RX7_26 dX7_isLine_147 ?_
    refine r_iload_n K 1 rfl rfl dX7_isLine_150 ?_
    refine r_iald K 50 (n := 48) (by decide) rfl rfl (by decide) (by omega) dX7_isLine_151 ?_
    refine r_topi (b := (nI (2))) (by rw [sA_at]; unfold upd; rw [if_pos rfl]) ?_
    refine r_tableIn K 200 dX7_isLine_152 (by decide) (by decide) rfl (by decide) ?_
    have hs0 : same [50] [17, 18, 19, 20, 21, 23] [] true σ ((s_a).sA 50 (upd ((s_a).A 50) (wh) ((nI (2))))) := same_sA (same_w tsa (by simp) (by simp) (by simp) id) (by simp) _
    have hA0 : ((s_a).sA 50 (upd ((s_a).A 50) (wh) ((nI (2))))).A 50 = upd (σ.A 50) wh (nI 2) := by rw [sA_at, tsa.1 50 (by simp)]
    have hX0 : RepX 16 49 X ((s_a).sA 50 (upd ((s_a).A 50) (wh) ((nI (2))))) := ⟨hXa.1, by rw [sA_A, if_neg (by decide)]; exact hXa.2⟩
    have e17 : ((s_a).sA 50 (upd ((s_a).A 50) (wh) ((nI (2))))).I 17 = nI (teS X p) := t17a
    have e18 : ((s_a).sA 50 (upd ((s_a).A 50) (wh) ((nI (2))))).I 18 = nI (tkS X p) := t18a
    have e23 : ((s_a).sA 50 (upd ((s_a).A 50) (wh) ((nI (2))))).I 23 = nI rc := (tsa.2.1 23 (by simp)).trans g23
    generalize ez : (s_a).sA 50 (upd ((s_a).A 50) (wh) ((nI (2)))) = s0 at hs0 hA0 hX0 e17 e18 e23 ⊢
    have hL0 : mlP X p wh rc 0 s0 s0 := ⟨same_rf _ _ _ _ _, e23, fun j hj => absurd hj (Nat.not_lt_zero j), fun i _ => rfl⟩
    refine r_aload_n K 0 rfl rfl dX7_isLine_200 ?_
    refine r_iload_n K 1 rfl rfl dX7_isLine_201 ?_
    refine r_callV K 71 (As := [.int (nI (wh))]) (rest := []) mv_X7_isReachLine ml_RX7_147 (m_isReachLine hXo hX0 (p := p) (wh := wh) (rc := rc) hp e17 e18 e23 hrc (by omega)) (by decide) rfl rfl rfl rfl (Nat.le_of_ble_eq_true rfl) ⟨by decide, by decide⟩ dX7_isLine_202 (fun r_z ad_z s_z h_z => ?_)
    obtain ⟨rfl, rfl, zok, zno⟩ := h_z
    refine r_st (st' := [.int (bI (lineR X p rc).1)]) (by simp [lineR, hwd]) ?_
    exact r_zret K (b := (lineR X p rc).1) hr (⟨rfl, rfl, fun z => by have e := (show lineR X p rc = (if rc < 8 then l1 X (teS X p) 0 7 (l1 X (teS X (teS X p)) 1 20 (true, teS X (teS X (teS X p)))) else (false, tkS X p)) from by simp [lineR, hwd]); rw [e] at z ⊢; exact ⟨(zok z).1, by rw [hwd]; exact lnM_of hs0 hA0 (zok z).2⟩, fun z => by have e := (show lineR X p rc = (if rc < 8 then l1 X (teS X p) 0 7 (l1 X (teS X (teS X p)) 1 20 (true, teS X (teS X (teS X p)))) else (false, tkS X p)) from by simp [lineR, hwd]); rw [e] at z ⊢; exact ⟨(zno z).1, same_tr hs0 (zno z).2.1, out_of (w := 0) hA0 (zno z).2.2⟩⟩) dX7_isLine_205
  · have hLv : s_a.L = lN 3427 := by rw [tLa, (tokV_w X p (i := 3) (by decide)).mpr (word_t (j := 3) (by decide) hwd), codes.2.2.2.1]
    refine r_aload_n K 0 rfl rfl dX7_isLine_4 ?_
    refine get_71_10 K fl_RX7_91 dX7_isLine_5 ?_
    refine r_topl (b := (lN (3427))) (hLv) ?_
    refine r_ldc2 K (v := (lN (307058))) kl_RX7_131 dX7_isLine_8 ?_
    refine n_lcmp_ne K 19 (by decide) dX7_isLine_11 dX7_isLine_12 (by decide) (fun _ => ?_) (fun z => absurd z (by decide))
    refine r_aload_n K 0 rfl rfl dX7_isLine_19 ?_
    refine get_71_10 K fl_RX7_91 dX7_isLine_20 ?_
    refine r_topl (b := (lN (3427))) (hLv) ?_
    refine r_ldc2 K (v := (lN (10986913))) kl_RX7_133 dX7_isLine_23 ?_
    refine n_lcmp_ne K 34 (by decide) dX7_isLine_26 dX7_isLine_27 (by decide) (fun _ => ?_) (fun z => absurd z (by decide))
    refine r_aload_n K 0 rfl rfl dX7_isLine_34 ?_
    refine get_71_10 K fl_RX7_91 dX7_isLine_35 ?_
    refine r_topl (b := (lN (3427))) (hLv) ?_
    refine r_ldc2 K (v := (lN (247223))) kl_RX7_135 dX7_isLine_38 ?_
    refine n_lcmp_ne K 49 (by decide) dX7_isLine_41 dX7_isLine_42 (by decide) (fun _ => ?_) (fun z => absurd z (by decide))
    refine r_aload_n K 0 rfl rfl dX7_isLine_49 ?_
    refine get_71_10 K fl_RX7_91 dX7_isLine_50 ?_
    refine r_topl (b := (lN (3427))) (hLv) ?_
    refine r_ldc2 K (v := (lN (3427))) kl_RX7_137 dX7_isLine_53 ?_
    refine n_lcmp_ne K 64 (by decide) dX7_isLine_56 dX7_isLine_57 (by decide) (fun z => absurd z (by decide)) (fun _ => ?_)
    refine r_iconst K ((nI (3))) (by decide) dX7_isLine_60 ?_
    refine r_goto K 65 dX7_isLine_61 (by decide) ?_
    refine r_istore_n K (lv' := [(2, .int (nI (3))), (0, .ref (ad 71)), (1, .int (nI (wh)))]) 2 rfl (by decide) rfl dX7_isLine_65 ?_
    refine r_aload_n K 0 rfl rfl dX7_isLine_66 ?_
    refine get_71_10 K fl_RX7_91 dX7_isLine_67 ?_
    refine r_topl (b := (lN (3427))) (hLv) ?_
    refine r_ldc2 K (v := (lN (459652))) kl_RX7_139 dX7_isLine_70 ?_
    refine n_lcmp_ne K 81 (by decide) dX7_isLine_73 dX7_isLine_74 (by decide) (fun _ => ?_) (fun z => absurd z (by decide))
    refine r_aload_n K 0 rfl rfl dX7_isLine_81 ?_
    refine get_71_10 K fl_RX7_91 dX7_isLine_82 ?_
    refine r_topl (b := (lN (3427))) (hLv) ?_
    refine r_ldc2 K (v := (lN (1095881))) kl_RX7_141 dX7_isLine_85 ?_
    refine n_lcmp_ne K 96 (by decide) dX7_isLine_88 dX7_isLine_89 (by decide) (fun _ => ?_) (fun z => absurd z (by decide))
    refine r_aload_n K 0 rfl rfl dX7_isLine_96 ?_
    refine get_71_10 K fl_RX7_91 dX7_isLine_97 ?_
    refine r_topl (b := (lN (3427))) (hLv) ?_
    refine r_ldc2 K (v := (lN (385240))) kl_RX7_143 dX7_isLine_100 ?_
    refine n_lcmp_ne K 112 (by decide) dX7_isLine_103 dX7_isLine_104 (by decide) (fun _ => ?_) (fun z => absurd z (by decide))
    refine r_aload_n K 0 rfl rfl dX7_isLine_112 ?_
    refine get_71_10 K fl_RX7_91 dX7_isLine_113 ?_
    refine r_topl (b := (lN (3427))) (hLv) ?_
    refine r_ldc2 K (v := (lN (10497936))) kl_RX7_145 dX7_isLine_116 ?_
    refine n_lcmp_ne K 128 (by decide) dX7_isLine_119 dX7_isLine_120 (by decide) (fun _ => ?_) (fun z => absurd z (by decide))
    refine r_iconst K ((-1)) (by decide) dX7_isLine_128 ?_
    refine r_istore_n K (lv' := [(3, .int (-1)), (2, .int (nI (3))), (0, .ref (ad 71)), (1, .int (nI (wh)))]) 3 rfl (by decide) rfl dX7_isLine_129 ?_
    refine r_aload_n K 0 rfl rfl dX7_isLine_130 ?_
    refine get_71_16 K fl_RX7_26 dX7_isLine_131 ?_
    refine r_iload_n K 1 rfl rfl dX7_isLine_134 ?_
    refine r_iload_n K 2 rfl rfl dX7_isLine_135 ?_
    refine r_iconst K ((-1)) (by decide) dX7_isLine_136 ?_
    refine r_icmp_ne K 144 dX7_isLine_137 (by decide) (fun _ => ?_) (fun z => absurd z (by decide))
    refine r_iload_n K 2 rfl rfl dX7_isLine_144 ?_
    refine r_iast K 50 (n := 48) (by decide) rfl rfl (by decide) (by omega) dX7_isLine_145 ?_
    refine r_aload_n K 0 rfl rfl dX7_isLine_146 ?_
    refine get_71_16 K fl_RX7_26 dX7_isLine_147 ?_
    refine r_iload_n K 1 rfl rfl dX7_isLine_150 ?_
    refine r_iald K 50 (n := 48) (by decide) rfl rfl (by decide) (by omega) dX7_isLine_151 ?_
    refine r_topi (b := (nI (3))) (by rw [sA_at]; unfold upd; rw [if_pos rfl]) ?_
    refine r_tableIn K 206 dX7_isLine_152 (by decide) (by decide) rfl (by decide) ?_
    have hs0 : same [50] [17, 18, 19, 20, 21, 23] [] true σ ((s_a).sA 50 (upd ((s_a).A 50) (wh) ((nI (3))))) := same_sA (same_w tsa (by simp) (by simp) (by simp) id) (by simp) _
    have hA0 : ((s_a).sA 50 (upd ((s_a).A 50) (wh) ((nI (3))))).A 50 = upd (σ.A 50) wh (nI 3) := by rw [sA_at, tsa.1 50 (by simp)]
    have hX0 : RepX 16 49 X ((s_a).sA 50 (upd ((s_a).A 50) (wh) ((nI (3))))) := ⟨hXa.1, by rw [sA_A, if_neg (by decide)]; exact hXa.2⟩
    have e17 : ((s_a).sA 50 (upd ((s_a).A 50) (wh) ((nI (3))))).I 17 = nI (teS X p) := t17a
    have e18 : ((s_a).sA 50 (upd ((s_a).A 50) (wh) ((nI (3))))).I 18 = nI (tkS X p) := t18a
    have e23 : ((s_a).sA 50 (upd ((s_a).A 50) (wh) ((nI (3))))).I 23 = nI rc := (tsa.2.1 23 (by simp)).trans g23
    generalize ez : (s_a).sA 50 (upd ((s_a).A 50) (wh) ((nI (3)))) = s0 at hs0 hA0 hX0 e17 e18 e23 ⊢
    have hL0 : mlP X p wh rc 0 s0 s0 := ⟨same_rf _ _ _ _ _, e23, fun j hj => absurd hj (Nat.not_lt_zero j), fun i _ => rfl⟩
    refine r_aload_n K 0 rfl rfl dX7_isLine_206 ?_
    refine r_iconst K ((nI (0))) (by decide) dX7_isLine_207 ?_
    refine put_71_15 K fl_RX7_125 dX7_isLine_208 ?_
    refine r_iconst K ((nI (1))) (by decide) dX7_isLine_211 ?_
    exact r_zret K (b := true) hr (⟨by simp [lineR, hwd], rfl, fun _ => ⟨by rw [show (lineR X p rc).2 = teS X p from by simp [lineR, hwd]]; exact (sI_ne _ _ (by decide)).trans e17, by rw [hwd]; exact lnM_of hs0 hA0 (X := X) (p := p) (rc := 0) (k := 0) ⟨same_sI (same_rf _ _ _ _ _) (by simp) _, sI_at _ _ _, fun j hj => absurd hj (Nat.not_lt_zero j), fun i _ => rfl⟩⟩, fun z => by simp [lineR, hwd] at z⟩) dX7_isLine_212
  · have hLv : s_a.L = lN 459652 := by rw [tLa, (tokV_w X p (i := 4) (by decide)).mpr (word_t (j := 4) (by decide) hwd), codes.2.2.2.2.1]
    refine r_aload_n K 0 rfl rfl dX7_isLine_4 ?_
    refine get_71_10 K fl_RX7_91 dX7_isLine_5 ?_
    refine r_topl (b := (lN (459652))) (hLv) ?_
    refine r_ldc2 K (v := (lN (307058))) kl_RX7_131 dX7_isLine_8 ?_
    refine n_lcmp_ne K 19 (by decide) dX7_isLine_11 dX7_isLine_12 (by decide) (fun _ => ?_) (fun z => absurd z (by decide))
    refine r_aload_n K 0 rfl rfl dX7_isLine_19 ?_
    refine get_71_10 K fl_RX7_91 dX7_isLine_20 ?_
    refine r_topl (b := (lN (459652))) (hLv) ?_
    refine r_ldc2 K (v := (lN (10986913))) kl_RX7_133 dX7_isLine_23 ?_
    refine n_lcmp_ne K 34 (by decide) dX7_isLine_26 dX7_isLine_27 (by decide) (fun _ => ?_) (fun z => absurd z (by decide))
    refine r_aload_n K 0 rfl rfl dX7_isLine_34 ?_
    refine get_71_10 K fl_RX7_91 dX7_isLine_35 ?_
    refine r_topl (b := (lN (459652))) (hLv) ?_
    refine r_ldc2 K (v := (lN (247223))) kl_RX7_135 dX7_isLine_38 ?_
    refine n_lcmp_ne K 49 (by decide) dX7_isLine_41 dX7_isLine_42 (by decide) (fun _ => ?_) (fun z => absurd z (by decide))
    refine r_aload_n K 0 rfl rfl dX7_isLine_49 ?_
    refine get_71_10 K fl_RX7_91 dX7_isLine_50 ?_
    refine r_topl (b := (lN (459652))) (hLv) ?_
    refine r_ldc2 K (v := (lN (3427))) kl_RX7_137 dX7_isLine_53 ?_
    refine n_lcmp_ne K 64 (by decide) dX7_isLine_56 dX7_isLine_57 (by decide) (fun _ => ?_) (fun z => absurd z (by decide))
    refine r_iconst K ((-1)) (by decide) dX7_isLine_64 ?_
    refine r_istore_n K (lv' := [(2, .int (-1)), (0, .ref (ad 71)), (1, .int (nI (wh)))]) 2 rfl (by decide) rfl dX7_isLine_65 ?_
    refine r_aload_n K 0 rfl rfl dX7_isLine_66 ?_
    refine get_71_10 K fl_RX7_91 dX7_isLine_67 ?_
    refine r_topl (b := (lN (459652))) (hLv) ?_
    refine r_ldc2 K (v := (lN (459652))) kl_RX7_139 dX7_isLine_70 ?_
    refine n_lcmp_ne K 81 (by decide) dX7_isLine_73 dX7_isLine_74 (by decide) (fun z => absurd z (by decide)) (fun _ => ?_)
    refine r_iconst K ((nI (4))) (by decide) dX7_isLine_77 ?_
    refine r_goto K 129 dX7_isLine_78 (by decide) ?_
    refine r_istore_n K (lv' := [(3, .int (nI (4))), (2, .int (-1)), (0, .ref (ad 71)), (1, .int (nI (wh)))]) 3 rfl (by decide) rfl dX7_isLine_129 ?_
    refine r_aload_n K 0 rfl rfl dX7_isLine_130 ?_
    refine get_71_16 K fl_RX7_26 dX7_isLine_131 ?_
    refine r_iload_n K 1 rfl rfl dX7_isLine_134 ?_
    refine r_iload_n K 2 rfl rfl dX7_isLine_135 ?_
    refine r_iconst K ((-1)) (by decide) dX7_isLine_136 ?_
    refine r_icmp_ne K 144 dX7_isLine_137 (by decide) (fun z => absurd z (by decide)) (fun _ => ?_)
    refine r_iload_n K 3 rfl rfl dX7_isLine_140 ?_
    refine r_goto K 145 dX7_isLine_141 (by decide) ?_
    refine r_iast K 50 (n := 48) (by decide) rfl rfl (by decide) (by omega) dX7_isLine_145 ?_
    refine r_aload_n K 0 rfl rfl dX7_isLine_146 ?_
    refine get_71_16 K fl_RX7_26 dX7_isLine_147 ?_
    refine r_iload_n K 1 rfl rfl dX7_isLine_150 ?_
    refine r_iald K 50 (n := 48) (by decide) rfl rfl (by decide) (by omega) dX7_isLine_151 ?_
    refine r_topi (b := (nI (4))) (by rw [sA_at]; unfold upd; rw [if_pos rfl]) ?_
    refine r_tableIn K 213 dX7_isLine_152 (by decide) (by decide) rfl (by decide) ?_
    have hs0 : same [50] [17, 18, 19, 20, 21, 23] [] true σ ((s_a).sA 50 (upd ((s_a).A 50) (wh) ((nI (4))))) := same_sA (same_w tsa (by simp) (by simp) (by simp) id) (by simp) _
    have hA0 : ((s_a).sA 50 (upd ((s_a).A 50) (wh) ((nI (4))))).A 50 = upd (σ.A 50) wh (nI 4) := by rw [sA_at, tsa.1 50 (by simp)]
    have hX0 : RepX 16 49 X ((s_a).sA 50 (upd ((s_a).A 50) (wh) ((nI (4))))) := ⟨hXa.1, by rw [sA_A, if_neg (by decide)]; exact hXa.2⟩
    have e17 : ((s_a).sA 50 (upd ((s_a).A 50) (wh) ((nI (4))))).I 17 = nI (teS X p) := t17a
    have e18 : ((s_a).sA 50 (upd ((s_a).A 50) (wh) ((nI (4))))).I 18 = nI (tkS X p) := t18a
    have e23 : ((s_a).sA 50 (upd ((s_a).A 50) (wh) ((nI (4))))).I 23 = nI rc := (tsa.2.1 23 (by simp)).trans g23
    generalize ez : (s_a).sA 50 (upd ((s_a).A 50) (wh) ((nI (4)))) = s0 at hs0 hA0 hX0 e17 e18 e23 ⊢
    have hL0 : mlP X p wh rc 0 s0 s0 := ⟨same_rf _ _ _ _ _, e23, fun j hj => absurd hj (Nat.not_lt_zero j), fun i _ => rfl⟩
    refine r_aload_n K 0 rfl rfl dX7_isLine_213 ?_
    refine r_iload_n K 1 rfl rfl dX7_isLine_214 ?_
    refine r_callV K 71 (As := [.int (nI (wh))]) (rest := []) mv_X7_isWind ml_RX7_151 (m_isWind hXo hX0 (p := p) (wh := wh) (rc := rc) hp e17 e18 e23 hrc (by omega) (by omega)) (by decide) rfl rfl rfl rfl (Nat.le_of_ble_eq_true rfl) ⟨by decide, by decide⟩ dX7_isLine_215 (fun r_z ad_z s_z h_z => ?_)
    obtain ⟨rfl, rfl, zok, zno⟩ := h_z
    refine r_st (st' := [.int (bI (lineR X p rc).1)]) (by simp [lineR, hwd]) ?_
    exact r_zret K (b := (lineR X p rc).1) hr (⟨rfl, rfl, fun z => by have e := (show lineR X p rc = (l1 X (teS X p) 0 5 (l1 X (teS X (teS X p)) 0 23 (l1 X (teS X (teS X (teS X p))) (nvS X (teS X (teS X p))) 23 (l1 X (teS X (teS X (teS X (teS X p)))) 0 7 (l1 X (teS X (teS X (teS X (teS X (teS X p))))) 0 9 (true, teS X (teS X (teS X (teS X (teS X (teS X p))))))))))) from by simp [lineR, hwd]); rw [e] at z ⊢; exact ⟨(zok z).1, by rw [hwd]; exact lnM_of hs0 hA0 (zok z).2⟩, fun z => by have e := (show lineR X p rc = (l1 X (teS X p) 0 5 (l1 X (teS X (teS X p)) 0 23 (l1 X (teS X (teS X (teS X p))) (nvS X (teS X (teS X p))) 23 (l1 X (teS X (teS X (teS X (teS X p)))) 0 7 (l1 X (teS X (teS X (teS X (teS X (teS X p))))) 0 9 (true, teS X (teS X (teS X (teS X (teS X (teS X p))))))))))) from by simp [lineR, hwd]); rw [e] at z ⊢; exact ⟨(zno z).1, same_tr hs0 (zno z).2.1, out_of (w := 0) hA0 (zno z).2.2⟩⟩) dX7_isLine_218
  · have hLv : s_a.L = lN 1095881 := by rw [tLa, (tokV_w X p (i := 5) (by decide)).mpr (word_t (j := 5) (by decide) hwd), codes.2.2.2.2.2.1]
    refine r_aload_n K 0 rfl rfl dX7_isLine_4 ?_
    refine get_71_10 K fl_RX7_91 dX7_isLine_5 ?_
    refine r_topl (b := (lN (1095881))) (hLv) ?_
    refine r_ldc2 K (v := (lN (307058))) kl_RX7_131 dX7_isLine_8 ?_
    refine n_lcmp_ne K 19 (by decide) dX7_isLine_11 dX7_isLine_12 (by decide) (fun _ => ?_) (fun z => absurd z (by decide))
    refine r_aload_n K 0 rfl rfl dX7_isLine_19 ?_
    refine get_71_10 K fl_RX7_91 dX7_isLine_20 ?_
    refine r_topl (b := (lN (1095881))) (hLv) ?_
    refine r_ldc2 K (v := (lN (10986913))) kl_RX7_133 dX7_isLine_23 ?_
    refine n_lcmp_ne K 34 (by decide) dX7_isLine_26 dX7_isLine_27 (by decide) (fun _ => ?_) (fun z => absurd z (by decide))
    refine r_aload_n K 0 rfl rfl dX7_isLine_34 ?_
    refine get_71_10 K fl_RX7_91 dX7_isLine_35 ?_
    refine r_topl (b := (lN (1095881))) (hLv) ?_
    refine r_ldc2 K (v := (lN (247223))) kl_RX7_135 dX7_isLine_38 ?_
    refine n_lcmp_ne K 49 (by decide) dX7_isLine_41 dX7_isLine_42 (by decide) (fun _ => ?_) (fun z => absurd z (by decide))
    refine r_aload_n K 0 rfl rfl dX7_isLine_49 ?_
    refine get_71_10 K fl_RX7_91 dX7_isLine_50 ?_
    refine r_topl (b := (lN (1095881))) (hLv) ?_
    refine r_ldc2 K (v := (lN (3427))) kl_RX7_137 dX7_isLine_53 ?_
    refine n_lcmp_ne K 64 (by decide) dX7_isLine_56 dX7_isLine_57 (by decide) (fun _ => ?_) (fun z => absurd z (by decide))
    refine r_iconst K ((-1)) (by decide) dX7_isLine_64 ?_
    refine r_istore_n K (lv' := [(2, .int (-1)), (0, .ref (ad 71)), (1, .int (nI (wh)))]) 2 rfl (by decide) rfl dX7_isLine_65 ?_
    refine r_aload_n K 0 rfl rfl dX7_isLine_66 ?_
    refine get_71_10 K fl_RX7_91 dX7_isLine_67 ?_
    refine r_topl (b := (lN (1095881))) (hLv) ?_
    refine r_ldc2 K (v := (lN (459652))) kl_RX7_139 dX7_isLine_70 ?_
    refine n_lcmp_ne K 81 (by decide) dX7_isLine_73 dX7_isLine_74 (by decide) (fun _ => ?_) (fun z => absurd z (by decide))
    refine r_aload_n K 0 rfl rfl dX7_isLine_81 ?_
    refine get_71_10 K fl_RX7_91 dX7_isLine_82 ?_
    refine r_topl (b := (lN (1095881))) (hLv) ?_
    refine r_ldc2 K (v := (lN (1095881))) kl_RX7_141 dX7_isLine_85 ?_
    refine n_lcmp_ne K 96 (by decide) dX7_isLine_88 dX7_isLine_89 (by decide) (fun z => absurd z (by decide)) (fun _ => ?_)
    refine r_iconst K ((nI (5))) (by decide) dX7_isLine_92 ?_
    refine r_goto K 129 dX7_isLine_93 (by decide) ?_
    refine r_istore_n K (lv' := [(3, .int (nI (5))), (2, .int (-1)), (0, .ref (ad 71)), (1, .int (nI (wh)))]) 3 rfl (by decide) rfl dX7_isLine_129 ?_
    refine r_aload_n K 0 rfl rfl dX7_isLine_130 ?_
    refine get_71_16 K fl_RX7_26 dX7_isLine_131 ?_
    refine r_iload_n K 1 rfl rfl dX7_isLine_134 ?_
    refine r_iload_n K 2 rfl rfl dX7_isLine_135 ?_
    refine r_iconst K ((-1)) (by decide) dX7_isLine_136 ?_
    refine r_icmp_ne K 144 dX7_isLine_137 (by decide) (fun z => absurd z (by decide)) (fun _ => ?_)
    refine r_iload_n K 3 rfl rfl dX7_isLine_140 ?_
    refine r_goto K 145 dX7_isLine_141 (by decide) ?_
    refine r_iast K 50 (n := 48) (by decide) rfl rfl (by decide) (by omega) dX7_isLine_145 ?_
    refine r_aload_n K 0 rfl rfl dX7_isLine_146 ?_
    refine get_71_16 K fl_RX7_26 dX7_isLine_147 ?_
    refine r_iload_n K 1 rfl rfl dX7_isLine_150 ?_
    refine r_iald K 50 (n := 48) (by decide) rfl rfl (by decide) (by omega) dX7_isLine_151 ?_
    refine r_topi (b := (nI (5))) (by rw [sA_at]; unfold upd; rw [if_pos rfl]) ?_
    refine r_tableIn K 219 dX7_isLine_152 (by decide) (by decide) rfl (by decide) ?_
    have hs0 : same [50] [17, 18, 19, 20, 21, 23] [] true σ ((s_a).sA 50 (upd ((s_a).A 50) (wh) ((nI (5))))) := same_sA (same_w tsa (by simp) (by simp) (by simp) id) (by simp) _
    have hA0 : ((s_a).sA 50 (upd ((s_a).A 50) (wh) ((nI (5))))).A 50 = upd (σ.A 50) wh (nI 5) := by rw [sA_at, tsa.1 50 (by simp)]
    have hX0 : RepX 16 49 X ((s_a).sA 50 (upd ((s_a).A 50) (wh) ((nI (5))))) := ⟨hXa.1, by rw [sA_A, if_neg (by decide)]; exact hXa.2⟩
    have e17 : ((s_a).sA 50 (upd ((s_a).A 50) (wh) ((nI (5))))).I 17 = nI (teS X p) := t17a
    have e18 : ((s_a).sA 50 (upd ((s_a).A 50) (wh) ((nI (5))))).I 18 = nI (tkS X p) := t18a
    have e23 : ((s_a).sA 50 (upd ((s_a).A 50) (wh) ((nI (5))))).I 23 = nI rc := (tsa.2.1 23 (by simp)).trans g23
    generalize ez : (s_a).sA 50 (upd ((s_a).A 50) (wh) ((nI (5)))) = s0 at hs0 hA0 hX0 e17 e18 e23 ⊢
    have hL0 : mlP X p wh rc 0 s0 s0 := ⟨same_rf _ _ _ _ _, e23, fun j hj => absurd hj (Nat.not_lt_zero j), fun i _ => rfl⟩
    refine r_aload_n K 0 rfl rfl dX7_isLine_219 ?_
    refine r_iload_n K 1 rfl rfl dX7_isLine_220 ?_
    refine r_iconst K ((nI (1))) (by decide) dX7_isLine_221 ?_
    refine r_iadd K dX7_isLine_222 ?_
    refine r_topi (nI_add _ _) ?_
    refine r_iconst K ((nI (0))) (by decide) dX7_isLine_223 ?_
    refine r_iconst K ((nI (3))) (by decide) dX7_isLine_224 ?_
    refine r_callV K 71 (As := [.int (nI (wh + 1)), .int (nI (0)), .int (nI (3))]) (rest := []) mv_X7_isNumber ml_RX7_128 (m_isNumber hXo hX0 (p := teS X p) (wh := wh + 1) (lo := 0) (hi := 3) q1 e17 (by omega) (by decide) (by decide)) (by decide) rfl rfl rfl rfl (Nat.le_of_ble_eq_true rfl) ⟨by decide, by decide⟩ dX7_isLine_225 (fun r_n1 ad_n1 s_n1 h_n1 => ?_)
    obtain ⟨rfl, rfl, ns1, n171, nk1, nf1⟩ := h_n1
    refine r_st (st' := [.int (bI (okN X (teS X p) 0 3))]) rfl ?_
    have hXn1 : RepX 16 49 X s_n1 := RepX_same hX0 ns1 (by simp) (by simp)
    refine b_if_eq K 283 dX7_isLine_228 (by decide) (fun h228 => ?_) (fun h228 => ?_)
    · refine r_iconst K ((nI (0))) (by decide) dX7_isLine_283 ?_
      exact r_zret K (b := false) hr (⟨by simp [lineR, l1, l2, hwd, *], rfl, fun z => by simp [lineR, l1, l2, hwd, *] at z, fun _ => ⟨by rw [(nf1 h228).1]; simp [lineR, l1, l2, hwd, *], same_tr hs0 (mlP_f hL0 ns1 (nf1 h228).2).1, out_of (w := 0) hA0 (mlP_f hL0 ns1 (nf1 h228).2).2.2.2⟩⟩) dX7_isLine_284
    · have hL1 := mlP_s hL0 (by decide) ns1 (nk1 h228) (rfl)
      refine r_aload_n K 0 rfl rfl dX7_isLine_231 ?_
      refine r_iload_n K 1 rfl rfl dX7_isLine_232 ?_
      refine r_iconst K ((nI (2))) (by decide) dX7_isLine_233 ?_
      refine r_iadd K dX7_isLine_234 ?_
      refine r_topi (nI_add _ _) ?_
      refine r_iconst K ((nI (1))) (by decide) dX7_isLine_235 ?_
      refine r_bipush K ((nI (60))) (by decide) dX7_isLine_236 ?_
      refine r_callV K 71 (As := [.int (nI (wh + 2)), .int (nI (1)), .int (nI (60))]) (rest := []) mv_X7_isNumber ml_RX7_128 (m_isNumber hXo hXn1 (p := teS X (teS X p)) (wh := wh + 2) (lo := 1) (hi := 60) q2 n171 (by omega) (by decide) (by decide)) (by decide) rfl rfl rfl rfl (Nat.le_of_ble_eq_true rfl) ⟨by decide, by decide⟩ dX7_isLine_238 (fun r_n2 ad_n2 s_n2 h_n2 => ?_)
      obtain ⟨rfl, rfl, ns2, n172, nk2, nf2⟩ := h_n2
      refine r_st (st' := [.int (bI (okN X (teS X (teS X p)) 1 60))]) rfl ?_
      have hXn2 : RepX 16 49 X s_n2 := RepX_same hXn1 ns2 (by simp) (by simp)
      refine b_if_eq K 283 dX7_isLine_241 (by decide) (fun h241 => ?_) (fun h241 => ?_)
      · refine r_iconst K ((nI (0))) (by decide) dX7_isLine_283 ?_
        exact r_zret K (b := false) hr (⟨by simp [lineR, l1, l2, hwd, *], rfl, fun z => by simp [lineR, l1, l2, hwd, *] at z, fun _ => ⟨by rw [(nf2 h241).1]; simp [lineR, l1, l2, hwd, *], same_tr hs0 (mlP_f hL1 ns2 (nf2 h241).2).1, out_of (w := 0) hA0 (mlP_f hL1 ns2 (nf2 h241).2).2.2.2⟩⟩) dX7_isLine_284
      · have hL2 := mlP_s hL1 (by decide) ns2 (nk2 h241) (rfl)
        refine r_aload_n K 0 rfl rfl dX7_isLine_244 ?_
        refine r_iload_n K 1 rfl rfl dX7_isLine_245 ?_
        refine r_iconst K ((nI (3))) (by decide) dX7_isLine_246 ?_
        refine r_iadd K dX7_isLine_247 ?_
        refine r_topi (nI_add _ _) ?_
        refine r_iconst K ((nI (1))) (by decide) dX7_isLine_248 ?_
        refine r_iconst K ((nI (5))) (by decide) dX7_isLine_249 ?_
        refine r_callV K 71 (As := [.int (nI (wh + 3)), .int (nI (1)), .int (nI (5))]) (rest := []) mv_X7_isNumber ml_RX7_128 (m_isNumber hXo hXn2 (p := teS X (teS X (teS X p))) (wh := wh + 3) (lo := 1) (hi := 5) q3 n172 (by omega) (by decide) (by decide)) (by decide) rfl rfl rfl rfl (Nat.le_of_ble_eq_true rfl) ⟨by decide, by decide⟩ dX7_isLine_250 (fun r_n3 ad_n3 s_n3 h_n3 => ?_)
        obtain ⟨rfl, rfl, ns3, n173, nk3, nf3⟩ := h_n3
        refine r_st (st' := [.int (bI (okN X (teS X (teS X (teS X p))) 1 5))]) rfl ?_
        have hXn3 : RepX 16 49 X s_n3 := RepX_same hXn2 ns3 (by simp) (by simp)
        refine b_if_eq K 283 dX7_isLine_253 (by decide) (fun h253 => ?_) (fun h253 => ?_)
        · refine r_iconst K ((nI (0))) (by decide) dX7_isLine_283 ?_
          exact r_zret K (b := false) hr (⟨by simp [lineR, l1, l2, hwd, *], rfl, fun z => by simp [lineR, l1, l2, hwd, *] at z, fun _ => ⟨by rw [(nf3 h253).1]; simp [lineR, l1, l2, hwd, *], same_tr hs0 (mlP_f hL2 ns3 (nf3 h253).2).1, out_of (w := 0) hA0 (mlP_f hL2 ns3 (nf3 h253).2).2.2.2⟩⟩) dX7_isLine_284
        · have hL3 := mlP_s hL2 (by decide) ns3 (nk3 h253) (rfl)
          refine r_aload_n K 0 rfl rfl dX7_isLine_256 ?_
          refine r_iload_n K 1 rfl rfl dX7_isLine_257 ?_
          refine r_iconst K ((nI (4))) (by decide) dX7_isLine_258 ?_
          refine r_iadd K dX7_isLine_259 ?_
          refine r_topi (nI_add _ _) ?_
          refine r_callV K 71 (As := [.int (nI (wh + 4))]) (rest := []) mv_X7_isKite ml_RX7_154 (m_isKite hXo hXn3 (p := teS X (teS X (teS X (teS X p)))) (wh := wh + 4) q4 n173 (by omega)) (by decide) rfl rfl rfl rfl (Nat.le_of_ble_eq_true rfl) ⟨by decide, by decide⟩ dX7_isLine_260 (fun r_n4 ad_n4 s_n4 h_n4 => ?_)
          obtain ⟨rfl, rfl, ns4, n174, nk4, nf4⟩ := h_n4
          refine r_st (st' := [.int (bI (okK X (teS X (teS X (teS X (teS X p))))))]) rfl ?_
          have hXn4 : RepX 16 49 X s_n4 := RepX_same hXn3 ns4 (by simp) (by simp)
          refine b_if_eq K 283 dX7_isLine_263 (by decide) (fun h263 => ?_) (fun h263 => ?_)
          · refine r_iconst K ((nI (0))) (by decide) dX7_isLine_283 ?_
            exact r_zret K (b := false) hr (⟨by simp [lineR, l1, l2, hwd, *], rfl, fun z => by simp [lineR, l1, l2, hwd, *] at z, fun _ => ⟨by rw [(nf4 h263).1]; simp [lineR, l1, l2, hwd, *], same_tr hs0 (mlP_f hL3 ns4 (nf4 h263).2).1, out_of (w := 0) hA0 (mlP_f hL3 ns4 (nf4 h263).2).2.2.2⟩⟩) dX7_isLine_284
          · have hL4 := mlP_s hL3 (by decide) ns4 (nk4 h263) (by show _ = (if wordS X p = 5 then _ else _); rw [if_pos hwd])
            refine r_aload_n K 0 rfl rfl dX7_isLine_266 ?_
            refine r_iload_n K 1 rfl rfl dX7_isLine_267 ?_
            refine r_iconst K ((nI (5))) (by decide) dX7_isLine_268 ?_
            refine r_iadd K dX7_isLine_269 ?_
            refine r_topi (nI_add _ _) ?_
            refine r_iconst K ((nI (0))) (by decide) dX7_isLine_270 ?_
            refine r_bipush K ((nI (99))) (by decide) dX7_isLine_271 ?_
            refine r_callV K 71 (As := [.int (nI (wh + 5)), .int (nI (0)), .int (nI (99))]) (rest := []) mv_X7_isNumber ml_RX7_128 (m_isNumber hXo hXn4 (p := teS X (teS X (teS X (teS X (teS X p))))) (wh := wh + 5) (lo := 0) (hi := 99) q5 n174 (by omega) (by decide) (by decide)) (by decide) rfl rfl rfl rfl (Nat.le_of_ble_eq_true rfl) ⟨by decide, by decide⟩ dX7_isLine_273 (fun r_n5 ad_n5 s_n5 h_n5 => ?_)
            obtain ⟨rfl, rfl, ns5, n175, nk5, nf5⟩ := h_n5
            refine r_st (st' := [.int (bI (okN X (teS X (teS X (teS X (teS X (teS X p))))) 0 99))]) rfl ?_
            have hXn5 : RepX 16 49 X s_n5 := RepX_same hXn4 ns5 (by simp) (by simp)
            refine b_if_eq K 283 dX7_isLine_276 (by decide) (fun h276 => ?_) (fun h276 => ?_)
            · refine r_iconst K ((nI (0))) (by decide) dX7_isLine_283 ?_
              exact r_zret K (b := false) hr (⟨by simp [lineR, l1, l2, hwd, *], rfl, fun z => by simp [lineR, l1, l2, hwd, *] at z, fun _ => ⟨by rw [(nf5 h276).1]; simp [lineR, l1, l2, hwd, *], same_tr hs0 (mlP_f hL4 ns5 (nf5 h276).2).1, out_of (w := 0) hA0 (mlP_f hL4 ns5 (nf5 h276).2).2.2.2⟩⟩) dX7_isLine_284
            · have hL5 := mlP_s hL4 (by decide) ns5 (nk5 h276) (rfl)
              refine r_iconst K ((nI (1))) (by decide) dX7_isLine_279 ?_
              refine r_goto K 284 dX7_isLine_280 (by decide) ?_
              exact r_zret K (b := true) hr (⟨by simp [lineR, l1, l2, hwd, *], rfl, fun _ => ⟨by rw [n175]; simp [lineR, l1, l2, hwd, *], by rw [hwd]; exact lnM_of hs0 hA0 hL5⟩, fun z => by simp [lineR, l1, l2, hwd, *] at z⟩) dX7_isLine_284
  · have hLv : s_a.L = lN 385240 := by rw [tLa, (tokV_w X p (i := 6) (by decide)).mpr (word_t (j := 6) (by decide) hwd), codes.2.2.2.2.2.2.1]
    refine r_aload_n K 0 rfl rfl dX7_isLine_4 ?_
    refine get_71_10 K fl_RX7_91 dX7_isLine_5 ?_
    refine r_topl (b := (lN (385240))) (hLv) ?_
    refine r_ldc2 K (v := (lN (307058))) kl_RX7_131 dX7_isLine_8 ?_
    refine n_lcmp_ne K 19 (by decide) dX7_isLine_11 dX7_isLine_12 (by decide) (fun _ => ?_) (fun z => absurd z (by decide))
    refine r_aload_n K 0 rfl rfl dX7_isLine_19 ?_
    refine get_71_10 K fl_RX7_91 dX7_isLine_20 ?_
    refine r_topl (b := (lN (385240))) (hLv) ?_
    refine r_ldc2 K (v := (lN (10986913))) kl_RX7_133 dX7_isLine_23 ?_
    refine n_lcmp_ne K 34 (by decide) dX7_isLine_26 dX7_isLine_27 (by decide) (fun _ => ?_) (fun z => absurd z (by decide))
    refine r_aload_n K 0 rfl rfl dX7_isLine_34 ?_
    refine get_71_10 K fl_RX7_91 dX7_isLine_35 ?_
    refine r_topl (b := (lN (385240))) (hLv) ?_
    refine r_ldc2 K (v := (lN (247223))) kl_RX7_135 dX7_isLine_38 ?_
    refine n_lcmp_ne K 49 (by decide) dX7_isLine_41 dX7_isLine_42 (by decide) (fun _ => ?_) (fun z => absurd z (by decide))
    refine r_aload_n K 0 rfl rfl dX7_isLine_49 ?_
    refine get_71_10 K fl_RX7_91 dX7_isLine_50 ?_
    refine r_topl (b := (lN (385240))) (hLv) ?_
    refine r_ldc2 K (v := (lN (3427))) kl_RX7_137 dX7_isLine_53 ?_
    refine n_lcmp_ne K 64 (by decide) dX7_isLine_56 dX7_isLine_57 (by decide) (fun _ => ?_) (fun z => absurd z (by decide))
    refine r_iconst K ((-1)) (by decide) dX7_isLine_64 ?_
    refine r_istore_n K (lv' := [(2, .int (-1)), (0, .ref (ad 71)), (1, .int (nI (wh)))]) 2 rfl (by decide) rfl dX7_isLine_65 ?_
    refine r_aload_n K 0 rfl rfl dX7_isLine_66 ?_
    refine get_71_10 K fl_RX7_91 dX7_isLine_67 ?_
    refine r_topl (b := (lN (385240))) (hLv) ?_
    refine r_ldc2 K (v := (lN (459652))) kl_RX7_139 dX7_isLine_70 ?_
    refine n_lcmp_ne K 81 (by decide) dX7_isLine_73 dX7_isLine_74 (by decide) (fun _ => ?_) (fun z => absurd z (by decide))
    refine r_aload_n K 0 rfl rfl dX7_isLine_81 ?_
    refine get_71_10 K fl_RX7_91 dX7_isLine_82 ?_
    refine r_topl (b := (lN (385240))) (hLv) ?_
    refine r_ldc2 K (v := (lN (1095881))) kl_RX7_141 dX7_isLine_85 ?_
    refine n_lcmp_ne K 96 (by decide) dX7_isLine_88 dX7_isLine_89 (by decide) (fun _ => ?_) (fun z => absurd z (by decide))
    refine r_aload_n K 0 rfl rfl dX7_isLine_96 ?_
    refine get_71_10 K fl_RX7_91 dX7_isLine_97 ?_
    refine r_topl (b := (lN (385240))) (hLv) ?_
    refine r_ldc2 K (v := (lN (385240))) kl_RX7_143 dX7_isLine_100 ?_
    refine n_lcmp_ne K 112 (by decide) dX7_isLine_103 dX7_isLine_104 (by decide) (fun z => absurd z (by decide)) (fun _ => ?_)
    refine r_bipush K ((nI (6))) (by decide) dX7_isLine_107 ?_
    refine r_goto K 129 dX7_isLine_109 (by decide) ?_
    refine r_istore_n K (lv' := [(3, .int (nI (6))), (2, .int (-1)), (0, .ref (ad 71)), (1, .int (nI (wh)))]) 3 rfl (by decide) rfl dX7_isLine_129 ?_
    refine r_aload_n K 0 rfl rfl dX7_isLine_130 ?_
    refine get_71_16 K fl_RX7_26 dX7_isLine_131 ?_
    refine r_iload_n K 1 rfl rfl dX7_isLine_134 ?_
    refine r_iload_n K 2 rfl rfl dX7_isLine_135 ?_
    refine r_iconst K ((-1)) (by decide) dX7_isLine_136 ?_
    refine r_icmp_ne K 144 dX7_isLine_137 (by decide) (fun z => absurd z (by decide)) (fun _ => ?_)
    refine r_iload_n K 3 rfl rfl dX7_isLine_140 ?_
    refine r_goto K 145 dX7_isLine_141 (by decide) ?_
    refine r_iast K 50 (n := 48) (by decide) rfl rfl (by decide) (by omega) dX7_isLine_145 ?_
    refine r_aload_n K 0 rfl rfl dX7_isLine_146 ?_
    refine get_71_16 K fl_RX7_26 dX7_isLine_147 ?_
    refine r_iload_n K 1 rfl rfl dX7_isLine_150 ?_
    refine r_iald K 50 (n := 48) (by decide) rfl rfl (by decide) (by omega) dX7_isLine_151 ?_
    refine r_topi (b := (nI (6))) (by rw [sA_at]; unfold upd; rw [if_pos rfl]) ?_
    refine r_tableIn K 285 dX7_isLine_152 (by decide) (by decide) rfl (by decide) ?_
    have hs0 : same [50] [17, 18, 19, 20, 21, 23] [] true σ ((s_a).sA 50 (upd ((s_a).A 50) (wh) ((nI (6))))) := same_sA (same_w tsa (by simp) (by simp) (by simp) id) (by simp) _
    have hA0 : ((s_a).sA 50 (upd ((s_a).A 50) (wh) ((nI (6))))).A 50 = upd (σ.A 50) wh (nI 6) := by rw [sA_at, tsa.1 50 (by simp)]
    have hX0 : RepX 16 49 X ((s_a).sA 50 (upd ((s_a).A 50) (wh) ((nI (6))))) := ⟨hXa.1, by rw [sA_A, if_neg (by decide)]; exact hXa.2⟩
    have e17 : ((s_a).sA 50 (upd ((s_a).A 50) (wh) ((nI (6))))).I 17 = nI (teS X p) := t17a
    have e18 : ((s_a).sA 50 (upd ((s_a).A 50) (wh) ((nI (6))))).I 18 = nI (tkS X p) := t18a
    have e23 : ((s_a).sA 50 (upd ((s_a).A 50) (wh) ((nI (6))))).I 23 = nI rc := (tsa.2.1 23 (by simp)).trans g23
    generalize ez : (s_a).sA 50 (upd ((s_a).A 50) (wh) ((nI (6)))) = s0 at hs0 hA0 hX0 e17 e18 e23 ⊢
    have hL0 : mlP X p wh rc 0 s0 s0 := ⟨same_rf _ _ _ _ _, e23, fun j hj => absurd hj (Nat.not_lt_zero j), fun i _ => rfl⟩
    refine r_aload_n K 0 rfl rfl dX7_isLine_285 ?_
    refine r_iload_n K 1 rfl rfl dX7_isLine_286 ?_
    refine r_iconst K ((nI (1))) (by decide) dX7_isLine_287 ?_
    refine r_iadd K dX7_isLine_288 ?_
    refine r_topi (nI_add _ _) ?_
    refine r_iconst K ((nI (0))) (by decide) dX7_isLine_289 ?_
    refine r_iconst K ((nI (3))) (by decide) dX7_isLine_290 ?_
    refine r_callV K 71 (As := [.int (nI (wh + 1)), .int (nI (0)), .int (nI (3))]) (rest := []) mv_X7_isNumber ml_RX7_128 (m_isNumber hXo hX0 (p := teS X p) (wh := wh + 1) (lo := 0) (hi := 3) q1 e17 (by omega) (by decide) (by decide)) (by decide) rfl rfl rfl rfl (Nat.le_of_ble_eq_true rfl) ⟨by decide, by decide⟩ dX7_isLine_291 (fun r_n1 ad_n1 s_n1 h_n1 => ?_)
    obtain ⟨rfl, rfl, ns1, n171, nk1, nf1⟩ := h_n1
    refine r_st (st' := [.int (bI (okN X (teS X p) 0 3))]) rfl ?_
    have hXn1 : RepX 16 49 X s_n1 := RepX_same hX0 ns1 (by simp) (by simp)
    rcases Bool.eq_false_or_eq_true (okN X (teS X p) 0 3) with hz | hz
    · refine r_topi (b := bI true) (by rw [hz]) ?_
      have hL1 := mlP_s hL0 (by decide) ns1 (nk1 hz) rfl
      exact r_zret K (b := true) hr (⟨by simp [lineR, l1, l2, hwd, *], rfl, fun _ => ⟨by rw [n171]; simp [lineR, l1, l2, hwd, *], by rw [hwd]; exact lnM_of hs0 hA0 hL1⟩, fun z => by simp [lineR, l1, l2, hwd, *] at z⟩) dX7_isLine_294
    · refine r_topi (b := bI false) (by rw [hz]) ?_
      exact r_zret K (b := false) hr (⟨by simp [lineR, l1, l2, hwd, *], rfl, fun z => by simp [lineR, l1, l2, hwd, *] at z, fun _ => ⟨by rw [(nf1 hz).1]; simp [lineR, l1, l2, hwd, *], same_tr hs0 (mlP_f hL0 ns1 (nf1 hz).2).1, out_of (w := 0) hA0 (mlP_f hL0 ns1 (nf1 hz).2).2.2.2⟩⟩) dX7_isLine_294
  · have hLv : s_a.L = lN 10497936 := by rw [tLa, (tokV_w X p (i := 7) (by decide)).mpr (word_t (j := 7) (by decide) hwd), codes.2.2.2.2.2.2.2.1]
    refine r_aload_n K 0 rfl rfl dX7_isLine_4 ?_
    refine get_71_10 K fl_RX7_91 dX7_isLine_5 ?_
    refine r_topl (b := (lN (10497936))) (hLv) ?_
    refine r_ldc2 K (v := (lN (307058))) kl_RX7_131 dX7_isLine_8 ?_
    refine n_lcmp_ne K 19 (by decide) dX7_isLine_11 dX7_isLine_12 (by decide) (fun _ => ?_) (fun z => absurd z (by decide))
    refine r_aload_n K 0 rfl rfl dX7_isLine_19 ?_
    refine get_71_10 K fl_RX7_91 dX7_isLine_20 ?_
    refine r_topl (b := (lN (10497936))) (hLv) ?_
    refine r_ldc2 K (v := (lN (10986913))) kl_RX7_133 dX7_isLine_23 ?_
    refine n_lcmp_ne K 34 (by decide) dX7_isLine_26 dX7_isLine_27 (by decide) (fun _ => ?_) (fun z => absurd z (by decide))
    refine r_aload_n K 0 rfl rfl dX7_isLine_34 ?_
    refine get_71_10 K fl_RX7_91 dX7_isLine_35 ?_
    refine r_topl (b := (lN (10497936))) (hLv) ?_
    refine r_ldc2 K (v := (lN (247223))) kl_RX7_135 dX7_isLine_38 ?_
    refine n_lcmp_ne K 49 (by decide) dX7_isLine_41 dX7_isLine_42 (by decide) (fun _ => ?_) (fun z => absurd z (by decide))
    refine r_aload_n K 0 rfl rfl dX7_isLine_49 ?_
    refine get_71_10 K fl_RX7_91 dX7_isLine_50 ?_
    refine r_topl (b := (lN (10497936))) (hLv) ?_
    refine r_ldc2 K (v := (lN (3427))) kl_RX7_137 dX7_isLine_53 ?_
    refine n_lcmp_ne K 64 (by decide) dX7_isLine_56 dX7_isLine_57 (by decide) (fun _ => ?_) (fun z => absurd z (by decide))
    refine r_iconst K ((-1)) (by decide) dX7_isLine_64 ?_
    refine r_istore_n K (lv' := [(2, .int (-1)), (0, .ref (ad 71)), (1, .int (nI (wh)))]) 2 rfl (by decide) rfl dX7_isLine_65 ?_
    refine r_aload_n K 0 rfl rfl dX7_isLine_66 ?_
    refine get_71_10 K fl_RX7_91 dX7_isLine_67 ?_
    refine r_topl (b := (lN (10497936))) (hLv) ?_
    refine r_ldc2 K (v := (lN (459652))) kl_RX7_139 dX7_isLine_70 ?_
    refine n_lcmp_ne K 81 (by decide) dX7_isLine_73 dX7_isLine_74 (by decide) (fun _ => ?_) (fun z => absurd z (by decide))
    refine r_aload_n K 0 rfl rfl dX7_isLine_81 ?_
    refine get_71_10 K fl_RX7_91 dX7_isLine_82 ?_
    refine r_topl (b := (lN (10497936))) (hLv) ?_
    refine r_ldc2 K (v := (lN (1095881))) kl_RX7_141 dX7_isLine_85 ?_
    refine n_lcmp_ne K 96 (by decide) dX7_isLine_88 dX7_isLine_89 (by decide) (fun _ => ?_) (fun z => absurd z (by decide))
    refine r_aload_n K 0 rfl rfl dX7_isLine_96 ?_
    refine get_71_10 K fl_RX7_91 dX7_isLine_97 ?_
    refine r_topl (b := (lN (10497936))) (hLv) ?_
    refine r_ldc2 K (v := (lN (385240))) kl_RX7_143 dX7_isLine_100 ?_
    refine n_lcmp_ne K 112 (by decide) dX7_isLine_103 dX7_isLine_104 (by decide) (fun _ => ?_) (fun z => absurd z (by decide))
    refine r_aload_n K 0 rfl rfl dX7_isLine_112 ?_
    refine get_71_10 K fl_RX7_91 dX7_isLine_113 ?_
    refine r_topl (b := (lN (10497936))) (hLv) ?_
    refine r_ldc2 K (v := (lN (10497936))) kl_RX7_145 dX7_isLine_116 ?_
    refine n_lcmp_ne K 128 (by decide) dX7_isLine_119 dX7_isLine_120 (by decide) (fun z => absurd z (by decide)) (fun _ => ?_)
    refine r_bipush K ((nI (7))) (by decide) dX7_isLine_123 ?_
    refine r_goto K 129 dX7_isLine_125 (by decide) ?_
    refine r_istore_n K (lv' := [(3, .int (nI (7))), (2, .int (-1)), (0, .ref (ad 71)), (1, .int (nI (wh)))]) 3 rfl (by decide) rfl dX7_isLine_129 ?_
    refine r_aload_n K 0 rfl rfl dX7_isLine_130 ?_
    refine get_71_16 K fl_RX7_26 dX7_isLine_131 ?_
    refine r_iload_n K 1 rfl rfl dX7_isLine_134 ?_
    refine r_iload_n K 2 rfl rfl dX7_isLine_135 ?_
    refine r_iconst K ((-1)) (by decide) dX7_isLine_136 ?_
    refine r_icmp_ne K 144 dX7_isLine_137 (by decide) (fun z => absurd z (by decide)) (fun _ => ?_)
    refine r_iload_n K 3 rfl rfl dX7_isLine_140 ?_
    refine r_goto K 145 dX7_isLine_141 (by decide) ?_
    refine r_iast K 50 (n := 48) (by decide) rfl rfl (by decide) (by omega) dX7_isLine_145 ?_
    refine r_aload_n K 0 rfl rfl dX7_isLine_146 ?_
    refine get_71_16 K fl_RX7_26 dX7_isLine_147 ?_
    refine r_iload_n K 1 rfl rfl dX7_isLine_150 ?_
    refine r_iald K 50 (n := 48) (by decide) rfl rfl (by decide) (by omega) dX7_isLine_151 ?_
    refine r_topi (b := (nI (7))) (by rw [sA_at]; unfold upd; rw [if_pos rfl]) ?_
    refine r_tableIn K 295 dX7_isLine_152 (by decide) (by decide) rfl (by decide) ?_
    have hs0 : same [50] [17, 18, 19, 20, 21, 23] [] true σ ((s_a).sA 50 (upd ((s_a).A 50) (wh) ((nI (7))))) := same_sA (same_w tsa (by simp) (by simp) (by simp) id) (by simp) _
    have hA0 : ((s_a).sA 50 (upd ((s_a).A 50) (wh) ((nI (7))))).A 50 = upd (σ.A 50) wh (nI 7) := by rw [sA_at, tsa.1 50 (by simp)]
    have hX0 : RepX 16 49 X ((s_a).sA 50 (upd ((s_a).A 50) (wh) ((nI (7))))) := ⟨hXa.1, by rw [sA_A, if_neg (by decide)]; exact hXa.2⟩
    have e17 : ((s_a).sA 50 (upd ((s_a).A 50) (wh) ((nI (7))))).I 17 = nI (teS X p) := t17a
    have e18 : ((s_a).sA 50 (upd ((s_a).A 50) (wh) ((nI (7))))).I 18 = nI (tkS X p) := t18a
    have e23 : ((s_a).sA 50 (upd ((s_a).A 50) (wh) ((nI (7))))).I 23 = nI rc := (tsa.2.1 23 (by simp)).trans g23
    generalize ez : (s_a).sA 50 (upd ((s_a).A 50) (wh) ((nI (7)))) = s0 at hs0 hA0 hX0 e17 e18 e23 ⊢
    have hL0 : mlP X p wh rc 0 s0 s0 := ⟨same_rf _ _ _ _ _, e23, fun j hj => absurd hj (Nat.not_lt_zero j), fun i _ => rfl⟩
    refine r_aload_n K 0 rfl rfl dX7_isLine_295 ?_
    refine r_iload_n K 1 rfl rfl dX7_isLine_296 ?_
    refine r_iconst K ((nI (1))) (by decide) dX7_isLine_297 ?_
    refine r_iadd K dX7_isLine_298 ?_
    refine r_topi (nI_add _ _) ?_
    refine r_iconst K ((nI (0))) (by decide) dX7_isLine_299 ?_
    refine r_bipush K ((nI (9))) (by decide) dX7_isLine_300 ?_
    refine r_callV K 71 (As := [.int (nI (wh + 1)), .int (nI (0)), .int (nI (9))]) (rest := []) mv_X7_isNumber ml_RX7_128 (m_isNumber hXo hX0 (p := teS X p) (wh := wh + 1) (lo := 0) (hi := 9) q1 e17 (by omega) (by decide) (by decide)) (by decide) rfl rfl rfl rfl (Nat.le_of_ble_eq_true rfl) ⟨by decide, by decide⟩ dX7_isLine_302 (fun r_n1 ad_n1 s_n1 h_n1 => ?_)
    obtain ⟨rfl, rfl, ns1, n171, nk1, nf1⟩ := h_n1
    refine r_st (st' := [.int (bI (okN X (teS X p) 0 9))]) rfl ?_
    have hXn1 : RepX 16 49 X s_n1 := RepX_same hX0 ns1 (by simp) (by simp)
    rcases Bool.eq_false_or_eq_true (okN X (teS X p) 0 9) with hz | hz
    · refine r_topi (b := bI true) (by rw [hz]) ?_
      have hL1 := mlP_s hL0 (by decide) ns1 (nk1 hz) rfl
      exact r_zret K (b := true) hr (⟨by simp [lineR, l1, l2, hwd, *], rfl, fun _ => ⟨by rw [n171]; simp [lineR, l1, l2, hwd, *], by rw [hwd]; exact lnM_of hs0 hA0 hL1⟩, fun z => by simp [lineR, l1, l2, hwd, *] at z⟩) dX7_isLine_305
    · refine r_topi (b := bI false) (by rw [hz]) ?_
      exact r_zret K (b := false) hr (⟨by simp [lineR, l1, l2, hwd, *], rfl, fun z => by simp [lineR, l1, l2, hwd, *] at z, fun _ => ⟨by rw [(nf1 hz).1]; simp [lineR, l1, l2, hwd, *], same_tr hs0 (mlP_f hL0 ns1 (nf1 hz).2).1, out_of (w := 0) hA0 (mlP_f hL0 ns1 (nf1 hz).2).2.2.2⟩⟩) dX7_isLine_305
  · have hno := word_no hwd
    refine r_aload_n K 0 rfl rfl dX7_isLine_4 ?_
    refine get_71_10 K fl_RX7_91 dX7_isLine_5 ?_
    refine r_ldc2 K (v := (lN (307058))) kl_RX7_131 dX7_isLine_8 ?_
    refine r_lcmp_ne K 19 trivial dX7_isLine_11 dX7_isLine_12 (by decide) (fun _ => ?_) (fun z => absurd z (fun (z : s_a.L = lN 307058) => hno 0 (by decide) ((tokV_w X p (by decide)).mp (by rw [← tLa, z, codes.1]))))
    refine r_aload_n K 0 rfl rfl dX7_isLine_19 ?_
    refine get_71_10 K fl_RX7_91 dX7_isLine_20 ?_
    refine r_ldc2 K (v := (lN (10986913))) kl_RX7_133 dX7_isLine_23 ?_
    refine r_lcmp_ne K 34 trivial dX7_isLine_26 dX7_isLine_27 (by decide) (fun _ => ?_) (fun z => absurd z (fun (z : s_a.L = lN 10986913) => hno 1 (by decide) ((tokV_w X p (by decide)).mp (by rw [← tLa, z, codes.2.1]))))
    refine r_aload_n K 0 rfl rfl dX7_isLine_34 ?_
    refine get_71_10 K fl_RX7_91 dX7_isLine_35 ?_
    refine r_ldc2 K (v := (lN (247223))) kl_RX7_135 dX7_isLine_38 ?_
    refine r_lcmp_ne K 49 trivial dX7_isLine_41 dX7_isLine_42 (by decide) (fun _ => ?_) (fun z => absurd z (fun (z : s_a.L = lN 247223) => hno 2 (by decide) ((tokV_w X p (by decide)).mp (by rw [← tLa, z, codes.2.2.1]))))
    refine r_aload_n K 0 rfl rfl dX7_isLine_49 ?_
    refine get_71_10 K fl_RX7_91 dX7_isLine_50 ?_
    refine r_ldc2 K (v := (lN (3427))) kl_RX7_137 dX7_isLine_53 ?_
    refine r_lcmp_ne K 64 trivial dX7_isLine_56 dX7_isLine_57 (by decide) (fun _ => ?_) (fun z => absurd z (fun (z : s_a.L = lN 3427) => hno 3 (by decide) ((tokV_w X p (by decide)).mp (by rw [← tLa, z, codes.2.2.2.1]))))
    refine r_iconst K ((-1)) (by decide) dX7_isLine_64 ?_
    refine r_istore_n K (lv' := [(2, .int (-1)), (0, .ref (ad 71)), (1, .int (nI (wh)))]) 2 rfl (by decide) rfl dX7_isLine_65 ?_
    refine r_aload_n K 0 rfl rfl dX7_isLine_66 ?_
    refine get_71_10 K fl_RX7_91 dX7_isLine_67 ?_
    refine r_ldc2 K (v := (lN (459652))) kl_RX7_139 dX7_isLine_70 ?_
    refine r_lcmp_ne K 81 trivial dX7_isLine_73 dX7_isLine_74 (by decide) (fun _ => ?_) (fun z => absurd z (fun (z : s_a.L = lN 459652) => hno 4 (by decide) ((tokV_w X p (by decide)).mp (by rw [← tLa, z, codes.2.2.2.2.1]))))
    refine r_aload_n K 0 rfl rfl dX7_isLine_81 ?_
    refine get_71_10 K fl_RX7_91 dX7_isLine_82 ?_
    refine r_ldc2 K (v := (lN (1095881))) kl_RX7_141 dX7_isLine_85 ?_
    refine r_lcmp_ne K 96 trivial dX7_isLine_88 dX7_isLine_89 (by decide) (fun _ => ?_) (fun z => absurd z (fun (z : s_a.L = lN 1095881) => hno 5 (by decide) ((tokV_w X p (by decide)).mp (by rw [← tLa, z, codes.2.2.2.2.2.1]))))
    refine r_aload_n K 0 rfl rfl dX7_isLine_96 ?_
    refine get_71_10 K fl_RX7_91 dX7_isLine_97 ?_
    refine r_ldc2 K (v := (lN (385240))) kl_RX7_143 dX7_isLine_100 ?_
    refine r_lcmp_ne K 112 trivial dX7_isLine_103 dX7_isLine_104 (by decide) (fun _ => ?_) (fun z => absurd z (fun (z : s_a.L = lN 385240) => hno 6 (by decide) ((tokV_w X p (by decide)).mp (by rw [← tLa, z, codes.2.2.2.2.2.2.1]))))
    refine r_aload_n K 0 rfl rfl dX7_isLine_112 ?_
    refine get_71_10 K fl_RX7_91 dX7_isLine_113 ?_
    refine r_ldc2 K (v := (lN (10497936))) kl_RX7_145 dX7_isLine_116 ?_
    refine r_lcmp_ne K 128 trivial dX7_isLine_119 dX7_isLine_120 (by decide) (fun _ => ?_) (fun z => absurd z (fun (z : s_a.L = lN 10497936) => hno 7 (by decide) ((tokV_w X p (by decide)).mp (by rw [← tLa, z, codes.2.2.2.2.2.2.2.1]))))
    refine r_iconst K ((-1)) (by decide) dX7_isLine_128 ?_
    refine r_istore_n K (lv' := [(3, .int (-1)), (2, .int (-1)), (0, .ref (ad 71)), (1, .int (nI (wh)))]) 3 rfl (by decide) rfl dX7_isLine_129 ?_
    refine r_aload_n K 0 rfl rfl dX7_isLine_130 ?_
    refine get_71_16 K fl_RX7_26 dX7_isLine_131 ?_
    refine r_iload_n K 1 rfl rfl dX7_isLine_134 ?_
    refine r_iload_n K 2 rfl rfl dX7_isLine_135 ?_
    refine r_iconst K ((-1)) (by decide) dX7_isLine_136 ?_
    refine r_icmp_ne K 144 dX7_isLine_137 (by decide) (fun z => absurd z (by decide)) (fun _ => ?_)
    refine r_iload_n K 3 rfl rfl dX7_isLine_140 ?_
    refine r_goto K 145 dX7_isLine_141 (by decide) ?_
    refine r_iast K 50 (n := 48) (by decide) rfl rfl (by decide) (by omega) dX7_isLine_145 ?_
    refine r_aload_n K 0 rfl rfl dX7_isLine_146 ?_
    refine get_71_16 K fl_RX7_26 dX7_isLine_147 ?_
    refine r_iload_n K 1 rfl rfl dX7_isLine_150 ?_
    refine r_iald K 50 (n := 48) (by decide) rfl rfl (by decide) (by omega) dX7_isLine_151 ?_
    refine r_topi (b := (-1)) (by rw [sA_at]; unfold upd; rw [if_pos rfl]) ?_
    refine r_tableOut K 306 dX7_isLine_152 (by decide) (by decide) ?_
    have hs0 : same [50] [17, 18, 19, 20, 21, 23] [] true σ ((s_a).sA 50 (upd ((s_a).A 50) (wh) ((-1)))) := same_sA (same_w tsa (by simp) (by simp) (by simp) id) (by simp) _
    have hA0 : ((s_a).sA 50 (upd ((s_a).A 50) (wh) ((-1)))).A 50 = upd (σ.A 50) wh (-1) := by rw [sA_at, tsa.1 50 (by simp)]
    have hX0 : RepX 16 49 X ((s_a).sA 50 (upd ((s_a).A 50) (wh) ((-1)))) := ⟨hXa.1, by rw [sA_A, if_neg (by decide)]; exact hXa.2⟩
    have e17 : ((s_a).sA 50 (upd ((s_a).A 50) (wh) ((-1)))).I 17 = nI (teS X p) := t17a
    have e18 : ((s_a).sA 50 (upd ((s_a).A 50) (wh) ((-1)))).I 18 = nI (tkS X p) := t18a
    have e23 : ((s_a).sA 50 (upd ((s_a).A 50) (wh) ((-1)))).I 23 = nI rc := (tsa.2.1 23 (by simp)).trans g23
    generalize ez : (s_a).sA 50 (upd ((s_a).A 50) (wh) ((-1))) = s0 at hs0 hA0 hX0 e17 e18 e23 ⊢
    have hL0 : mlP X p wh rc 0 s0 s0 := ⟨same_rf _ _ _ _ _, e23, fun j hj => absurd hj (Nat.not_lt_zero j), fun i _ => rfl⟩
    refine r_aload_n K 0 rfl rfl dX7_isLine_306 ?_
    refine r_callV K 71 (As := []) (rest := []) mv_X7_fails ml_RX7_111 (m_fails (a := tkS X p) (e18)) (by decide) rfl rfl rfl rfl (Nat.le_of_ble_eq_true rfl) ⟨by decide, by decide⟩ dX7_isLine_307 (fun r_f ad_f s_f h_f => ?_)
    obtain ⟨rfl, rfl, rfl⟩ := h_f
    refine r_st (st' := [.int (bI false)]) rfl ?_
    exact r_zret K (b := false) hr (⟨by simp [lineR, hwd], rfl, fun z => by simp [lineR, hwd] at z, fun _ => ⟨by rw [sI_at]; simp [lineR, hwd], same_sI hs0 (by simp) _, out_of (w := 0) hA0 (fun i _ => rfl)⟩⟩) dX7_isLine_310

def rowsM (X T : Tv) (k : Nat) (s : Sg) : Prop := ∀ i, i < k → s.A 50 (6 * i) = nI (wordS X (lsS X T i).1) ∧ ∀ j, j < needS (wordS X (lsS X T i).1) → s.A 50 (6 * i + (j + 1)) = nI (numS X (lsS X T i).1 (j + 1))
theorem needS_le (w : Nat) : needS w ≤ 5 := by unfold needS; split; omega; split; omega; split <;> omega
theorem rowsM_s {X T : Tv} {k rc : Nat} {s s2 : Sg} (h : rowsM X T k s) (hl : lnM X (lsS X T k).1 (6 * k) (wordS X (lsS X T k).1) rc (needS (wordS X (lsS X T k).1)) s s2) : rowsM X T (k + 1) s2 := by
  obtain ⟨a1, a2, a3, a4, a5⟩ := hl
  intro i hi
  by_cases e : i = k
  · subst e; exact ⟨a3, a4⟩
  · obtain ⟨b1, b2⟩ := h i (by omega)
    refine ⟨by rw [a5 _ (by omega)]; exact b1, fun j hj => ?_⟩
    have := needS_le (wordS X (lsS X T i).1)
    rw [a5 _ (by omega)]; exact b2 j hj
theorem rowsM_e {X T : Tv} {k : Nat} {s s2 : Sg} (h : rowsM X T k s) (e : s2.A 50 = s.A 50) : rowsM X T k s2 := fun i hi => by rw [e]; exact h i hi
set_option maxHeartbeats 2000000 in
set_option maxRecDepth 10000 in
theorem m_isRead {g : Gp} {lau : Launch} {ad : Nat → Nat} {σ : Sg} {X : Tv} (hXo : XOk X) (hX : RepX 16 49 X σ) {T : Tv} (hT : TOk T) (hR : RepM T σ) : Con g lau yX7_isRead cX7_isRead 2 (Option.some .boolean) 5 109 [.ref (ad 71)] ad σ (fun r a2 s2 => some (.int (bI (rdS X T 7 0).1)) = r ∧ ad = a2 ∧ same [50] [17, 18, 19, 20, 21, 22, 23] [] true σ s2 ∧ ((rdS X T 7 0).1 = true → s2.I 22 = nI (rdS X T 7 0).2 ∧ rowsM X T (rdS X T 7 0).2 s2 ∧ (rdS X T 7 0).2 ≤ 8) ∧ ((rdS X T 7 0).1 = false → s2.I 21 = nI (rdS X T 7 0).2)) := by
  refine con_mk (by decide) (Nat.le_of_ble_eq_true rfl) (fun x hxl K hr => ?_)
  subst hxl
  refine r_lv (lv' := [(0, .ref (ad 71))]) rfl ?_
  have hx200 := hXo.1
  refine r_aload_n K 0 rfl rfl dX7_isRead_0 ?_
  refine r_iconst K ((nI (0))) (by decide) dX7_isRead_1 ?_
  refine put_71_8 K fl_RX7_77 dX7_isRead_2 ?_
  refine r_aload_n K 0 rfl rfl dX7_isRead_5 ?_
  refine r_iconst K ((nI (0))) (by decide) dX7_isRead_6 ?_
  refine put_71_14 K fl_RX7_157 dX7_isRead_7 ?_
  refine r_aload_n K 0 rfl rfl dX7_isRead_10 ?_
  refine r_aload_n K 0 rfl rfl dX7_isRead_11 ?_
  refine get_71_0 K fl_RX7_160 dX7_isRead_12 ?_
  refine r_topi (b := σ.I 13) rfl ?_
  refine r_topi (b := (nI (T 10 0))) (hR.1) ?_
  refine put_71_15 K fl_RX7_125 dX7_isRead_15 ?_
  refine r_iconst K ((nI (1))) (by decide) dX7_isRead_18 ?_
  refine r_istore_n K (lv' := [(1, .int (nI (1))), (0, .ref (ad 71))]) 1 rfl (by decide) rfl dX7_isRead_19 ?_
  refine r_pick [1, 0] (lv' := [(0, .ref (ad 71)), (1, .int (nI (1)))]) rfl ?_
  have lpA : ∀ (mm_ : Nat) (k : Nat) (s1 : Sg) (mo : Nat) (pe : Nat), mm_ = 8 - k + mo → (mo ≤ 1) → (k ≤ 8) → (same [50] [17, 18, 19, 20, 21, 22, 23] [] true σ s1) → (s1.I 22 = nI k) → (rowsM X T k s1) → (mo = 1 → k < 8 ∧ s1.I 17 = nI (lsS X T k).1 ∧ s1.I 23 = nI ((lsS X T k).2 10 0) ∧ (lsS X T k).1 ≤ X 0 0 ∧ TOk (lsS X T k).2 ∧ rdS X T 7 0 = rdS X T (7 - k) k) → (mo = 0 → s1.L = tokV X pe ∧ s1.I 18 = nI (tkS X pe) ∧ rdS X T 7 0 = (if kdS X (tkS X pe) = 3 then (true, k) else (false, tkS X pe))) → GJ g x 2 20 [(0, .ref (ad 71)), (1, .int (nI (mo)))] [] ad (s1) := by
    intro mm_
    induction mm_ using Nat.strongRecOn with
    | _ mm_ ihA =>
      intro k s1 mo pe hmA hmo hk8 hsk g22 hrow hA hB
      have hXk : RepX 16 49 X s1 := RepX_same hX hsk (by simp) (by simp)
      refine r_iload_n K 1 rfl rfl dX7_isRead_20 ?_
      refine n_if_eq K 83 (by omega) dX7_isRead_21 (by decide) (fun h21 => ?_) (fun h21 => ?_)
      · obtain ⟨bL, b18, brd⟩ := hB h21
        refine r_aload_n K 0 rfl rfl dX7_isRead_83 ?_
        refine get_71_10 K fl_RX7_91 dX7_isRead_84 ?_
        refine r_ldc2 K (v := (-2)) kl_RX7_89 dX7_isRead_87 ?_
        refine r_lcmp_eq K 101 (trivial) dX7_isRead_90 dX7_isRead_91 (by decide) (fun h90 => ?_) (fun h90 => ?_)
        · refine r_iconst K ((nI (1))) (by decide) dX7_isRead_101 ?_
          refine r_goto K 106 dX7_isRead_102 (by decide) ?_
          exact r_zret K (b := true) hr (⟨by rw [brd, if_pos ((tokV_end X pe).mp (bL.symm.trans h90))], rfl, hsk, fun _ => by rw [brd, if_pos ((tokV_end X pe).mp (bL.symm.trans h90))]; exact ⟨g22, hrow, hk8⟩, fun z => (by rw [brd, if_pos ((tokV_end X pe).mp (bL.symm.trans h90))] at z; cases z)⟩) dX7_isRead_106
        · refine r_aload_n K 0 rfl rfl dX7_isRead_94 ?_
          refine r_callV K 71 (As := []) (rest := []) mv_X7_fails ml_RX7_111 (m_fails (a := tkS X pe) (b18)) (by decide) rfl rfl rfl rfl (Nat.le_of_ble_eq_true rfl) ⟨by decide, by decide⟩ dX7_isRead_95 (fun r_f ad_f s_f h_f => ?_)
          obtain ⟨rfl, rfl, rfl⟩ := h_f
          refine r_st (st' := [.int (bI false)]) rfl ?_
          refine b_if_eq K 105 dX7_isRead_98 (by decide) (fun _ => ?_) (fun z => absurd z (by decide))
          refine r_iconst K ((nI (0))) (by decide) dX7_isRead_105 ?_
          exact r_zret K (b := false) hr (⟨by rw [brd, if_neg (fun z => h90 (bL.trans ((tokV_end X pe).mpr z)))], rfl, same_sI hsk (by simp) _, fun z => (by rw [brd, if_neg (fun z => h90 (bL.trans ((tokV_end X pe).mpr z)))] at z; cases z), fun _ => by rw [brd, if_neg (fun z => h90 (bL.trans ((tokV_end X pe).mpr z)))]; exact sI_at _ _ _⟩) dX7_isRead_106
      · obtain ⟨hk7, j17, j23, hpk, hTk, hrd⟩ := hA (by omega)
        refine r_aload_n K 0 rfl rfl dX7_isRead_24 ?_
        refine r_bipush K ((nI (6))) (by decide) dX7_isRead_25 ?_
        refine r_aload_n K 0 rfl rfl dX7_isRead_27 ?_
        refine get_71_14 K fl_RX7_157 dX7_isRead_28 ?_
        refine r_topi (b := (nI (k))) (g22) ?_
        refine r_imul K dX7_isRead_31 ?_
        refine r_topi (pk_mul _ _) ?_
        refine r_callV K 71 (As := [.int (nI (6 * k))]) (rest := []) mv_X7_isLine ml_RX7_163 (m_isLine hXo hXk (p := (lsS X T k).1) (wh := 6 * k) (rc := (lsS X T k).2 10 0) hpk j17 j23 hTk.2.1 (by omega)) (by decide) rfl rfl rfl rfl (Nat.le_of_ble_eq_true rfl) ⟨by decide, by decide⟩ dX7_isRead_32 (fun r_l ad_l s_l h_l => ?_)
        obtain ⟨rfl, rfl, lok, lno⟩ := h_l
        refine r_st (st' := [.int (bI (lnS X T k).1)]) rfl ?_
        refine b_if_ne K 40 dX7_isRead_35 (by decide) (fun h35 => ?_) (fun h35 => ?_)
        · obtain ⟨l17, lM⟩ := lok h35
          have hno := lineR_ok (T := (lsS X T k).2) h35
          have hlle : (lnS X T k).2 ≤ X 0 0 := lineR_le hpk
          refine r_aload_n K 0 rfl rfl dX7_isRead_40 ?_
          refine r_dup K rfl dX7_isRead_41 ?_
          refine get_71_14 K fl_RX7_157 dX7_isRead_42 ?_
          refine r_topi (b := (nI (k))) ((lM.1.2.1 22 (by simp)).trans g22) ?_
          refine r_iconst K ((nI (1))) (by decide) dX7_isRead_45 ?_
          refine r_iadd K dX7_isRead_46 ?_
          refine r_topi (nI_add _ _) ?_
          refine put_71_14 K fl_RX7_157 dX7_isRead_47 ?_
          refine r_aload_n K 0 rfl rfl dX7_isRead_50 ?_
          have hXt : RepX 16 49 X ((s_l).sI 22 ((nI (k + 1)))) := ⟨by rw [sI_ne _ _ (by decide), lM.1.2.1 16 (by simp)]; exact hXk.1, by rw [sI_A, lM.1.1 49 (by simp)]; exact hXk.2⟩
          have g17t : ((s_l).sI 22 ((nI (k + 1)))).I 17 = nI (lnS X T k).2 := by rw [sI_ne _ _ (by decide)]; exact l17
          have g22t : ((s_l).sI 22 ((nI (k + 1)))).I 22 = nI (k + 1) := sI_at _ _ _
          have g23t : ((s_l).sI 22 ((nI (k + 1)))).I 23 = nI (rcS (wordS X (lsS X T k).1) ((lsS X T k).2 10 0)) := by rw [sI_ne _ _ (by decide)]; exact lM.2.1
          have hst : same [50] [17, 18, 19, 20, 21, 22, 23] [] true σ ((s_l).sI 22 ((nI (k + 1)))) := same_sI (same_tr hsk (same_w lM.1 (by simp) (by simp) (by simp) id)) (by simp) _
          have hrowt : rowsM X T (k + 1) ((s_l).sI 22 ((nI (k + 1)))) := rowsM_e (rowsM_s hrow lM) rfl
          generalize ez : (s_l).sI 22 ((nI (k + 1))) = s5 at hXt g17t g22t g23t hst hrowt ⊢
          refine r_callV K 71 (As := []) (rest := []) mv_X7_nextToken ml_RX7_108 (m_nextToken hXo hXt hlle (g17t)) (by decide) rfl rfl rfl rfl (Nat.le_of_ble_eq_true rfl) ⟨by decide, by decide⟩ dX7_isRead_51 (fun r_a ad_a s_a h_a => ?_)
          obtain ⟨rfl, rfl, tsa, t17a, t18a, tLa, tNa⟩ := h_a
          refine r_st (st' := []) rfl ?_
          have hXa : RepX 16 49 X s_a := RepX_same hXt tsa (by simp) (by simp)
          have htea := teS_le hlle
          have hsm6 := same_tr hst (same_w tsa (by simp) (by simp) (by simp) id : same [50] [17, 18, 19, 20, 21, 22, 23] [] true _ s_a)
          have hg22 : s_a.I 22 = nI (k + 1) := (tsa.2.1 22 (by simp)).trans g22t
          have hg23 : s_a.I 23 = nI ((lsS X T (k + 1)).2 10 0) := by rw [tsa.2.1 23 (by simp), g23t]; exact congrArg nI (tell_rc _ _ _).symm
          have hrow6 : rowsM X T (k + 1) s_a := rowsM_e hrowt (tsa.1 50 (by simp))
          refine r_aload_n K 0 rfl rfl dX7_isRead_54 ?_
          refine get_71_10 K fl_RX7_91 dX7_isRead_55 ?_
          refine r_ldc2 K (v := (-3)) kl_RX7_103 dX7_isRead_58 ?_
          refine r_lcmp_ne K 78 (trivial) dX7_isRead_61 dX7_isRead_62 (by decide) (fun h61 => ?_) (fun h61 => ?_)
          · refine r_iconst K ((nI (0))) (by decide) dX7_isRead_78 ?_
            refine r_istore_n K (lv' := [(1, .int (nI (0))), (0, .ref (ad 71))]) 1 rfl (by decide) rfl dX7_isRead_79 ?_
            refine r_goto K 20 dX7_isRead_80 (by decide) ?_
            refine r_pick [1, 0] (lv' := [(0, .ref (ad 71)), (1, .int (nI (0)))]) rfl ?_
            exact ihA _ (by omega) (k + 1) (s_a) (0) ((lnS X T k).2) rfl (by omega) (by omega) (hsm6) (hg22) (hrow6) (fun z => by omega) (fun _ => ⟨tLa, t18a, by rw [hrd]; cases hf : 7 - k; (rw [rdS, if_neg (by rw [h35]; decide)]); (rw [rdS, if_neg (by rw [h35]; decide)]; by_cases k3 : kdS X (tkS X (lnS X T k).2) = 3; (rw [if_pos k3, if_pos k3]); (rw [if_neg k3, if_neg k3, if_neg (fun z => h61 (tLa.trans ((tokV_semi X _).mpr ⟨k3, z⟩)))]))⟩)
          · refine r_aload_n K 0 rfl rfl dX7_isRead_65 ?_
            refine get_71_14 K fl_RX7_157 dX7_isRead_66 ?_
            refine r_topi (b := (nI (k + 1))) (hg22) ?_
            refine r_bipush K ((nI (8))) (by decide) dX7_isRead_69 ?_
            refine n_icmp_ge K 78 (by omega) (by omega) dX7_isRead_71 (by decide) (fun h71 => ?_) (fun h71 => ?_)
            · refine r_iconst K ((nI (0))) (by decide) dX7_isRead_78 ?_
              refine r_istore_n K (lv' := [(1, .int (nI (0))), (0, .ref (ad 71))]) 1 rfl (by decide) rfl dX7_isRead_79 ?_
              refine r_goto K 20 dX7_isRead_80 (by decide) ?_
              refine r_pick [1, 0] (lv' := [(0, .ref (ad 71)), (1, .int (nI (0)))]) rfl ?_
              exact ihA _ (by omega) (k + 1) (s_a) (0) ((lnS X T k).2) rfl (by omega) (by omega) (hsm6) (hg22) (hrow6) (fun z => by omega) (fun _ => ⟨tLa, t18a, by rw [hrd, show 7 - k = 0 by omega, rdS, if_neg (by rw [h35]; decide)]⟩)
            · refine r_iconst K ((nI (1))) (by decide) dX7_isRead_74 ?_
              refine r_goto K 79 dX7_isRead_75 (by decide) ?_
              refine r_istore_n K (lv' := [(1, .int (nI (1))), (0, .ref (ad 71))]) 1 rfl (by decide) rfl dX7_isRead_79 ?_
              refine r_goto K 20 dX7_isRead_80 (by decide) ?_
              refine r_pick [1, 0] (lv' := [(0, .ref (ad 71)), (1, .int (nI (1)))]) rfl ?_
              exact ihA _ (by omega) (k + 1) (s_a) (1) ((lnS X T k).2) rfl (by omega) (by omega) (hsm6) (hg22) (hrow6) (fun _ => ⟨by omega, t17a, hg23, teS_le hlle, TOk_tell hTk hno, by rw [hrd, show 7 - k = (7 - (k + 1)) + 1 by omega, rdS, if_neg (by rw [h35]; decide), if_neg ((tokV_semi X _).mp (tLa.symm.trans h61)).1, if_pos ((tokV_semi X _).mp (tLa.symm.trans h61)).2]⟩) (fun z => by omega)
        · obtain ⟨f21, fsm, fout⟩ := lno h35
          refine r_iconst K ((nI (0))) (by decide) dX7_isRead_38 ?_
          exact r_zret K (b := false) hr (⟨by rw [show rdS X T 7 0 = (false, (lnS X T k).2) from by rw [hrd]; cases hf : 7 - k <;> rw [rdS, if_pos h35]], rfl, same_tr hsk (same_w fsm (by simp) (by simp) (by simp) id), fun z => (by rw [show rdS X T 7 0 = (false, (lnS X T k).2) from by rw [hrd]; cases hf : 7 - k <;> rw [rdS, if_pos h35]] at z; cases z), fun _ => by rw [show rdS X T 7 0 = (false, (lnS X T k).2) from by rw [hrd]; cases hf : 7 - k <;> rw [rdS, if_pos h35]]; exact f21⟩) dX7_isRead_39
  exact lpA _ (0) ((((σ).sI 17 ((nI (0)))).sI 22 ((nI (0)))).sI 23 ((nI (T 10 0)))) (1) (0) rfl (by omega) (by omega) (same_sI (same_sI (same_sI (same_rf _ _ _ _ _) (by simp) _) (by simp) _) (by simp) _) (by rw [sI_ne _ _ (by decide), sI_at]) (fun i hi => absurd hi (Nat.not_lt_zero i)) (fun _ => ⟨by omega, by rw [sI_ne _ _ (by decide), sI_ne _ _ (by decide), sI_at]; rfl, by rw [sI_at]; rfl, Nat.zero_le _, hT, rfl⟩) (fun z => by omega)

