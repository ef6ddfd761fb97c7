set_option maxHeartbeats 400000 in
set_option maxRecDepth 10000 in
theorem m_fails {g : Gp} {lau : Launch} {ad : Nat → Nat} {σ : Sg} {a : Nat} (g18 : σ.I 18 = nI a) : Con g lau yX7_fails cX7_fails 1 (Option.some .boolean) 0 0 [.ref (ad 71)] ad σ (ex (some (.int (bI false))) ad (σ.sI 21 (nI a))) := by
  refine con_mk (by decide) (Nat.le_of_ble_eq_true rfl) (fun x hxl K hr => ?_)
  subst hxl
  refine r_lv (lv' := [(0, .ref (ad 71))]) rfl ?_
  refine r_aload_n K 0 rfl rfl dX7_fails_0 ?_
  refine r_aload_n K 0 rfl rfl dX7_fails_1 ?_
  refine get_71_9 K fl_RX7_80 dX7_fails_2 ?_
  refine r_topi (b := (nI (a))) (g18) ?_
  refine put_71_13 K fl_RX7_105 dX7_fails_5 ?_
  refine r_iconst K ((nI (0))) (by decide) dX7_fails_8 ?_
  exact r_zret K (b := false) hr (⟨rfl, rfl, rfl⟩) dX7_fails_9

set_option maxHeartbeats 400000 in
set_option maxRecDepth 10000 in
theorem m_isNumber {g : Gp} {lau : Launch} {ad : Nat → Nat} {σ : Sg} {X : Tv} (hXo : XOk X) (hX : RepX 16 49 X σ) {p wh lo hi : Nat} (hp : p ≤ X 0 0) (g17 : σ.I 17 = nI p) (hwh : wh < 48) (hlo : lo < 256) (hhi : hi < 256) : Con g lau yX7_isNumber cX7_isNumber 4 (Option.some .boolean) 2 42 [.ref (ad 71), .int (nI (wh)), .int (nI (lo)), .int (nI (hi))] ad σ (fun r a2 s2 => some (.int (bI (okN X p lo hi))) = r ∧ ad = a2 ∧ same [50] [17, 18, 19, 20, 21] [] true σ s2 ∧ s2.I 17 = nI (teS X p) ∧ (okN X p lo hi = true → s2.A 50 = upd (σ.A 50) wh (nI (nvS X p))) ∧ (okN X p lo hi = false → s2.I 21 = nI (tkS X p) ∧ s2.A 50 = σ.A 50)) := by
  refine con_mk (by decide) (Nat.le_of_ble_eq_true rfl) (fun x hxl K hr => ?_)
  subst hxl
  refine r_lv (lv' := [(0, .ref (ad 71)), (1, .int (nI (wh))), (2, .int (nI (lo))), (3, .int (nI (hi)))]) rfl ?_
  have hx200 := hXo.1
  refine r_aload_n K 0 rfl rfl dX7_isNumber_0 ?_
  refine r_callV K 71 (As := []) (rest := []) mv_X7_nextToken ml_RX7_108 (m_nextToken hXo hX hp (g17)) (by decide) rfl rfl rfl rfl (Nat.le_of_ble_eq_true rfl) ⟨by decide, by decide⟩ dX7_isNumber_1 (fun r_a ad_a s_a h_a => ?_)
  obtain ⟨rfl, rfl, tsa, t17a, t18a, tLa, tNa⟩ := h_a
  refine r_st (st' := []) rfl ?_
  have hXa : RepX 16 49 X s_a := RepX_same hX tsa (by simp) (by simp)
  have htea := teS_le hp
  refine r_aload_n K 0 rfl rfl dX7_isNumber_4 ?_
  refine get_71_10 K fl_RX7_91 dX7_isNumber_5 ?_
  refine r_ldc2 K (v := (-1)) kl_RX7_101 dX7_isNumber_8 ?_
  refine r_lcmp_ne K 27 (trivial) dX7_isNumber_11 dX7_isNumber_12 (by decide) (fun h11 => ?_) (fun h11 => ?_)
  · refine r_aload_n K 0 rfl rfl dX7_isNumber_27 ?_
    refine r_callV K 71 (As := []) (rest := []) mv_X7_fails ml_RX7_111 (m_fails (a := tkS X p) (t18a)) (by decide) rfl rfl rfl rfl (Nat.le_of_ble_eq_true rfl) ⟨by decide, by decide⟩ dX7_isNumber_28 (fun r_f ad_f s_f h_f => ?_)
    obtain ⟨rfl, rfl, rfl⟩ := h_f
    refine r_st (st' := [.int (bI false)]) rfl ?_
    exact r_zret K (b := false) hr (⟨by rw [show okN X p lo hi = false from by unfold okN; first | (rw [h24, Bool.and_false]) | (rw [show isN X p = false from by cases hz : isN X p; rfl; exact absurd (tLa.trans ((tokV_n X p).mpr hz)) h11, Bool.false_and])], rfl, same_sI (same_w tsa (by simp) (by simp) (by simp) id) (by simp) _, (sI_ne _ _ (by decide)).trans t17a, fun z => (by rw [show okN X p lo hi = false from by unfold okN; first | (rw [h24, Bool.and_false]) | (rw [show isN X p = false from by cases hz : isN X p; rfl; exact absurd (tLa.trans ((tokV_n X p).mpr hz)) h11, Bool.false_and])] at z; cases z), fun _ => ⟨sI_at _ _ _, tsa.1 50 (by simp)⟩⟩) dX7_isNumber_31
  · have hisn : isN X p = true := (tokV_n X p).mp (tLa.symm.trans h11)
    have hnv9 : nvS X p ≤ 99 := by
      have hz := of_decide_eq_true hisn
      unfold nvS
      exact dv_le hz.2 (fun i hi => (digs hz.1 hi).2)
    refine r_aload_n K 0 rfl rfl dX7_isNumber_15 ?_
    refine get_71_12 K fl_RX7_86 dX7_isNumber_16 ?_
    refine r_topi (b := (nI (nvS X p))) (tNa hisn) ?_
    refine r_iload_n K 2 rfl rfl dX7_isNumber_19 ?_
    refine r_iload_n K 3 rfl rfl dX7_isNumber_20 ?_
    refine r_callSp K (As := [.int (nI (nvS X p)), .int (nI (lo)), .int (nI (hi))]) ms_X7_in ml_RX7_61 (m_in ((nI (nvS X p))) ((nI (lo))) ((nI (hi)))) rfl rfl (Nat.le_of_ble_eq_true rfl) ⟨by decide, by decide⟩ dX7_isNumber_21 ?_
    refine r_topi (b := (bI (decide (lo ≤ nvS X p ∧ nvS X p ≤ hi)))) (by rw [inS_nI (by omega) (by omega) (by omega)]) ?_
    refine b_if_ne K 32 dX7_isNumber_24 (by decide) (fun h24 => ?_) (fun h24 => ?_)
    · refine r_aload_n K 0 rfl rfl dX7_isNumber_32 ?_
      refine get_71_16 K fl_RX7_26 dX7_isNumber_33 ?_
      refine r_iload_n K 1 rfl rfl dX7_isNumber_36 ?_
      refine r_aload_n K 0 rfl rfl dX7_isNumber_37 ?_
      refine get_71_12 K fl_RX7_86 dX7_isNumber_38 ?_
      refine r_topi (b := (nI (nvS X p))) (tNa hisn) ?_
      refine r_iast K 50 (n := 48) (by decide) rfl rfl (by decide) (by omega) dX7_isNumber_41 ?_
      refine r_iconst K ((nI (1))) (by decide) dX7_isNumber_42 ?_
      exact r_zret K (b := true) hr (⟨by rw [show okN X p lo hi = true from by unfold okN; rw [hisn, h24]; rfl], rfl, same_sA (same_w tsa (by simp) (by simp) (by simp) id) (by simp) _, t17a, fun _ => by rw [sA_at, tsa.1 50 (by simp)], fun z => (by rw [show okN X p lo hi = true from by unfold okN; rw [hisn, h24]; rfl] at z; cases z)⟩) dX7_isNumber_43
    · refine r_aload_n K 0 rfl rfl dX7_isNumber_27 ?_
      refine r_callV K 71 (As := []) (rest := []) mv_X7_fails ml_RX7_111 (m_fails (a := tkS X p) (t18a)) (by decide) rfl rfl rfl rfl (Nat.le_of_ble_eq_true rfl) ⟨by decide, by decide⟩ dX7_isNumber_28 (fun r_f ad_f s_f h_f => ?_)
      obtain ⟨rfl, rfl, rfl⟩ := h_f
      refine r_st (st' := [.int (bI false)]) rfl ?_
      exact r_zret K (b := false) hr (⟨by rw [show okN X p lo hi = false from by unfold okN; first | (rw [h24, Bool.and_false]) | (rw [show isN X p = false from by cases hz : isN X p; rfl; exact absurd (tLa.trans ((tokV_n X p).mpr hz)) h11, Bool.false_and])], rfl, same_sI (same_w tsa (by simp) (by simp) (by simp) id) (by simp) _, (sI_ne _ _ (by decide)).trans t17a, fun z => (by rw [show okN X p lo hi = false from by unfold okN; first | (rw [h24, Bool.and_false]) | (rw [show isN X p = false from by cases hz : isN X p; rfl; exact absurd (tLa.trans ((tokV_n X p).mpr hz)) h11, Bool.false_and])] at z; cases z), fun _ => ⟨sI_at _ _ _, tsa.1 50 (by simp)⟩⟩) dX7_isNumber_31

set_option maxHeartbeats 400000 in
set_option maxRecDepth 10000 in
theorem m_isKite {g : Gp} {lau : Launch} {ad : Nat → Nat} {σ : Sg} {X : Tv} (hXo : XOk X) (hX : RepX 16 49 X σ) {p wh : Nat} (hp : p ≤ X 0 0) (g17 : σ.I 17 = nI p) (hwh : wh < 48) : Con g lau yX7_isKite cX7_isKite 3 (Option.some .boolean) 2 42 [.ref (ad 71), .int (nI (wh))] ad σ (fun r a2 s2 => some (.int (bI (okK X p))) = r ∧ ad = a2 ∧ same [50] [17, 18, 19, 20, 21] [] true σ s2 ∧ s2.I 17 = nI (teS X p) ∧ (okK X p = true → s2.A 50 = upd (σ.A 50) wh (nI (kiteS X p))) ∧ (okK X p = false → s2.I 21 = nI (tkS X p) ∧ s2.A 50 = σ.A 50)) := by
  refine con_mk (by decide) (Nat.le_of_ble_eq_true rfl) (fun x hxl K hr => ?_)
  subst hxl
  refine r_lv (lv' := [(0, .ref (ad 71)), (1, .int (nI (wh)))]) rfl ?_
  have hx200 := hXo.1
  refine r_aload_n K 0 rfl rfl dX7_isKite_0 ?_
  refine r_callV K 71 (As := []) (rest := []) mv_X7_nextToken ml_RX7_108 (m_nextToken hXo hX hp (g17)) (by decide) rfl rfl rfl rfl (Nat.le_of_ble_eq_true rfl) ⟨by decide, by decide⟩ dX7_isKite_1 (fun r_a ad_a s_a h_a => ?_)
  obtain ⟨rfl, rfl, tsa, t17a, t18a, tLa, tNa⟩ := h_a
  refine r_st (st' := []) rfl ?_
  have hXa : RepX 16 49 X s_a := RepX_same hX tsa (by simp) (by simp)
  have htea := teS_le hp
  have hle := kiteS_le X p
  rcases (show kiteS X p = 0 ∨ kiteS X p = 1 ∨ kiteS X p = 2 ∨ kiteS X p = 3 ∨ kiteS X p = 4 ∨ kiteS X p = 5 by omega) with hwd | hwd | hwd | hwd | hwd | hwd
  · have hLv : s_a.L = lN 8740238 := by rw [tLa, (tokV_w X p (i := 8) (by decide)).mpr (kite_t (j := 0) (by decide) hwd), codes.2.2.2.2.2.2.2.2.1]
    refine r_aload_n K 0 rfl rfl dX7_isKite_4 ?_
    refine get_71_10 K fl_RX7_91 dX7_isKite_5 ?_
    refine r_topl (b := (lN (8740238))) (hLv) ?_
    refine r_ldc2 K (v := (lN (8740238))) kl_RX7_115 dX7_isKite_8 ?_
    refine n_lcmp_ne K 19 (by decide) dX7_isKite_11 dX7_isKite_12 (by decide) (fun z => absurd z (by decide)) (fun _ => ?_)
    refine r_iconst K ((nI (0))) (by decide) dX7_isKite_15 ?_
    refine r_goto K 80 dX7_isKite_16 (by decide) ?_
    refine r_istore_n K (lv' := [(2, .int (nI (0))), (0, .ref (ad 71)), (1, .int (nI (wh)))]) 2 rfl (by decide) rfl dX7_isKite_80 ?_
    refine r_iload_n K 2 rfl rfl dX7_isKite_81 ?_
    refine r_iconst K ((-1)) (by decide) dX7_isKite_82 ?_
    refine r_icmp_ne K 91 dX7_isKite_83 (by decide) (fun _ => ?_) (fun z => absurd z (by decide))
    refine r_aload_n K 0 rfl rfl dX7_isKite_91 ?_
    refine get_71_16 K fl_RX7_26 dX7_isKite_92 ?_
    refine r_iload_n K 1 rfl rfl dX7_isKite_95 ?_
    refine r_iload_n K 2 rfl rfl dX7_isKite_96 ?_
    refine r_iast K 50 (n := 48) (by decide) rfl rfl (by decide) (by omega) dX7_isKite_97 ?_
    refine r_iconst K ((nI (1))) (by decide) dX7_isKite_98 ?_
    exact r_zret K (b := true) hr (⟨by rw [show okK X p = true from decide_eq_true (by omega)], rfl, same_sA (same_w tsa (by simp) (by simp) (by simp) id) (by simp) _, t17a, fun _ => by rw [sA_at, tsa.1 50 (by simp), hwd], fun z => absurd (show okK X p = true from decide_eq_true (by omega)) (by rw [z]; decide)⟩) dX7_isKite_99
  · have hLv : s_a.L = lN 230304361 := by rw [tLa, (tokV_w X p (i := 9) (by decide)).mpr (kite_t (j := 1) (by decide) hwd), codes.2.2.2.2.2.2.2.2.2.1]
    refine r_aload_n K 0 rfl rfl dX7_isKite_4 ?_
    refine get_71_10 K fl_RX7_91 dX7_isKite_5 ?_
    refine r_topl (b := (lN (230304361))) (hLv) ?_
    refine r_ldc2 K (v := (lN (8740238))) kl_RX7_115 dX7_isKite_8 ?_
    refine n_lcmp_ne K 19 (by decide) dX7_isKite_11 dX7_isKite_12 (by decide) (fun _ => ?_) (fun z => absurd z (by decide))
    refine r_aload_n K 0 rfl rfl dX7_isKite_19 ?_
    refine get_71_10 K fl_RX7_91 dX7_isKite_20 ?_
    refine r_topl (b := (lN (230304361))) (hLv) ?_
    refine r_ldc2 K (v := (lN (230304361))) kl_RX7_117 dX7_isKite_23 ?_
    refine n_lcmp_ne K 34 (by decide) dX7_isKite_26 dX7_isKite_27 (by decide) (fun z => absurd z (by decide)) (fun _ => ?_)
    refine r_iconst K ((nI (1))) (by decide) dX7_isKite_30 ?_
    refine r_goto K 80 dX7_isKite_31 (by decide) ?_
    refine r_istore_n K (lv' := [(2, .int (nI (1))), (0, .ref (ad 71)), (1, .int (nI (wh)))]) 2 rfl (by decide) rfl dX7_isKite_80 ?_
    refine r_iload_n K 2 rfl rfl dX7_isKite_81 ?_
    refine r_iconst K ((-1)) (by decide) dX7_isKite_82 ?_
    refine r_icmp_ne K 91 dX7_isKite_83 (by decide) (fun _ => ?_) (fun z => absurd z (by decide))
    refine r_aload_n K 0 rfl rfl dX7_isKite_91 ?_
    refine get_71_16 K fl_RX7_26 dX7_isKite_92 ?_
    refine r_iload_n K 1 rfl rfl dX7_isKite_95 ?_
    refine r_iload_n K 2 rfl rfl dX7_isKite_96 ?_
    refine r_iast K 50 (n := 48) (by decide) rfl rfl (by decide) (by omega) dX7_isKite_97 ?_
    refine r_iconst K ((nI (1))) (by decide) dX7_isKite_98 ?_
    exact r_zret K (b := true) hr (⟨by rw [show okK X p = true from decide_eq_true (by omega)], rfl, same_sA (same_w tsa (by simp) (by simp) (by simp) id) (by simp) _, t17a, fun _ => by rw [sA_at, tsa.1 50 (by simp), hwd], fun z => absurd (show okK X p = true from decide_eq_true (by omega)) (by rw [z]; decide)⟩) dX7_isKite_99
  · have hLv : s_a.L = lN 383153 := by rw [tLa, (tokV_w X p (i := 10) (by decide)).mpr (kite_t (j := 2) (by decide) hwd), codes.2.2.2.2.2.2.2.2.2.2.1]
    refine r_aload_n K 0 rfl rfl dX7_isKite_4 ?_
    refine get_71_10 K fl_RX7_91 dX7_isKite_5 ?_
    refine r_topl (b := (lN (383153))) (hLv) ?_
    refine r_ldc2 K (v := (lN (8740238))) kl_RX7_115 dX7_isKite_8 ?_
    refine n_lcmp_ne K 19 (by decide) dX7_isKite_11 dX7_isKite_12 (by decide) (fun _ => ?_) (fun z => absurd z (by decide))
    refine r_aload_n K 0 rfl rfl dX7_isKite_19 ?_
    refine get_71_10 K fl_RX7_91 dX7_isKite_20 ?_
    refine r_topl (b := (lN (383153))) (hLv) ?_
    refine r_ldc2 K (v := (lN (230304361))) kl_RX7_117 dX7_isKite_23 ?_
    refine n_lcmp_ne K 34 (by decide) dX7_isKite_26 dX7_isKite_27 (by decide) (fun _ => ?_) (fun z => absurd z (by decide))
    refine r_aload_n K 0 rfl rfl dX7_isKite_34 ?_
    refine get_71_10 K fl_RX7_91 dX7_isKite_35 ?_
    refine r_topl (b := (lN (383153))) (hLv) ?_
    refine r_ldc2 K (v := (lN (383153))) kl_RX7_119 dX7_isKite_38 ?_
    refine n_lcmp_ne K 49 (by decide) dX7_isKite_41 dX7_isKite_42 (by decide) (fun z => absurd z (by decide)) (fun _ => ?_)
    refine r_iconst K ((nI (2))) (by decide) dX7_isKite_45 ?_
    refine r_goto K 80 dX7_isKite_46 (by decide) ?_
    refine r_istore_n K (lv' := [(2, .int (nI (2))), (0, .ref (ad 71)), (1, .int (nI (wh)))]) 2 rfl (by decide) rfl dX7_isKite_80 ?_
    refine r_iload_n K 2 rfl rfl dX7_isKite_81 ?_
    refine r_iconst K ((-1)) (by decide) dX7_isKite_82 ?_
    refine r_icmp_ne K 91 dX7_isKite_83 (by decide) (fun _ => ?_) (fun z => absurd z (by decide))
    refine r_aload_n K 0 rfl rfl dX7_isKite_91 ?_
    refine get_71_16 K fl_RX7_26 dX7_isKite_92 ?_
    refine r_iload_n K 1 rfl rfl dX7_isKite_95 ?_
    refine r_iload_n K 2 rfl rfl dX7_isKite_96 ?_
    refine r_iast K 50 (n := 48) (by decide) rfl rfl (by decide) (by omega) dX7_isKite_97 ?_
    refine r_iconst K ((nI (1))) (by decide) dX7_isKite_98 ?_
    exact r_zret K (b := true) hr (⟨by rw [show okK X p = true from decide_eq_true (by omega)], rfl, same_sA (same_w tsa (by simp) (by simp) (by simp) id) (by simp) _, t17a, fun _ => by rw [sA_at, tsa.1 50 (by simp), hwd], fun z => absurd (show okK X p = true from decide_eq_true (by omega)) (by rw [z]; decide)⟩) dX7_isKite_99
  · have hLv : s_a.L = lN 374961 := by rw [tLa, (tokV_w X p (i := 11) (by decide)).mpr (kite_t (j := 3) (by decide) hwd), codes.2.2.2.2.2.2.2.2.2.2.2.1]
    refine r_aload_n K 0 rfl rfl dX7_isKite_4 ?_
    refine get_71_10 K fl_RX7_91 dX7_isKite_5 ?_
    refine r_topl (b := (lN (374961))) (hLv) ?_
    refine r_ldc2 K (v := (lN (8740238))) kl_RX7_115 dX7_isKite_8 ?_
    refine n_lcmp_ne K 19 (by decide) dX7_isKite_11 dX7_isKite_12 (by decide) (fun _ => ?_) (fun z => absurd z (by decide))
    refine r_aload_n K 0 rfl rfl dX7_isKite_19 ?_
    refine get_71_10 K fl_RX7_91 dX7_isKite_20 ?_
    refine r_topl (b := (lN (374961))) (hLv) ?_
    refine r_ldc2 K (v := (lN (230304361))) kl_RX7_117 dX7_isKite_23 ?_
    refine n_lcmp_ne K 34 (by decide) dX7_isKite_26 dX7_isKite_27 (by decide) (fun _ => ?_) (fun z => absurd z (by decide))
    refine r_aload_n K 0 rfl rfl dX7_isKite_34 ?_
    refine get_71_10 K fl_RX7_91 dX7_isKite_35 ?_
    refine r_topl (b := (lN (374961))) (hLv) ?_
    refine r_ldc2 K (v := (lN (383153))) kl_RX7_119 dX7_isKite_38 ?_
    refine n_lcmp_ne K 49 (by decide) dX7_isKite_41 dX7_isKite_42 (by decide) (fun _ => ?_) (fun z => absurd z (by decide))
    refine r_aload_n K 0 rfl rfl dX7_isKite_49 ?_
    refine get_71_10 K fl_RX7_91 dX7_isKite_50 ?_
    refine r_topl (b := (lN (374961))) (hLv) ?_
    refine r_ldc2 K (v := (lN (374961))) kl_RX7_121 dX7_isKite_53 ?_
    refine n_lcmp_ne K 64 (by decide) dX7_isKite_56 dX7_isKite_57 (by decide) (fun z => absurd z (by decide)) (fun _ => ?_)
    refine r_iconst K ((nI (3))) (by decide) dX7_isKite_60 ?_
    refine r_goto K 80 dX7_isKite_61 (by decide) ?_
    refine r_istore_n K (lv' := [(2, .int (nI (3))), (0, .ref (ad 71)), (1, .int (nI (wh)))]) 2 rfl (by decide) rfl dX7_isKite_80 ?_
    refine r_iload_n K 2 rfl rfl dX7_isKite_81 ?_
    refine r_iconst K ((-1)) (by decide) dX7_isKite_82 ?_
    refine r_icmp_ne K 91 dX7_isKite_83 (by decide) (fun _ => ?_) (fun z => absurd z (by decide))
    refine r_aload_n K 0 rfl rfl dX7_isKite_91 ?_
    refine get_71_16 K fl_RX7_26 dX7_isKite_92 ?_
    refine r_iload_n K 1 rfl rfl dX7_isKite_95 ?_
    refine r_iload_n K 2 rfl rfl dX7_isKite_96 ?_
    refine r_iast K 50 (n := 48) (by decide) rfl rfl (by decide) (by omega) dX7_isKite_97 ?_
    refine r_iconst K ((nI (1))) (by decide) dX7_isKite_98 ?_
    exact r_zret K (b := true) hr (⟨by rw [show okK X p = true from decide_eq_true (by omega)], rfl, same_sA (same_w tsa (by simp) (by simp) (by simp) id) (by simp) _, t17a, fun _ => by rw [sA_at, tsa.1 50 (by simp), hwd], fun z => absurd (show okK X p = true from decide_eq_true (by omega)) (by rw [z]; decide)⟩) dX7_isKite_99
  · have hLv : s_a.L = lN 405095 := by rw [tLa, (tokV_w X p (i := 12) (by decide)).mpr (kite_t (j := 4) (by decide) hwd), codes.2.2.2.2.2.2.2.2.2.2.2.2]
    refine r_aload_n K 0 rfl rfl dX7_isKite_4 ?_
    refine get_71_10 K fl_RX7_91 dX7_isKite_5 ?_
    refine r_topl (b := (lN (405095))) (hLv) ?_
    refine r_ldc2 K (v := (lN (8740238))) kl_RX7_115 dX7_isKite_8 ?_
    refine n_lcmp_ne K 19 (by decide) dX7_isKite_11 dX7_isKite_12 (by decide) (fun _ => ?_) (fun z => absurd z (by decide))
    refine r_aload_n K 0 rfl rfl dX7_isKite_19 ?_
    refine get_71_10 K fl_RX7_91 dX7_isKite_20 ?_
    refine r_topl (b := (lN (405095))) (hLv) ?_
    refine r_ldc2 K (v := (lN (230304361))) kl_RX7_117 dX7_isKite_23 ?_
    refine n_lcmp_ne K 34 (by decide) dX7_isKite_26 dX7_isKite_27 (by decide) (fun _ => ?_) (fun z => absurd z (by decide))
    refine r_aload_n K 0 rfl rfl dX7_isKite_34 ?_
    refine get_71_10 K fl_RX7_91 dX7_isKite_35 ?_
    refine r_topl (b := (lN (405095))) (hLv) ?_
    refine r_ldc2 K (v := (lN (383153))) kl_RX7_119 dX7_isKite_38 ?_
    refine n_lcmp_ne K 49 (by decide) dX7_isKite_41 dX7_isKite_42 (by decide) (fun _ => ?_) (fun z => absurd z (by decide))
    refine r_aload_n K 0 rfl rfl dX7_isKite_49 ?_
    refine get_71_10 K fl_RX7_91 dX7_isKite_50 ?_
    refine r_topl (b := (lN (405095))) (hLv) ?_
    refine r_ldc2 K (v := (lN (374961))) kl_RX7_121 dX7_isKite_53 ?_
    refine n_lcmp_ne K 64 (by decide) dX7_isKite_56 dX7_isKite_57 (by decide) (fun _ => ?_) (fun z => absurd z (by decide))
    refine r_aload_n K 0 rfl rfl dX7_isKite_64 ?_
    refine get_71_10 K fl_RX7_91 dX7_isKite_65 ?_
    refine r_topl (b := (lN (405095))) (hLv) ?_
    refine r_ldc2 K (v := (lN (405095))) kl_RX7_123 dX7_isKite_68 ?_
    refine n_lcmp_ne K 79 (by decide) dX7_isKite_71 dX7_isKite_72 (by decide) (fun z => absurd z (by decide)) (fun _ => ?_)
    refine r_iconst K ((nI (4))) (by decide) dX7_isKite_75 ?_
    refine r_goto K 80 dX7_isKite_76 (by decide) ?_
    refine r_istore_n K (lv' := [(2, .int (nI (4))), (0, .ref (ad 71)), (1, .int (nI (wh)))]) 2 rfl (by decide) rfl dX7_isKite_80 ?_
    refine r_iload_n K 2 rfl rfl dX7_isKite_81 ?_
    refine r_iconst K ((-1)) (by decide) dX7_isKite_82 ?_
    refine r_icmp_ne K 91 dX7_isKite_83 (by decide) (fun _ => ?_) (fun z => absurd z (by decide))
    refine r_aload_n K 0 rfl rfl dX7_isKite_91 ?_
    refine get_71_16 K fl_RX7_26 dX7_isKite_92 ?_
    refine r_iload_n K 1 rfl rfl dX7_isKite_95 ?_
    refine r_iload_n K 2 rfl rfl dX7_isKite_96 ?_
    refine r_iast K 50 (n := 48) (by decide) rfl rfl (by decide) (by omega) dX7_isKite_97 ?_
    refine r_iconst K ((nI (1))) (by decide) dX7_isKite_98 ?_
    exact r_zret K (b := true) hr (⟨by rw [show okK X p = true from decide_eq_true (by omega)], rfl, same_sA (same_w tsa (by simp) (by simp) (by simp) id) (by simp) _, t17a, fun _ => by rw [sA_at, tsa.1 50 (by simp), hwd], fun z => absurd (show okK X p = true from decide_eq_true (by omega)) (by rw [z]; decide)⟩) dX7_isKite_99
  · have hno := kite_no hwd
    refine r_aload_n K 0 rfl rfl dX7_isKite_4 ?_
    refine get_71_10 K fl_RX7_91 dX7_isKite_5 ?_
    refine r_ldc2 K (v := (lN (8740238))) kl_RX7_115 dX7_isKite_8 ?_
    refine r_lcmp_ne K 19 trivial dX7_isKite_11 dX7_isKite_12 (by decide) (fun _ => ?_) (fun z => absurd z (fun (z : s_a.L = lN 8740238) => hno 8 (by decide) (by decide) ((tokV_w X p (by decide)).mp (by rw [← tLa, z, codes.2.2.2.2.2.2.2.2.1]))))
    refine r_aload_n K 0 rfl rfl dX7_isKite_19 ?_
    refine get_71_10 K fl_RX7_91 dX7_isKite_20 ?_
    refine r_ldc2 K (v := (lN (230304361))) kl_RX7_117 dX7_isKite_23 ?_
    refine r_lcmp_ne K 34 trivial dX7_isKite_26 dX7_isKite_27 (by decide) (fun _ => ?_) (fun z => absurd z (fun (z : s_a.L = lN 230304361) => hno 9 (by decide) (by decide) ((tokV_w X p (by decide)).mp (by rw [← tLa, z, codes.2.2.2.2.2.2.2.2.2.1]))))
    refine r_aload_n K 0 rfl rfl dX7_isKite_34 ?_
    refine get_71_10 K fl_RX7_91 dX7_isKite_35 ?_
    refine r_ldc2 K (v := (lN (383153))) kl_RX7_119 dX7_isKite_38 ?_
    refine r_lcmp_ne K 49 trivial dX7_isKite_41 dX7_isKite_42 (by decide) (fun _ => ?_) (fun z => absurd z (fun (z : s_a.L = lN 383153) => hno 10 (by decide) (by decide) ((tokV_w X p (by decide)).mp (by rw [← tLa, z, codes.2.2.2.2.2.2.2.2.2.2.1]))))
    refine r_aload_n K 0 rfl rfl dX7_isKite_49 ?_
    refine get_71_10 K fl_RX7_91 dX7_isKite_50 ?_
    refine r_ldc2 K (v := (lN (374961))) kl_RX7_121 dX7_isKite_53 ?_
    refine r_lcmp_ne K 64 trivial dX7_isKite_56 dX7_isKite_57 (by decide) (fun _ => ?_) (fun z => absurd z (fun (z : s_a.L = lN 374961) => hno 11 (by decide) (by decide) ((tokV_w X p (by decide)).mp (by rw [← tLa, z, codes.2.2.2.2.2.2.2.2.2.2.2.1]))))
    refine r_aload_n K 0 rfl rfl dX7_isKite_64 ?_
    refine get_71_10 K fl_RX7_91 dX7_isKite_65 ?_
    refine r_ldc2 K (v := (lN (405095))) kl_RX7_123 dX7_isKite_68 ?_
    refine r_lcmp_ne K 79 trivial dX7_isKite_71 dX7_isKite_72 (by decide) (fun _ => ?_) (fun z => absurd z (fun (z : s_a.L = lN 405095) => hno 12 (by decide) (by decide) ((tokV_w X p (by decide)).mp (by rw [← tLa, z, codes.2.2.2.2.2.2.2.2.2.2.2.2]))))
    refine r_iconst K ((-1)) (by decide) dX7_isKite_79 ?_
    refine r_istore_n K (lv' := [(2, .int (-1)), (0, .ref (ad 71)), (1, .int (nI (wh)))]) 2 rfl (by decide) rfl dX7_isKite_80 ?_
    refine r_iload_n K 2 rfl rfl dX7_isKite_81 ?_
    refine r_iconst K ((-1)) (by decide) dX7_isKite_82 ?_
    refine r_icmp_ne K 91 dX7_isKite_83 (by decide) (fun z => absurd z (by decide)) (fun _ => ?_)
    refine r_aload_n K 0 rfl rfl dX7_isKite_86 ?_
    refine r_callV K 71 (As := []) (rest := []) mv_X7_fails ml_RX7_111 (m_fails (a := tkS X p) (t18a)) (by decide) rfl rfl rfl rfl (Nat.le_of_ble_eq_true rfl) ⟨by decide, by decide⟩ dX7_isKite_87 (fun r_f ad_f s_f h_f => ?_)
    obtain ⟨rfl, rfl, rfl⟩ := h_f
    refine r_st (st' := [.int (bI false)]) rfl ?_
    exact r_zret K (b := false) hr (⟨by rw [show okK X p = false from decide_eq_false (by omega)], rfl, same_sI (same_w tsa (by simp) (by simp) (by simp) id) (by simp) _, (sI_ne _ _ (by decide)).trans t17a, fun z => absurd (of_decide_eq_true z) (by omega), fun _ => ⟨sI_at _ _ _, tsa.1 50 (by simp)⟩⟩) dX7_isKite_90

def mlP (X : Tv) (p wh rc k : Nat) (σ s : Sg) : Prop := same [50] [17, 18, 19, 20, 21, 23] [] true σ s ∧ s.I 23 = nI rc ∧ (∀ j, j < k → s.A 50 (wh + (j + 1)) = nI (numS X p (j + 1))) ∧ ∀ i, (i < wh + 1 ∨ wh + 5 < i) → s.A 50 i = σ.A 50 i
theorem mlP_s {X : Tv} {p wh rc k v : Nat} {σ s s2 : Sg} (h : mlP X p wh rc k σ s) (hk : k < 5) (hs : same [50] [17, 18, 19, 20, 21] [] true s s2) (h50 : s2.A 50 = upd (s.A 50) (wh + (k + 1)) (nI v)) (hv : v = numS X p (k + 1)) : mlP X p wh rc (k + 1) σ s2 := by
  obtain ⟨a1, a2, a3, a4⟩ := h
  refine ⟨same_tr a1 (same_w hs (by simp) (by simp) (by simp) id), (hs.2.1 23 (by simp)).trans a2, fun j hj => ?_, fun i hi => ?_⟩
  · rw [h50]
    unfold upd
    by_cases e : j = k
    · subst e; rw [if_pos rfl, hv]
    · rw [if_neg (by omega)]; exact a3 j (by omega)
  · rw [h50]
    unfold upd
    rw [if_neg (by omega)]
    exact a4 i hi
theorem mlP_f {X : Tv} {p wh rc k : Nat} {σ s s2 : Sg} (h : mlP X p wh rc k σ s) (hs : same [50] [17, 18, 19, 20, 21] [] true s s2) (h50 : s2.A 50 = s.A 50) : mlP X p wh rc k σ s2 := by
  obtain ⟨a1, a2, a3, a4⟩ := h
  exact ⟨same_tr a1 (same_w hs (by simp) (by simp) (by simp) id), (hs.2.1 23 (by simp)).trans a2, by rw [h50]; exact a3, by rw [h50]; exact a4⟩
set_option maxHeartbeats 400000 in
set_option maxRecDepth 10000 in
theorem m_isReachLine {g : Gp} {lau : Launch} {ad : Nat → Nat} {σ : Sg} {X : Tv} (hXo : XOk X) (hX : RepX 16 49 X σ) {p wh rc : Nat} (hp : p ≤ X 0 0) (g17 : σ.I 17 = nI (teS X p)) (g18 : σ.I 18 = nI (tkS X p)) (g23 : σ.I 23 = nI rc) (hrc : rc ≤ 8) (hwh : wh ≤ 42) : Con g lau yX7_isReachLine cX7_isReachLine 2 (Option.some .boolean) 3 65 [.ref (ad 71), .int (nI (wh))] ad σ (fun r a2 s2 => some (.int (bI (if rc < 8 then l1 X (teS X p) 0 7 (l1 X (teS X (teS X p)) 1 20 (true, teS X (teS X (teS X p)))) else (false, tkS X p)).1)) = r ∧ ad = a2 ∧ ((if rc < 8 then l1 X (teS X p) 0 7 (l1 X (teS X (teS X p)) 1 20 (true, teS X (teS X (teS X p)))) else (false, tkS X p)).1 = true → s2.I 17 = nI (if rc < 8 then l1 X (teS X p) 0 7 (l1 X (teS X (teS X p)) 1 20 (true, teS X (teS X (teS X p)))) else (false, tkS X p)).2 ∧ mlP X p wh (rc + 1) 2 σ s2) ∧ ((if rc < 8 then l1 X (teS X p) 0 7 (l1 X (teS X (teS X p)) 1 20 (true, teS X (teS X (teS X p)))) else (false, tkS X p)).1 = false → s2.I 21 = nI (if rc < 8 then l1 X (teS X p) 0 7 (l1 X (teS X (teS X p)) 1 20 (true, teS X (teS X (teS X p)))) else (false, tkS X p)).2 ∧ same [50] [17, 18, 19, 20, 21, 23] [] true σ s2 ∧ ∀ i, (i < wh + 1 ∨ wh + 5 < i) → s2.A 50 i = σ.A 50 i)) := by
  refine con_mk (by decide) (Nat.le_of_ble_eq_true rfl) (fun x hxl K hr => ?_)
  subst hxl
  refine r_lv (lv' := [(0, .ref (ad 71)), (1, .int (nI (wh)))]) rfl ?_
  have hx200 := hXo.1
  obtain ⟨q1, q2, q3, q4, q5, q6⟩ := teS5_le hp
  have hL0 : mlP X p wh rc 0 σ σ := ⟨same_rf _ _ _ _ _, g23, fun j hj => absurd hj (Nat.not_lt_zero j), fun i _ => rfl⟩
  refine r_aload_n K 0 rfl rfl dX7_isReachLine_0 ?_
  refine get_71_15 K fl_RX7_125 dX7_isReachLine_1 ?_
  refine r_topi (b := (nI (rc))) (g23) ?_
  refine r_bipush K ((nI (8))) (by decide) dX7_isReachLine_4 ?_
  refine n_icmp_ne K 14 (by omega) (by omega) dX7_isReachLine_6 (by decide) (fun h6 => ?_) (fun h6 => ?_)
  · refine r_aload_n K 0 rfl rfl dX7_isReachLine_14 ?_
    refine r_dup K rfl dX7_isReachLine_15 ?_
    refine get_71_15 K fl_RX7_125 dX7_isReachLine_16 ?_
    refine r_topi (b := (nI (rc))) (g23) ?_
    refine r_iconst K ((nI (1))) (by decide) dX7_isReachLine_19 ?_
    refine r_iadd K dX7_isReachLine_20 ?_
    refine r_topi (nI_add _ _) ?_
    refine put_71_15 K fl_RX7_125 dX7_isReachLine_21 ?_
    have hr8 : rc < 8 := by omega
    have hL0 : mlP X p wh (rc + 1) 0 σ ((σ).sI 23 ((nI (rc + 1)))) := ⟨same_sI (same_rf _ _ _ _ _) (by simp) _, sI_at _ _ _, fun j hj => absurd hj (Nat.not_lt_zero j), fun i _ => rfl⟩
    have hX0 : RepX 16 49 X ((σ).sI 23 ((nI (rc + 1)))) := ⟨by rw [sI_ne _ _ (by decide)]; exact hX.1, hX.2⟩
    have g170 : ((σ).sI 23 ((nI (rc + 1)))).I 17 = nI (teS X p) := by rw [sI_ne _ _ (by decide)]; exact g17
    generalize ez : (σ).sI 23 ((nI (rc + 1))) = s0 at hL0 hX0 g170 ⊢
    refine r_aload_n K 0 rfl rfl dX7_isReachLine_24 ?_
    refine r_iload_n K 1 rfl rfl dX7_isReachLine_25 ?_
    refine r_iconst K ((nI (1))) (by decide) dX7_isReachLine_26 ?_
    refine r_iadd K dX7_isReachLine_27 ?_
    refine r_topi (nI_add _ _) ?_
    refine r_iconst K ((nI (0))) (by decide) dX7_isReachLine_28 ?_
    refine r_bipush K ((nI (7))) (by decide) dX7_isReachLine_29 ?_
    refine r_callV K 71 (As := [.int (nI (wh + 1)), .int (nI (0)), .int (nI (7))]) (rest := []) mv_X7_isNumber ml_RX7_128 (m_isNumber hXo hX0 (p := teS X p) (wh := wh + 1) (lo := 0) (hi := 7) q1 g170 (by omega) (by decide) (by decide)) (by decide) rfl rfl rfl rfl (Nat.le_of_ble_eq_true rfl) ⟨by decide, by decide⟩ dX7_isReachLine_31 (fun r_n1 ad_n1 s_n1 h_n1 => ?_)
    obtain ⟨rfl, rfl, ns1, n171, nk1, nf1⟩ := h_n1
    refine r_st (st' := [.int (bI (okN X (teS X p) 0 7))]) rfl ?_
    have hXn1 : RepX 16 49 X s_n1 := RepX_same hX0 ns1 (by simp) (by simp)
    refine b_if_eq K 54 dX7_isReachLine_34 (by decide) (fun h34 => ?_) (fun h34 => ?_)
    · refine r_iconst K ((nI (0))) (by decide) dX7_isReachLine_54 ?_
      exact r_zret K (b := false) hr (⟨by simp [l1, *], rfl, fun z => by simp [l1, *] at z, fun _ => ⟨by rw [(nf1 h34).1]; simp [l1, *], (mlP_f hL0 ns1 (nf1 h34).2).1, (mlP_f hL0 ns1 (nf1 h34).2).2.2.2⟩⟩) dX7_isReachLine_55
    · have hL1 := mlP_s hL0 (by decide) ns1 (nk1 h34) (rfl)
      refine r_aload_n K 0 rfl rfl dX7_isReachLine_37 ?_
      refine r_iload_n K 1 rfl rfl dX7_isReachLine_38 ?_
      refine r_iconst K ((nI (2))) (by decide) dX7_isReachLine_39 ?_
      refine r_iadd K dX7_isReachLine_40 ?_
      refine r_topi (nI_add _ _) ?_
      refine r_iconst K ((nI (1))) (by decide) dX7_isReachLine_41 ?_
      refine r_bipush K ((nI (20))) (by decide) dX7_isReachLine_42 ?_
      refine r_callV K 71 (As := [.int (nI (wh + 2)), .int (nI (1)), .int (nI (20))]) (rest := []) mv_X7_isNumber ml_RX7_128 (m_isNumber hXo hXn1 (p := teS X (teS X p)) (wh := wh + 2) (lo := 1) (hi := 20) q2 n171 (by omega) (by decide) (by decide)) (by decide) rfl rfl rfl rfl (Nat.le_of_ble_eq_true rfl) ⟨by decide, by decide⟩ dX7_isReachLine_44 (fun r_n2 ad_n2 s_n2 h_n2 => ?_)
      obtain ⟨rfl, rfl, ns2, n172, nk2, nf2⟩ := h_n2
      refine r_st (st' := [.int (bI (okN X (teS X (teS X p)) 1 20))]) rfl ?_
      have hXn2 : RepX 16 49 X s_n2 := RepX_same hXn1 ns2 (by simp) (by simp)
      refine b_if_eq K 54 dX7_isReachLine_47 (by decide) (fun h47 => ?_) (fun h47 => ?_)
      · refine r_iconst K ((nI (0))) (by decide) dX7_isReachLine_54 ?_
        exact r_zret K (b := false) hr (⟨by simp [l1, *], rfl, fun z => by simp [l1, *] at z, fun _ => ⟨by rw [(nf2 h47).1]; simp [l1, *], (mlP_f hL1 ns2 (nf2 h47).2).1, (mlP_f hL1 ns2 (nf2 h47).2).2.2.2⟩⟩) dX7_isReachLine_55
      · have hL2 := mlP_s hL1 (by decide) ns2 (nk2 h47) (rfl)
        refine r_iconst K ((nI (1))) (by decide) dX7_isReachLine_50 ?_
        refine r_goto K 55 dX7_isReachLine_51 (by decide) ?_
        exact r_zret K (b := true) hr (⟨by simp [l1, *], rfl, fun _ => ⟨by rw [n172]; simp [l1, *], hL2⟩, fun z => by simp [l1, *] at z⟩) dX7_isReachLine_55
  · refine r_aload_n K 0 rfl rfl dX7_isReachLine_9 ?_
    refine r_callV K 71 (As := []) (rest := []) mv_X7_fails ml_RX7_111 (m_fails (a := tkS X p) (g18)) (by decide) rfl rfl rfl rfl (Nat.le_of_ble_eq_true rfl) ⟨by decide, by decide⟩ dX7_isReachLine_10 (fun r_f ad_f s_f h_f => ?_)
    obtain ⟨rfl, rfl, rfl⟩ := h_f
    refine r_st (st' := [.int (bI false)]) rfl ?_
    exact r_zret K (b := false) hr (⟨by simp [l1, *, show ¬ rc < 8 by omega], rfl, fun z => by simp [l1, *, show ¬ rc < 8 by omega] at z, fun _ => ⟨by rw [sI_at]; simp [l1, *, show ¬ rc < 8 by omega], same_sI hL0.1 (by simp) _, hL0.2.2.2⟩⟩) dX7_isReachLine_13

set_option maxHeartbeats 400000 in
set_option maxRecDepth 10000 in
theorem m_isWind {g : Gp} {lau : Launch} {ad : Nat → Nat} {σ : Sg} {X : Tv} (hXo : XOk X) (hX : RepX 16 49 X σ) {p wh rc : Nat} (hp : p ≤ X 0 0) (g17 : σ.I 17 = nI (teS X p)) (g18 : σ.I 18 = nI (tkS X p)) (g23 : σ.I 23 = nI rc) (hrc : rc ≤ 8) (hwh : wh ≤ 42) (hw5 : wordS X p ≠ 5) : Con g lau yX7_isWind cX7_isWind 2 (Option.some .boolean) 3 65 [.ref (ad 71), .int (nI (wh))] ad σ (fun r a2 s2 => some (.int (bI (l1 X (teS X p) 0 5 (l1 X (teS X (teS X p)) 0 23 (l1 X (teS X (teS X (teS X p))) (nvS X (teS X (teS X p))) 23 (l1 X (teS X (teS X (teS X (teS X p)))) 0 7 (l1 X (teS X (teS X (teS X (teS X (teS X p))))) 0 9 (true, teS X (teS X (teS X (teS X (teS X (teS X p))))))))))).1)) = r ∧ ad = a2 ∧ ((l1 X (teS X p) 0 5 (l1 X (teS X (teS X p)) 0 23 (l1 X (teS X (teS X (teS X p))) (nvS X (teS X (teS X p))) 23 (l1 X (teS X (teS X (teS X (teS X p)))) 0 7 (l1 X (teS X (teS X (teS X (teS X (teS X p))))) 0 9 (true, teS X (teS X (teS X (teS X (teS X (teS X p))))))))))).1 = true → s2.I 17 = nI (l1 X (teS X p) 0 5 (l1 X (teS X (teS X p)) 0 23 (l1 X (teS X (teS X (teS X p))) (nvS X (teS X (teS X p))) 23 (l1 X (teS X (teS X (teS X (teS X p)))) 0 7 (l1 X (teS X (teS X (teS X (teS X (teS X p))))) 0 9 (true, teS X (teS X (teS X (teS X (teS X (teS X p))))))))))).2 ∧ mlP X p wh rc 5 σ s2) ∧ ((l1 X (teS X p) 0 5 (l1 X (teS X (teS X p)) 0 23 (l1 X (teS X (teS X (teS X p))) (nvS X (teS X (teS X p))) 23 (l1 X (teS X (teS X (teS X (teS X p)))) 0 7 (l1 X (teS X (teS X (teS X (teS X (teS X p))))) 0 9 (true, teS X (teS X (teS X (teS X (teS X (teS X p))))))))))).1 = false → s2.I 21 = nI (l1 X (teS X p) 0 5 (l1 X (teS X (teS X p)) 0 23 (l1 X (teS X (teS X (teS X p))) (nvS X (teS X (teS X p))) 23 (l1 X (teS X (teS X (teS X (teS X p)))) 0 7 (l1 X (teS X (teS X (teS X (teS X (teS X p))))) 0 9 (true, teS X (teS X (teS X (teS X (teS X (teS X p))))))))))).2 ∧ same [50] [17, 18, 19, 20, 21, 23] [] true σ s2 ∧ ∀ i, (i < wh + 1 ∨ wh + 5 < i) → s2.A 50 i = σ.A 50 i)) := by
  refine con_mk (by decide) (Nat.le_of_ble_eq_true rfl) (fun x hxl K hr => ?_)
  subst hxl
  refine r_lv (lv' := [(0, .ref (ad 71)), (1, .int (nI (wh)))]) rfl ?_
  have hx200 := hXo.1
  obtain ⟨q1, q2, q3, q4, q5, q6⟩ := teS5_le hp
  have hL0 : mlP X p wh rc 0 σ σ := ⟨same_rf _ _ _ _ _, g23, fun j hj => absurd hj (Nat.not_lt_zero j), fun i _ => rfl⟩
  refine r_aload_n K 0 rfl rfl dX7_isWind_0 ?_
  refine r_iload_n K 1 rfl rfl dX7_isWind_1 ?_
  refine r_iconst K ((nI (1))) (by decide) dX7_isWind_2 ?_
  refine r_iadd K dX7_isWind_3 ?_
  refine r_topi (nI_add _ _) ?_
  refine r_iconst K ((nI (0))) (by decide) dX7_isWind_4 ?_
  refine r_iconst K ((nI (5))) (by decide) dX7_isWind_5 ?_
  refine r_callV K 71 (As := [.int (nI (wh + 1)), .int (nI (0)), .int (nI (5))]) (rest := []) mv_X7_isNumber ml_RX7_128 (m_isNumber hXo hX (p := teS X p) (wh := wh + 1) (lo := 0) (hi := 5) q1 g17 (by omega) (by decide) (by decide)) (by decide) rfl rfl rfl rfl (Nat.le_of_ble_eq_true rfl) ⟨by decide, by decide⟩ dX7_isWind_6 (fun r_n1 ad_n1 s_n1 h_n1 => ?_)
  obtain ⟨rfl, rfl, ns1, n171, nk1, nf1⟩ := h_n1
  refine r_st (st' := [.int (bI (okN X (teS X p) 0 5))]) rfl ?_
  have hXn1 : RepX 16 49 X s_n1 := RepX_same hX ns1 (by simp) (by simp)
  refine b_if_eq K 75 dX7_isWind_9 (by decide) (fun h9 => ?_) (fun h9 => ?_)
  · refine r_iconst K ((nI (0))) (by decide) dX7_isWind_75 ?_
    exact r_zret K (b := false) hr (⟨by simp [l1, *], rfl, fun z => by simp [l1, *] at z, fun _ => ⟨by rw [(nf1 h9).1]; simp [l1, *], (mlP_f hL0 ns1 (nf1 h9).2).1, (mlP_f hL0 ns1 (nf1 h9).2).2.2.2⟩⟩) dX7_isWind_76
  · have hL1 := mlP_s hL0 (by decide) ns1 (nk1 h9) (rfl)
    refine r_aload_n K 0 rfl rfl dX7_isWind_12 ?_
    refine r_iload_n K 1 rfl rfl dX7_isWind_13 ?_
    refine r_iconst K ((nI (2))) (by decide) dX7_isWind_14 ?_
    refine r_iadd K dX7_isWind_15 ?_
    refine r_topi (nI_add _ _) ?_
    refine r_iconst K ((nI (0))) (by decide) dX7_isWind_16 ?_
    refine r_bipush K ((nI (23))) (by decide) dX7_isWind_17 ?_
    refine r_callV K 71 (As := [.int (nI (wh + 2)), .int (nI (0)), .int (nI (23))]) (rest := []) mv_X7_isNumber ml_RX7_128 (m_isNumber hXo hXn1 (p := teS X (teS X p)) (wh := wh + 2) (lo := 0) (hi := 23) q2 n171 (by omega) (by decide) (by decide)) (by decide) rfl rfl rfl rfl (Nat.le_of_ble_eq_true rfl) ⟨by decide, by decide⟩ dX7_isWind_19 (fun r_n2 ad_n2 s_n2 h_n2 => ?_)
    obtain ⟨rfl, rfl, ns2, n172, nk2, nf2⟩ := h_n2
    refine r_st (st' := [.int (bI (okN X (teS X (teS X p)) 0 23))]) rfl ?_
    have hXn2 : RepX 16 49 X s_n2 := RepX_same hXn1 ns2 (by simp) (by simp)
    refine b_if_eq K 75 dX7_isWind_22 (by decide) (fun h22 => ?_) (fun h22 => ?_)
    · refine r_iconst K ((nI (0))) (by decide) dX7_isWind_75 ?_
      exact r_zret K (b := false) hr (⟨by simp [l1, *], rfl, fun z => by simp [l1, *] at z, fun _ => ⟨by rw [(nf2 h22).1]; simp [l1, *], (mlP_f hL1 ns2 (nf2 h22).2).1, (mlP_f hL1 ns2 (nf2 h22).2).2.2.2⟩⟩) dX7_isWind_76
    · have hL2 := mlP_s hL1 (by decide) ns2 (nk2 h22) (rfl)
      refine r_aload_n K 0 rfl rfl dX7_isWind_25 ?_
      refine r_iload_n K 1 rfl rfl dX7_isWind_26 ?_
      refine r_iconst K ((nI (3))) (by decide) dX7_isWind_27 ?_
      refine r_iadd K dX7_isWind_28 ?_
      refine r_topi (nI_add _ _) ?_
      refine r_aload_n K 0 rfl rfl dX7_isWind_29 ?_
      refine get_71_16 K fl_RX7_26 dX7_isWind_30 ?_
      refine r_iload_n K 1 rfl rfl dX7_isWind_33 ?_
      refine r_iconst K ((nI (2))) (by decide) dX7_isWind_34 ?_
      refine r_iadd K dX7_isWind_35 ?_
      refine r_topi (nI_add _ _) ?_
      refine r_iald K 50 (n := 48) (by decide) rfl rfl (by decide) (by omega) dX7_isWind_36 ?_
      have hlo2 := (okN_t h22).2
      refine r_topi (b := (nI (nvS X (teS X (teS X p))))) (hL2.2.2.1 1 (by decide)) ?_
      refine r_bipush K ((nI (23))) (by decide) dX7_isWind_37 ?_
      refine r_callV K 71 (As := [.int (nI (wh + 3)), .int (nI (nvS X (teS X (teS X p)))), .int (nI (23))]) (rest := []) mv_X7_isNumber ml_RX7_128 (m_isNumber hXo hXn2 (p := teS X (teS X (teS X p))) (wh := wh + 3) (lo := nvS X (teS X (teS X p))) (hi := 23) q3 n172 (by omega) (by omega) (by decide)) (by decide) rfl rfl rfl rfl (Nat.le_of_ble_eq_true rfl) ⟨by decide, by decide⟩ dX7_isWind_39 (fun r_n3 ad_n3 s_n3 h_n3 => ?_)
      obtain ⟨rfl, rfl, ns3, n173, nk3, nf3⟩ := h_n3
      refine r_st (st' := [.int (bI (okN X (teS X (teS X (teS X p))) (nvS X (teS X (teS X p))) 23))]) rfl ?_
      have hXn3 : RepX 16 49 X s_n3 := RepX_same hXn2 ns3 (by simp) (by simp)
      refine b_if_eq K 75 dX7_isWind_42 (by decide) (fun h42 => ?_) (fun h42 => ?_)
      · refine r_iconst K ((nI (0))) (by decide) dX7_isWind_75 ?_
        exact r_zret K (b := false) hr (⟨by simp [l1, *], rfl, fun z => by simp [l1, *] at z, fun _ => ⟨by rw [(nf3 h42).1]; simp [l1, *], (mlP_f hL2 ns3 (nf3 h42).2).1, (mlP_f hL2 ns3 (nf3 h42).2).2.2.2⟩⟩) dX7_isWind_76
      · have hL3 := mlP_s hL2 (by decide) ns3 (nk3 h42) (rfl)
        refine r_aload_n K 0 rfl rfl dX7_isWind_45 ?_
        refine r_iload_n K 1 rfl rfl dX7_isWind_46 ?_
        refine r_iconst K ((nI (4))) (by decide) dX7_isWind_47 ?_
        refine r_iadd K dX7_isWind_48 ?_
        refine r_topi (nI_add _ _) ?_
        refine r_iconst K ((nI (0))) (by decide) dX7_isWind_49 ?_
        refine r_bipush K ((nI (7))) (by decide) dX7_isWind_50 ?_
        refine r_callV K 71 (As := [.int (nI (wh + 4)), .int (nI (0)), .int (nI (7))]) (rest := []) mv_X7_isNumber ml_RX7_128 (m_isNumber hXo hXn3 (p := teS X (teS X (teS X (teS X p)))) (wh := wh + 4) (lo := 0) (hi := 7) q4 n173 (by omega) (by decide) (by decide)) (by decide) rfl rfl rfl rfl (Nat.le_of_ble_eq_true rfl) ⟨by decide, by decide⟩ dX7_isWind_52 (fun r_n4 ad_n4 s_n4 h_n4 => ?_)
        obtain ⟨rfl, rfl, ns4, n174, nk4, nf4⟩ := h_n4
        refine r_st (st' := [.int (bI (okN X (teS X (teS X (teS X (teS X p)))) 0 7))]) rfl ?_
        have hXn4 : RepX 16 49 X s_n4 := RepX_same hXn3 ns4 (by simp) (by simp)
        refine b_if_eq K 75 dX7_isWind_55 (by decide) (fun h55 => ?_) (fun h55 => ?_)
        · refine r_iconst K ((nI (0))) (by decide) dX7_isWind_75 ?_
          exact r_zret K (b := false) hr (⟨by simp [l1, *], rfl, fun z => by simp [l1, *] at z, fun _ => ⟨by rw [(nf4 h55).1]; simp [l1, *], (mlP_f hL3 ns4 (nf4 h55).2).1, (mlP_f hL3 ns4 (nf4 h55).2).2.2.2⟩⟩) dX7_isWind_76
        · have hL4 := mlP_s hL3 (by decide) ns4 (nk4 h55) (by show _ = (if wordS X p = 5 then _ else _); rw [if_neg (by omega)])
          refine r_aload_n K 0 rfl rfl dX7_isWind_58 ?_
          refine r_iload_n K 1 rfl rfl dX7_isWind_59 ?_
          refine r_iconst K ((nI (5))) (by decide) dX7_isWind_60 ?_
          refine r_iadd K dX7_isWind_61 ?_
          refine r_topi (nI_add _ _) ?_
          refine r_iconst K ((nI (0))) (by decide) dX7_isWind_62 ?_
          refine r_bipush K ((nI (9))) (by decide) dX7_isWind_63 ?_
          refine r_callV K 71 (As := [.int (nI (wh + 5)), .int (nI (0)), .int (nI (9))]) (rest := []) mv_X7_isNumber ml_RX7_128 (m_isNumber hXo hXn4 (p := teS X (teS X (teS X (teS X (teS X p))))) (wh := wh + 5) (lo := 0) (hi := 9) q5 n174 (by omega) (by decide) (by decide)) (by decide) rfl rfl rfl rfl (Nat.le_of_ble_eq_true rfl) ⟨by decide, by decide⟩ dX7_isWind_65 (fun r_n5 ad_n5 s_n5 h_n5 => ?_)
          obtain ⟨rfl, rfl, ns5, n175, nk5, nf5⟩ := h_n5
          refine r_st (st' := [.int (bI (okN X (teS X (teS X (teS X (teS X (teS X p))))) 0 9))]) rfl ?_
          have hXn5 : RepX 16 49 X s_n5 := RepX_same hXn4 ns5 (by simp) (by simp)
          refine b_if_eq K 75 dX7_isWind_68 (by decide) (fun h68 => ?_) (fun h68 => ?_)
          · refine r_iconst K ((nI (0))) (by decide) dX7_isWind_75 ?_
            exact r_zret K (b := false) hr (⟨by simp [l1, *], rfl, fun z => by simp [l1, *] at z, fun _ => ⟨by rw [(nf5 h68).1]; simp [l1, *], (mlP_f hL4 ns5 (nf5 h68).2).1, (mlP_f hL4 ns5 (nf5 h68).2).2.2.2⟩⟩) dX7_isWind_76
          · have hL5 := mlP_s hL4 (by decide) ns5 (nk5 h68) (rfl)
            refine r_iconst K ((nI (1))) (by decide) dX7_isWind_71 ?_
            refine r_goto K 76 dX7_isWind_72 (by decide) ?_
            exact r_zret K (b := true) hr (⟨by simp [l1, *], rfl, fun _ => ⟨by rw [n175]; simp [l1, *], hL5⟩, fun z => by simp [l1, *] at z⟩) dX7_isWind_76

