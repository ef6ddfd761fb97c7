/-- k numbers of a line are read -/
def lnP (X : Tv) (p w rc k : Nat) (σ s : Sg) : Prop := same [11] [4, 5, 6, 7, 8, 9] [] false σ s ∧ s.I 8 = nI k ∧ s.I 7 = wI w ∧ s.I 9 = nI rc ∧ ∀ j, j < k → s.A 11 j = nI (numS X p (j + 1))
theorem lnP_s {X : Tv} {p w rc k v : Nat} {σ s s2 : Sg} (h : lnP X p w rc k σ s) (hs : same [11] [4, 5, 6, 8] [] false s s2) (h8 : s2.I 8 = nI (k + 1)) (h11 : s2.A 11 = upd (s.A 11) k (nI v)) (hv : v = numS X p (k + 1)) : lnP X p w rc (k + 1) σ s2 := by
  obtain ⟨a1, a2, a3, a4, a5⟩ := h
  refine ⟨same_tr a1 (same_w hs (by simp) (by simp) (by simp) id), h8, (hs.2.1 7 (by simp)).trans a3, (hs.2.1 9 (by simp)).trans a4, fun j hj => ?_⟩
  rw [h11]
  unfold upd
  by_cases e : j = k
  · subst e; rw [if_pos rfl, hv]
  · rw [if_neg e]; exact a5 j (by omega)
theorem wI_8 {w : Nat} (h : w ≤ 8) (h2 : ∀ j, j ≤ 7 → w ≠ j) : wI w = -1 := by unfold wI; rw [if_pos (by have := h2 0; have := h2 1; have := h2 2; have := h2 3; have := h2 4; have := h2 5; have := h2 6; have := h2 7; omega)]
theorem wI_eq {w j : Nat} (hw : w ≤ 8) (hj : j ≤ 7) (h : wI w = nI j) : w = j := by
  have key : ∀ w, w < 9 → ∀ j, j < 8 → wI w = nI j → w = j := by decide +kernel
  exact key w (by omega) j (by omega) h
set_option maxHeartbeats 2000000 in
set_option maxRecDepth 10000 in
theorem c_readLine {g : Gp} {lau : Launch} {ad : Nat → Nat} {σ : Sg} {X : Tv} (hXo : XOk X) (hX : RepX 2 10 X σ) {p rc : Nat} (hp : p ≤ X 0 0) (g6 : σ.I 6 = nI p) (g9 : σ.I 9 = nI rc) (hrc : rc ≤ 8) : Con g lau yX5_readLine cX5_readLine 1 (Option.some .boolean) 7 148 [.ref (ad 63)] ad σ (fun r a2 s2 => some (.int (bI (lineR X p rc).1)) = r ∧ ad = a2 ∧ same [11] [4, 5, 6, 7, 8, 9] [] false σ s2 ∧ ((lineR X p rc).1 = true → s2.I 6 = nI (lineR X p rc).2 ∧ s2.I 7 = nI (wordS X p) ∧ s2.I 9 = nI (rcS (wordS X p) rc) ∧ ∀ j, j < needS (wordS X p) → s2.A 11 j = nI (numS X p (j + 1))) ∧ ((lineR X p rc).1 = false → s2.I 5 = nI (lineR X p rc).2)) := by
  refine con_mk (by decide) (Nat.le_of_ble_eq_true rfl) (fun x hxl K hr => ?_)
  subst hxl
  refine r_lv (lv' := [(0, .ref (ad 63))]) rfl ?_
  have hx200 := hXo.1
  obtain ⟨q1, q2, q3, q4, q5, q6⟩ := teS5_le hp
  refine r_aload_n K 0 rfl rfl dX5_readLine_0 ?_
  refine r_callV K 63 (As := []) (rest := []) mv_X5_readToken ml_RX5_56 (c_readToken hXo hX hp (g6)) (by decide) rfl rfl rfl rfl (Nat.le_of_ble_eq_true rfl) ⟨by decide, by decide⟩ dX5_readLine_1 (fun r_a ad_a s_a h_a => ?_)
  obtain ⟨rfl, rfl, tsa, t4a, t5a, t6a⟩ := h_a
  refine r_st (st' := []) rfl ?_
  have hXa : RepX 2 10 X s_a := RepX_same hX tsa (by simp) (by simp)
  have hka := kdS_le X (tkS X p)
  have htta := tk_te X p
  have htea := teS_le hp
  refine r_aload_n K 0 rfl rfl dX5_readLine_4 ?_
  refine r_iconst K ((nI (0))) (by decide) dX5_readLine_5 ?_
  refine put_63_7 K fl_RX5_34 dX5_readLine_6 ?_
  refine r_aload_n K 0 rfl rfl dX5_readLine_9 ?_
  refine r_aload_n K 0 rfl rfl dX5_readLine_10 ?_
  have hXw : RepX 2 10 X ((s_a).sI 8 ((nI (0)))) := ⟨by rw [sI_ne _ _ (by decide)]; exact hXa.1, hXa.2⟩
  refine r_callVp K 63 (As := []) mv_X5_wordOfLine ml_RX5_59 (c_wordOfLine hXo hXw hp (by rw [sI_ne _ _ (by decide)]; exact t5a) (by rw [sI_ne _ _ (by decide)]; exact t6a)) (by decide) rfl rfl rfl rfl (Nat.le_of_ble_eq_true rfl) ⟨by decide, by decide⟩ dX5_readLine_11 ?_
  refine put_63_6 K fl_RX5_31 dX5_readLine_14 ?_
  refine r_aload_n K 0 rfl rfl dX5_readLine_17 ?_
  refine get_63_6 K fl_RX5_31 dX5_readLine_18 ?_
  refine r_topi (b := (wI (wordS X p))) rfl ?_
  have hwle := wordS_le X p
  have hL0 : lnP X p (wordS X p) rc 0 σ (((s_a).sI 8 ((nI (0)))).sI 7 ((wI (wordS X p)))) := ⟨same_sI (same_sI (same_w tsa (by simp) (by simp) (by simp) id) (by simp) _) (by simp) _, by rw [sI_ne _ _ (by decide), sI_at], sI_at _ _ _, by rw [sI_ne _ _ (by decide), sI_ne _ _ (by decide)]; exact (tsa.2.1 9 (by simp)).trans g9, fun j hj => absurd hj (Nat.not_lt_zero j)⟩
  have hX0 : RepX 2 10 X (((s_a).sI 8 ((nI (0)))).sI 7 ((wI (wordS X p)))) := ⟨by rw [sI_ne _ _ (by decide), sI_ne _ _ (by decide)]; exact hXa.1, hXa.2⟩
  have g60 : (((s_a).sI 8 ((nI (0)))).sI 7 ((wI (wordS X p)))).I 6 = nI (teS X p) := by rw [sI_ne _ _ (by decide), sI_ne _ _ (by decide)]; exact t6a
  have g50 : (((s_a).sI 8 ((nI (0)))).sI 7 ((wI (wordS X p)))).I 5 = nI (tkS X p) := by rw [sI_ne _ _ (by decide), sI_ne _ _ (by decide)]; exact t5a
  generalize ez : ((s_a).sI 8 ((nI (0)))).sI 7 ((wI (wordS X p))) = s0 at hL0 hX0 g60 g50 ⊢
  by_cases hwd : wordS X p = 0
  · refine r_topi (b := nI 0) (by rw [hwd]; rfl) ?_
    refine r_tableIn K 68 dX5_readLine_21 (by decide) (by decide) rfl (by decide) ?_
    refine r_aload_n K 0 rfl rfl dX5_readLine_68 ?_
    refine r_dup K rfl dX5_readLine_69 ?_
    refine get_63_9 K fl_RX5_40 dX5_readLine_70 ?_
    refine r_topi (b := (nI (rc))) (hL0.2.2.2.1) ?_
    refine r_iconst K ((nI (1))) (by decide) dX5_readLine_73 ?_
    refine r_iadd K dX5_readLine_74 ?_
    refine r_topi (nI_add _ _) ?_
    refine put_63_9 K fl_RX5_40 dX5_readLine_75 ?_
    refine r_aload_n K 0 rfl rfl dX5_readLine_78 ?_
    refine get_63_9 K fl_RX5_40 dX5_readLine_79 ?_
    refine r_topi (b := (nI (rc + 1))) rfl ?_
    refine r_bipush K ((nI (8))) (by decide) dX5_readLine_82 ?_
    refine n_icmp_gt K 111 (by omega) (by omega) dX5_readLine_84 (by decide) (fun h84 => ?_) (fun h84 => ?_)
    · refine r_iconst K ((nI (0))) (by decide) dX5_readLine_111 ?_
      exact r_zret K (b := false) hr (⟨by rw [show (lineR X p rc).1 = false from by simp [lineR, hwd, show ¬ rc < 8 by omega]], rfl, same_sI hL0.1 (by simp) _, fun z => by simp [lineR, hwd, show ¬ rc < 8 by omega] at z, fun _ => by rw [show (lineR X p rc).2 = tkS X p from by simp [lineR, hwd, show ¬ rc < 8 by omega]]; exact (sI_ne _ _ (by decide)).trans g50⟩) dX5_readLine_112
    · have hr8 : rc < 8 := by omega
      have hL0 : lnP X p (wordS X p) (rc + 1) 0 σ ((s0).sI 9 ((nI (rc + 1)))) := ⟨same_sI hL0.1 (by simp) _, by rw [sI_ne _ _ (by decide)]; exact hL0.2.1, by rw [sI_ne _ _ (by decide)]; exact hL0.2.2.1, sI_at _ _ _, hL0.2.2.2.2⟩
      have hX0 : RepX 2 10 X ((s0).sI 9 ((nI (rc + 1)))) := ⟨by rw [sI_ne _ _ (by decide)]; exact hX0.1, hX0.2⟩
      have g60 : ((s0).sI 9 ((nI (rc + 1)))).I 6 = nI (teS X p) := by rw [sI_ne _ _ (by decide)]; exact g60
      generalize ez2 : (s0).sI 9 ((nI (rc + 1))) = s9 at hL0 hX0 g60 ⊢
      refine r_aload_n K 0 rfl rfl dX5_readLine_87 ?_
      refine r_iconst K ((nI (0))) (by decide) dX5_readLine_88 ?_
      refine r_bipush K ((nI (7))) (by decide) dX5_readLine_89 ?_
      refine r_callV K 63 (As := [.int (nI (0)), .int (nI (7))]) (rest := []) mv_X5_readNumber ml_RX5_63 (c_readNumber hXo hX0 (p := teS X p) (f := 0) (lo := 0) (hi := 7) q1 g60 (by decide) hL0.2.1 (by decide) (by decide)) (by decide) rfl rfl rfl rfl (Nat.le_of_ble_eq_true rfl) ⟨by decide, by decide⟩ dX5_readLine_91 (fun r_n1 ad_n1 s_n1 h_n1 => ?_)
      obtain ⟨rfl, rfl, ns1, n51, n61, nk1⟩ := h_n1
      refine r_st (st' := [.int (bI (okN X (teS X p) 0 7))]) rfl ?_
      have hXn1 : RepX 2 10 X s_n1 := RepX_same hX0 ns1 (by simp) (by simp)
      refine b_if_eq K 111 dX5_readLine_94 (by decide) (fun h94 => ?_) (fun h94 => ?_)
      · refine r_iconst K ((nI (0))) (by decide) dX5_readLine_111 ?_
        exact r_zret K (b := false) hr (⟨by rw [show (lineR X p rc).1 = false from by simp [lineR, l1, l2, hwd, *]], rfl, same_tr hL0.1 (same_w ns1 (by simp) (by simp) (by simp) id), fun z => by simp [lineR, l1, l2, hwd, *] at z, fun _ => by rw [show (lineR X p rc).2 = tkS X (teS X p) from by simp [lineR, l1, l2, hwd, *]]; exact n51⟩) dX5_readLine_112
      · have hL1 := lnP_s hL0 ns1 (nk1 h94).1 (nk1 h94).2 (rfl)
        refine r_aload_n K 0 rfl rfl dX5_readLine_97 ?_
        refine r_iconst K ((nI (1))) (by decide) dX5_readLine_98 ?_
        refine r_bipush K ((nI (20))) (by decide) dX5_readLine_99 ?_
        refine r_callV K 63 (As := [.int (nI (1)), .int (nI (20))]) (rest := []) mv_X5_readNumber ml_RX5_63 (c_readNumber hXo hXn1 (p := teS X (teS X p)) (f := 1) (lo := 1) (hi := 20) q2 n61 (by decide) hL1.2.1 (by decide) (by decide)) (by decide) rfl rfl rfl rfl (Nat.le_of_ble_eq_true rfl) ⟨by decide, by decide⟩ dX5_readLine_101 (fun r_n2 ad_n2 s_n2 h_n2 => ?_)
        obtain ⟨rfl, rfl, ns2, n52, n62, nk2⟩ := h_n2
        refine r_st (st' := [.int (bI (okN X (teS X (teS X p)) 1 20))]) rfl ?_
        have hXn2 : RepX 2 10 X s_n2 := RepX_same hXn1 ns2 (by simp) (by simp)
        refine b_if_eq K 111 dX5_readLine_104 (by decide) (fun h104 => ?_) (fun h104 => ?_)
        · refine r_iconst K ((nI (0))) (by decide) dX5_readLine_111 ?_
          exact r_zret K (b := false) hr (⟨by rw [show (lineR X p rc).1 = false from by simp [lineR, l1, l2, hwd, *]], rfl, same_tr hL1.1 (same_w ns2 (by simp) (by simp) (by simp) id), fun z => by simp [lineR, l1, l2, hwd, *] at z, fun _ => by rw [show (lineR X p rc).2 = tkS X (teS X (teS X p)) from by simp [lineR, l1, l2, hwd, *]]; exact n52⟩) dX5_readLine_112
        · have hL2 := lnP_s hL1 ns2 (nk2 h104).1 (nk2 h104).2 (rfl)
          refine r_iconst K ((nI (1))) (by decide) dX5_readLine_107 ?_
          refine r_goto K 112 dX5_readLine_108 (by decide) ?_
          exact r_zret K (b := true) hr (⟨by rw [show (lineR X p rc).1 = true from by simp [lineR, l1, l2, hwd, *]], rfl, hL2.1, fun _ => ⟨by rw [n62]; simp [lineR, l1, l2, hwd, *], by rw [hL2.2.2.1, hwd]; rfl, by rw [hL2.2.2.2.1]; simp [rcS, hwd], fun j hj => hL2.2.2.2.2 j (by rw [hwd] at hj; exact hj)⟩, fun z => by simp [lineR, l1, l2, hwd, *] at z⟩) dX5_readLine_112
  · by_cases hwd : wordS X p = 1
    · refine r_topi (b := nI 1) (by rw [hwd]; rfl) ?_
      refine r_tableIn K 68 dX5_readLine_21 (by decide) (by decide) rfl (by decide) ?_
      refine r_aload_n K 0 rfl rfl dX5_readLine_68 ?_
      refine r_dup K rfl dX5_readLine_69 ?_
      refine get_63_9 K fl_RX5_40 dX5_readLine_70 ?_
      refine r_topi (b := (nI (rc))) (hL0.2.2.2.1) ?_
      refine r_iconst K ((nI (1))) (by decide) dX5_readLine_73 ?_
      refine r_iadd K dX5_readLine_74 ?_
      refine r_topi (nI_add _ _) ?_
      refine put_63_9 K fl_RX5_40 dX5_readLine_75 ?_
      refine r_aload_n K 0 rfl rfl dX5_readLine_78 ?_
      refine get_63_9 K fl_RX5_40 dX5_readLine_79 ?_
      refine r_topi (b := (nI (rc + 1))) rfl ?_
      refine r_bipush K ((nI (8))) (by decide) dX5_readLine_82 ?_
      refine n_icmp_gt K 111 (by omega) (by omega) dX5_readLine_84 (by decide) (fun h84 => ?_) (fun h84 => ?_)
      · refine r_iconst K ((nI (0))) (by decide) dX5_readLine_111 ?_
        exact r_zret K (b := false) hr (⟨by rw [show (lineR X p rc).1 = false from by simp [lineR, hwd, show ¬ rc < 8 by omega]], rfl, same_sI hL0.1 (by simp) _, fun z => by simp [lineR, hwd, show ¬ rc < 8 by omega] at z, fun _ => by rw [show (lineR X p rc).2 = tkS X p from by simp [lineR, hwd, show ¬ rc < 8 by omega]]; exact (sI_ne _ _ (by decide)).trans g50⟩) dX5_readLine_112
      · have hr8 : rc < 8 := by omega
        have hL0 : lnP X p (wordS X p) (rc + 1) 0 σ ((s0).sI 9 ((nI (rc + 1)))) := ⟨same_sI hL0.1 (by simp) _, by rw [sI_ne _ _ (by decide)]; exact hL0.2.1, by rw [sI_ne _ _ (by decide)]; exact hL0.2.2.1, sI_at _ _ _, hL0.2.2.2.2⟩
        have hX0 : RepX 2 10 X ((s0).sI 9 ((nI (rc + 1)))) := ⟨by rw [sI_ne _ _ (by decide)]; exact hX0.1, hX0.2⟩
        have g60 : ((s0).sI 9 ((nI (rc + 1)))).I 6 = nI (teS X p) := by rw [sI_ne _ _ (by decide)]; exact g60
        generalize ez2 : (s0).sI 9 ((nI (rc + 1))) = s9 at hL0 hX0 g60 ⊢
        refine r_aload_n K 0 rfl rfl dX5_readLine_87 ?_
        refine r_iconst K ((nI (0))) (by decide) dX5_readLine_88 ?_
        refine r_bipush K ((nI (7))) (by decide) dX5_readLine_89 ?_
        refine r_callV K 63 (As := [.int (nI (0)), .int (nI (7))]) (rest := []) mv_X5_readNumber ml_RX5_63 (c_readNumber hXo hX0 (p := teS X p) (f := 0) (lo := 0) (hi := 7) q1 g60 (by decide) hL0.2.1 (by decide) (by decide)) (by decide) rfl rfl rfl rfl (Nat.le_of_ble_eq_true rfl) ⟨by decide, by decide⟩ dX5_readLine_91 (fun r_n1 ad_n1 s_n1 h_n1 => ?_)
        obtain ⟨rfl, rfl, ns1, n51, n61, nk1⟩ := h_n1
        refine r_st (st' := [.int (bI (okN X (teS X p) 0 7))]) rfl ?_
        have hXn1 : RepX 2 10 X s_n1 := RepX_same hX0 ns1 (by simp) (by simp)
        refine b_if_eq K 111 dX5_readLine_94 (by decide) (fun h94 => ?_) (fun h94 => ?_)
        · refine r_iconst K ((nI (0))) (by decide) dX5_readLine_111 ?_
          exact r_zret K (b := false) hr (⟨by rw [show (lineR X p rc).1 = false from by simp [lineR, l1, l2, hwd, *]], rfl, same_tr hL0.1 (same_w ns1 (by simp) (by simp) (by simp) id), fun z => by simp [lineR, l1, l2, hwd, *] at z, fun _ => by rw [show (lineR X p rc).2 = tkS X (teS X p) from by simp [lineR, l1, l2, hwd, *]]; exact n51⟩) dX5_readLine_112
        · have hL1 := lnP_s hL0 ns1 (nk1 h94).1 (nk1 h94).2 (rfl)
          refine r_aload_n K 0 rfl rfl dX5_readLine_97 ?_
          refine r_iconst K ((nI (1))) (by decide) dX5_readLine_98 ?_
          refine r_bipush K ((nI (20))) (by decide) dX5_readLine_99 ?_
          refine r_callV K 63 (As := [.int (nI (1)), .int (nI (20))]) (rest := []) mv_X5_readNumber ml_RX5_63 (c_readNumber hXo hXn1 (p := teS X (teS X p)) (f := 1) (lo := 1) (hi := 20) q2 n61 (by decide) hL1.2.1 (by decide) (by decide)) (by decide) rfl rfl rfl rfl (Nat.le_of_ble_eq_true rfl) ⟨by decide, by decide⟩ dX5_readLine_101 (fun r_n2 ad_n2 s_n2 h_n2 => ?_)
          obtain ⟨rfl, rfl, ns2, n52, n62, nk2⟩ := h_n2
          refine r_st (st' := [.int (bI (okN X (teS X (teS X p)) 1 20))]) rfl ?_
          have hXn2 : RepX 2 10 X s_n2 := RepX_same hXn1 ns2 (by simp) (by simp)
          refine b_if_eq K 111 dX5_readLine_104 (by decide) (fun h104 => ?_) (fun h104 => ?_)
          · refine r_iconst K ((nI (0))) (by decide) dX5_readLine_111 ?_
            exact r_zret K (b := false) hr (⟨by rw [show (lineR X p rc).1 = false from by simp [lineR, l1, l2, hwd, *]], rfl, same_tr hL1.1 (same_w ns2 (by simp) (by simp) (by simp) id), fun z => by simp [lineR, l1, l2, hwd, *] at z, fun _ => by rw [show (lineR X p rc).2 = tkS X (teS X (teS X p)) from by simp [lineR, l1, l2, hwd, *]]; exact n52⟩) dX5_readLine_112
          · have hL2 := lnP_s hL1 ns2 (nk2 h104).1 (nk2 h104).2 (rfl)
            refine r_iconst K ((nI (1))) (by decide) dX5_readLine_107 ?_
            refine r_goto K 112 dX5_readLine_108 (by decide) ?_
            exact r_zret K (b := true) hr (⟨by rw [show (lineR X p rc).1 = true from by simp [lineR, l1, l2, hwd, *]], rfl, hL2.1, fun _ => ⟨by rw [n62]; simp [lineR, l1, l2, hwd, *], by rw [hL2.2.2.1, hwd]; rfl, by rw [hL2.2.2.2.1]; simp [rcS, hwd], fun j hj => hL2.2.2.2.2 j (by rw [hwd] at hj; exact hj)⟩, fun z => by simp [lineR, l1, l2, hwd, *] at z⟩) dX5_readLine_112
    · by_cases hwd : wordS X p = 2
      · refine r_topi (b := nI 2) (by rw [hwd]; rfl) ?_
        refine r_tableIn K 68 dX5_readLine_21 (by decide) (by decide) rfl (by decide) ?_
        refine r_aload_n K 0 rfl rfl dX5_readLine_68 ?_
        refine r_dup K rfl dX5_readLine_69 ?_
        refine get_63_9 K fl_RX5_40 dX5_readLine_70 ?_
        refine r_topi (b := (nI (rc))) (hL0.2.2.2.1) ?_
        refine r_iconst K ((nI (1))) (by decide) dX5_readLine_73 ?_
        refine r_iadd K dX5_readLine_74 ?_
        refine r_topi (nI_add _ _) ?_
        refine put_63_9 K fl_RX5_40 dX5_readLine_75 ?_
        refine r_aload_n K 0 rfl rfl dX5_readLine_78 ?_
        refine get_63_9 K fl_RX5_40 dX5_readLine_79 ?_
        refine r_topi (b := (nI (rc + 1))) rfl ?_
        refine r_bipush K ((nI (8))) (by decide) dX5_readLine_82 ?_
        refine n_icmp_gt K 111 (by omega) (by omega) dX5_readLine_84 (by decide) (fun h84 => ?_) (fun h84 => ?_)
        · refine r_iconst K ((nI (0))) (by decide) dX5_readLine_111 ?_
          exact r_zret K (b := false) hr (⟨by rw [show (lineR X p rc).1 = false from by simp [lineR, hwd, show ¬ rc < 8 by omega]], rfl, same_sI hL0.1 (by simp) _, fun z => by simp [lineR, hwd, show ¬ rc < 8 by omega] at z, fun _ => by rw [show (lineR X p rc).2 = tkS X p from by simp [lineR, hwd, show ¬ rc < 8 by omega]]; exact (sI_ne _ _ (by decide)).trans g50⟩) dX5_readLine_112
        · have hr8 : rc < 8 := by omega
          have hL0 : lnP X p (wordS X p) (rc + 1) 0 σ ((s0).sI 9 ((nI (rc + 1)))) := ⟨same_sI hL0.1 (by simp) _, by rw [sI_ne _ _ (by decide)]; exact hL0.2.1, by rw [sI_ne _ _ (by decide)]; exact hL0.2.2.1, sI_at _ _ _, hL0.2.2.2.2⟩
          have hX0 : RepX 2 10 X ((s0).sI 9 ((nI (rc + 1)))) := ⟨by rw [sI_ne _ _ (by decide)]; exact hX0.1, hX0.2⟩
          have g60 : ((s0).sI 9 ((nI (rc + 1)))).I 6 = nI (teS X p) := by rw [sI_ne _ _ (by decide)]; exact g60
          generalize ez2 : (s0).sI 9 ((nI (rc + 1))) = s9 at hL0 hX0 g60 ⊢
          refine r_aload_n K 0 rfl rfl dX5_readLine_87 ?_
          refine r_iconst K ((nI (0))) (by decide) dX5_readLine_88 ?_
          refine r_bipush K ((nI (7))) (by decide) dX5_readLine_89 ?_
          refine r_callV K 63 (As := [.int (nI (0)), .int (nI (7))]) (rest := []) mv_X5_readNumber ml_RX5_63 (c_readNumber hXo hX0 (p := teS X p) (f := 0) (lo := 0) (hi := 7) q1 g60 (by decide) hL0.2.1 (by decide) (by decide)) (by decide) rfl rfl rfl rfl (Nat.le_of_ble_eq_true rfl) ⟨by decide, by decide⟩ dX5_readLine_91 (fun r_n1 ad_n1 s_n1 h_n1 => ?_)
          obtain ⟨rfl, rfl, ns1, n51, n61, nk1⟩ := h_n1
          refine r_st (st' := [.int (bI (okN X (teS X p) 0 7))]) rfl ?_
          have hXn1 : RepX 2 10 X s_n1 := RepX_same hX0 ns1 (by simp) (by simp)
          refine b_if_eq K 111 dX5_readLine_94 (by decide) (fun h94 => ?_) (fun h94 => ?_)
          · refine r_iconst K ((nI (0))) (by decide) dX5_readLine_111 ?_
            exact r_zret K (b := false) hr (⟨by rw [show (lineR X p rc).1 = false from by simp [lineR, l1, l2, hwd, *]], rfl, same_tr hL0.1 (same_w ns1 (by simp) (by simp) (by simp) id), fun z => by simp [lineR, l1, l2, hwd, *] at z, fun _ => by rw [show (lineR X p rc).2 = tkS X (teS X p) from by simp [lineR, l1, l2, hwd, *]]; exact n51⟩) dX5_readLine_112
          · have hL1 := lnP_s hL0 ns1 (nk1 h94).1 (nk1 h94).2 (rfl)
            refine r_aload_n K 0 rfl rfl dX5_readLine_97 ?_
            refine r_iconst K ((nI (1))) (by decide) dX5_readLine_98 ?_
            refine r_bipush K ((nI (20))) (by decide) dX5_readLine_99 ?_
            refine r_callV K 63 (As := [.int (nI (1)), .int (nI (20))]) (rest := []) mv_X5_readNumber ml_RX5_63 (c_readNumber hXo hXn1 (p := teS X (teS X p)) (f := 1) (lo := 1) (hi := 20) q2 n61 (by decide) hL1.2.1 (by decide) (by decide)) (by decide) rfl rfl rfl rfl (Nat.le_of_ble_eq_true rfl) ⟨by decide, by decide⟩ dX5_readLine_101 (fun r_n2 ad_n2 s_n2 h_n2 => ?_)
            obtain ⟨rfl, rfl, ns2, n52, n62, nk2⟩ := h_n2
            refine r_st (st' := [.int (bI (okN X (teS X (teS X p)) 1 20))]) rfl ?_
            have hXn2 : RepX 2 10 X s_n2 := RepX_same hXn1 ns2 (by simp) (by simp)
            refine b_if_eq K 111 dX5_readLine_104 (by decide) (fun h104 => ?_) (fun h104 => ?_)
            · refine r_iconst K ((nI (0))) (by decide) dX5_readLine_111 ?_
              exact r_zret K (b := false) hr (⟨by rw [show (lineR X p rc).1 = false from by simp [lineR, l1, l2, hwd, *]], rfl, same_tr hL1.1 (same_w ns2 (by simp) (by simp) (by simp) id), fun z => by simp [lineR, l1, l2, hwd, *] at z, fun _ => by rw [show (lineR X p rc).2 = tkS X (teS X (teS X p)) from by simp [lineR, l1, l2, hwd, *]]; exact n52⟩) dX5_readLine_112
            · have hL2 := lnP_s hL1 ns2 (nk2 h104).1 (nk2 h104).2 (rfl)
              refine r_iconst K ((nI (1))) (by decide) dX5_readLine_107 ?_
              refine r_goto K 112 dX5_readLine_108 (by decide) ?_
              exact r_zret K (b := true) hr (⟨by rw [show (lineR X p rc).1 = true from by simp [lineR, l1, l2, hwd, *]], rfl, hL2.1, fun _ => ⟨by rw [n62]; simp [lineR, l1, l2, hwd, *], by rw [hL2.2.2.1, hwd]; rfl, by rw [hL2.2.2.2.1]; simp [rcS, hwd], fun j hj => hL2.2.2.2.2 j (by rw [hwd] at hj; exact hj)⟩, fun z => by simp [lineR, l1, l2, hwd, *] at z⟩) dX5_readLine_112
      · by_cases hwd : wordS X p = 3
        · refine r_topi (b := nI 3) (by rw [hwd]; rfl) ?_
          refine r_tableIn K 113 dX5_readLine_21 (by decide) (by decide) rfl (by decide) ?_
          refine r_aload_n K 0 rfl rfl dX5_readLine_113 ?_
          refine r_iconst K ((nI (0))) (by decide) dX5_readLine_114 ?_
          refine put_63_9 K fl_RX5_40 dX5_readLine_115 ?_
          refine r_iconst K ((nI (1))) (by decide) dX5_readLine_118 ?_
          exact r_zret K (b := true) hr (⟨by rw [show (lineR X p rc).1 = true from by simp [lineR, hwd]], rfl, same_sI hL0.1 (by simp) _, fun _ => ⟨by rw [sI_ne _ _ (by decide), g60]; simp [lineR, hwd], by rw [sI_ne _ _ (by decide), hL0.2.2.1, hwd]; rfl, by rw [sI_at]; simp [rcS, hwd], fun j hj => by rw [hwd] at hj; exact absurd hj (Nat.not_lt_zero j)⟩, fun z => by simp [lineR, hwd] at z⟩) dX5_readLine_119
        · by_cases hwd : wordS X p = 4
          · refine r_topi (b := nI 4) (by rw [hwd]; rfl) ?_
            refine r_tableIn K 120 dX5_readLine_21 (by decide) (by decide) rfl (by decide) ?_
            refine r_aload_n K 0 rfl rfl dX5_readLine_120 ?_
            refine r_iconst K ((nI (0))) (by decide) dX5_readLine_121 ?_
            refine r_iconst K ((nI (5))) (by decide) dX5_readLine_122 ?_
            refine r_callV K 63 (As := [.int (nI (0)), .int (nI (5))]) (rest := []) mv_X5_readNumber ml_RX5_63 (c_readNumber hXo hX0 (p := teS X p) (f := 0) (lo := 0) (hi := 5) q1 g60 (by decide) hL0.2.1 (by decide) (by decide)) (by decide) rfl rfl rfl rfl (Nat.le_of_ble_eq_true rfl) ⟨by decide, by decide⟩ dX5_readLine_123 (fun r_n1 ad_n1 s_n1 h_n1 => ?_)
            obtain ⟨rfl, rfl, ns1, n51, n61, nk1⟩ := h_n1
            refine r_st (st' := [.int (bI (okN X (teS X p) 0 5))]) rfl ?_
            have hXn1 : RepX 2 10 X s_n1 := RepX_same hX0 ns1 (by simp) (by simp)
            refine b_if_eq K 178 dX5_readLine_126 (by decide) (fun h126 => ?_) (fun h126 => ?_)
            · refine r_iconst K ((nI (0))) (by decide) dX5_readLine_178 ?_
              exact r_zret K (b := false) hr (⟨by rw [show (lineR X p rc).1 = false from by simp [lineR, l1, l2, hwd, *]], rfl, same_tr hL0.1 (same_w ns1 (by simp) (by simp) (by simp) id), fun z => by simp [lineR, l1, l2, hwd, *] at z, fun _ => by rw [show (lineR X p rc).2 = tkS X (teS X p) from by simp [lineR, l1, l2, hwd, *]]; exact n51⟩) dX5_readLine_179
            · have hL1 := lnP_s hL0 ns1 (nk1 h126).1 (nk1 h126).2 (rfl)
              refine r_aload_n K 0 rfl rfl dX5_readLine_129 ?_
              refine r_iconst K ((nI (0))) (by decide) dX5_readLine_130 ?_
              refine r_bipush K ((nI (23))) (by decide) dX5_readLine_131 ?_
              refine r_callV K 63 (As := [.int (nI (0)), .int (nI (23))]) (rest := []) mv_X5_readNumber ml_RX5_63 (c_readNumber hXo hXn1 (p := teS X (teS X p)) (f := 1) (lo := 0) (hi := 23) q2 n61 (by decide) hL1.2.1 (by decide) (by decide)) (by decide) rfl rfl rfl rfl (Nat.le_of_ble_eq_true rfl) ⟨by decide, by decide⟩ dX5_readLine_133 (fun r_n2 ad_n2 s_n2 h_n2 => ?_)
              obtain ⟨rfl, rfl, ns2, n52, n62, nk2⟩ := h_n2
              refine r_st (st' := [.int (bI (okN X (teS X (teS X p)) 0 23))]) rfl ?_
              have hXn2 : RepX 2 10 X s_n2 := RepX_same hXn1 ns2 (by simp) (by simp)
              refine b_if_eq K 178 dX5_readLine_136 (by decide) (fun h136 => ?_) (fun h136 => ?_)
              · refine r_iconst K ((nI (0))) (by decide) dX5_readLine_178 ?_
                exact r_zret K (b := false) hr (⟨by rw [show (lineR X p rc).1 = false from by simp [lineR, l1, l2, hwd, *]], rfl, same_tr hL1.1 (same_w ns2 (by simp) (by simp) (by simp) id), fun z => by simp [lineR, l1, l2, hwd, *] at z, fun _ => by rw [show (lineR X p rc).2 = tkS X (teS X (teS X p)) from by simp [lineR, l1, l2, hwd, *]]; exact n52⟩) dX5_readLine_179
              · have hL2 := lnP_s hL1 ns2 (nk2 h136).1 (nk2 h136).2 (rfl)
                refine r_aload_n K 0 rfl rfl dX5_readLine_139 ?_
                refine r_aload_n K 0 rfl rfl dX5_readLine_140 ?_
                refine get_63_8 K fl_RX5_37 dX5_readLine_141 ?_
                refine r_iconst K ((nI (1))) (by decide) dX5_readLine_144 ?_
                refine r_iald K 11 (n := 5) (by decide) rfl rfl (by decide) (by omega) dX5_readLine_145 ?_
                refine r_topi (b := (nI (nvS X (teS X (teS X p))))) (hL2.2.2.2.2 1 (by decide)) ?_
                have hlo2 := (okN_t h136).2
                refine r_bipush K ((nI (23))) (by decide) dX5_readLine_146 ?_
                refine r_callV K 63 (As := [.int (nI (nvS X (teS X (teS X p)))), .int (nI (23))]) (rest := []) mv_X5_readNumber ml_RX5_63 (c_readNumber hXo hXn2 (p := teS X (teS X (teS X p))) (f := 2) (lo := nvS X (teS X (teS X p))) (hi := 23) q3 n62 (by decide) hL2.2.1 (by omega) (by decide)) (by decide) rfl rfl rfl rfl (Nat.le_of_ble_eq_true rfl) ⟨by decide, by decide⟩ dX5_readLine_148 (fun r_n3 ad_n3 s_n3 h_n3 => ?_)
                obtain ⟨rfl, rfl, ns3, n53, n63, nk3⟩ := h_n3
                refine r_st (st' := [.int (bI (okN X (teS X (teS X (teS X p))) (nvS X (teS X (teS X p))) 23))]) rfl ?_
                have hXn3 : RepX 2 10 X s_n3 := RepX_same hXn2 ns3 (by simp) (by simp)
                refine b_if_eq K 178 dX5_readLine_151 (by decide) (fun h151 => ?_) (fun h151 => ?_)
                · refine r_iconst K ((nI (0))) (by decide) dX5_readLine_178 ?_
                  exact r_zret K (b := false) hr (⟨by rw [show (lineR X p rc).1 = false from by simp [lineR, l1, l2, hwd, *]], rfl, same_tr hL2.1 (same_w ns3 (by simp) (by simp) (by simp) id), fun z => by simp [lineR, l1, l2, hwd, *] at z, fun _ => by rw [show (lineR X p rc).2 = tkS X (teS X (teS X (teS X p))) from by simp [lineR, l1, l2, hwd, *]]; exact n53⟩) dX5_readLine_179
                · have hL3 := lnP_s hL2 ns3 (nk3 h151).1 (nk3 h151).2 (rfl)
                  refine r_aload_n K 0 rfl rfl dX5_readLine_154 ?_
                  refine r_iconst K ((nI (0))) (by decide) dX5_readLine_155 ?_
                  refine r_bipush K ((nI (7))) (by decide) dX5_readLine_156 ?_
                  refine r_callV K 63 (As := [.int (nI (0)), .int (nI (7))]) (rest := []) mv_X5_readNumber ml_RX5_63 (c_readNumber hXo hXn3 (p := teS X (teS X (teS X (teS X p)))) (f := 3) (lo := 0) (hi := 7) q4 n63 (by decide) hL3.2.1 (by decide) (by decide)) (by decide) rfl rfl rfl rfl (Nat.le_of_ble_eq_true rfl) ⟨by decide, by decide⟩ dX5_readLine_158 (fun r_n4 ad_n4 s_n4 h_n4 => ?_)
                  obtain ⟨rfl, rfl, ns4, n54, n64, nk4⟩ := h_n4
                  refine r_st (st' := [.int (bI (okN X (teS X (teS X (teS X (teS X p)))) 0 7))]) rfl ?_
                  have hXn4 : RepX 2 10 X s_n4 := RepX_same hXn3 ns4 (by simp) (by simp)
                  refine b_if_eq K 178 dX5_readLine_161 (by decide) (fun h161 => ?_) (fun h161 => ?_)
                  · refine r_iconst K ((nI (0))) (by decide) dX5_readLine_178 ?_
                    exact r_zret K (b := false) hr (⟨by rw [show (lineR X p rc).1 = false from by simp [lineR, l1, l2, hwd, *]], rfl, same_tr hL3.1 (same_w ns4 (by simp) (by simp) (by simp) id), fun z => by simp [lineR, l1, l2, hwd, *] at z, fun _ => by rw [show (lineR X p rc).2 = tkS X (teS X (teS X (teS X (teS X p)))) from by simp [lineR, l1, l2, hwd, *]]; exact n54⟩) dX5_readLine_179
                  · have hL4 := lnP_s hL3 ns4 (nk4 h161).1 (nk4 h161).2 (by show _ = (if wordS X p = 5 then _ else _); rw [if_neg (by omega)])
                    refine r_aload_n K 0 rfl rfl dX5_readLine_164 ?_
                    refine r_iconst K ((nI (0))) (by decide) dX5_readLine_165 ?_
                    refine r_bipush K ((nI (9))) (by decide) dX5_readLine_166 ?_
                    refine r_callV K 63 (As := [.int (nI (0)), .int (nI (9))]) (rest := []) mv_X5_readNumber ml_RX5_63 (c_readNumber hXo hXn4 (p := teS X (teS X (teS X (teS X (teS X p))))) (f := 4) (lo := 0) (hi := 9) q5 n64 (by decide) hL4.2.1 (by decide) (by decide)) (by decide) rfl rfl rfl rfl (Nat.le_of_ble_eq_true rfl) ⟨by decide, by decide⟩ dX5_readLine_168 (fun r_n5 ad_n5 s_n5 h_n5 => ?_)
                    obtain ⟨rfl, rfl, ns5, n55, n65, nk5⟩ := h_n5
                    refine r_st (st' := [.int (bI (okN X (teS X (teS X (teS X (teS X (teS X p))))) 0 9))]) rfl ?_
                    have hXn5 : RepX 2 10 X s_n5 := RepX_same hXn4 ns5 (by simp) (by simp)
                    refine b_if_eq K 178 dX5_readLine_171 (by decide) (fun h171 => ?_) (fun h171 => ?_)
                    · refine r_iconst K ((nI (0))) (by decide) dX5_readLine_178 ?_
                      exact r_zret K (b := false) hr (⟨by rw [show (lineR X p rc).1 = false from by simp [lineR, l1, l2, hwd, *]], rfl, same_tr hL4.1 (same_w ns5 (by simp) (by simp) (by simp) id), fun z => by simp [lineR, l1, l2, hwd, *] at z, fun _ => by rw [show (lineR X p rc).2 = tkS X (teS X (teS X (teS X (teS X (teS X p))))) from by simp [lineR, l1, l2, hwd, *]]; exact n55⟩) dX5_readLine_179
                    · have hL5 := lnP_s hL4 ns5 (nk5 h171).1 (nk5 h171).2 (rfl)
                      refine r_iconst K ((nI (1))) (by decide) dX5_readLine_174 ?_
                      refine r_goto K 179 dX5_readLine_175 (by decide) ?_
                      exact r_zret K (b := true) hr (⟨by rw [show (lineR X p rc).1 = true from by simp [lineR, l1, l2, hwd, *]], rfl, hL5.1, fun _ => ⟨by rw [n65]; simp [lineR, l1, l2, hwd, *], by rw [hL5.2.2.1, hwd]; rfl, by rw [hL5.2.2.2.1]; simp [rcS, hwd], fun j hj => hL5.2.2.2.2 j (by rw [hwd] at hj; exact hj)⟩, fun z => by simp [lineR, l1, l2, hwd, *] at z⟩) dX5_readLine_179
          · by_cases hwd : wordS X p = 5
            · refine r_topi (b := nI 5) (by rw [hwd]; rfl) ?_
              refine r_tableIn K 180 dX5_readLine_21 (by decide) (by decide) rfl (by decide) ?_
              refine r_aload_n K 0 rfl rfl dX5_readLine_180 ?_
              refine r_iconst K ((nI (0))) (by decide) dX5_readLine_181 ?_
              refine r_iconst K ((nI (3))) (by decide) dX5_readLine_182 ?_
              refine r_callV K 63 (As := [.int (nI (0)), .int (nI (3))]) (rest := []) mv_X5_readNumber ml_RX5_63 (c_readNumber hXo hX0 (p := teS X p) (f := 0) (lo := 0) (hi := 3) q1 g60 (by decide) hL0.2.1 (by decide) (by decide)) (by decide) rfl rfl rfl rfl (Nat.le_of_ble_eq_true rfl) ⟨by decide, by decide⟩ dX5_readLine_183 (fun r_n1 ad_n1 s_n1 h_n1 => ?_)
              obtain ⟨rfl, rfl, ns1, n51, n61, nk1⟩ := h_n1
              refine r_st (st' := [.int (bI (okN X (teS X p) 0 3))]) rfl ?_
              have hXn1 : RepX 2 10 X s_n1 := RepX_same hX0 ns1 (by simp) (by simp)
              refine b_if_eq K 229 dX5_readLine_186 (by decide) (fun h186 => ?_) (fun h186 => ?_)
              · refine r_iconst K ((nI (0))) (by decide) dX5_readLine_229 ?_
                exact r_zret K (b := false) hr (⟨by rw [show (lineR X p rc).1 = false from by simp [lineR, l1, l2, hwd, *]], rfl, same_tr hL0.1 (same_w ns1 (by simp) (by simp) (by simp) id), fun z => by simp [lineR, l1, l2, hwd, *] at z, fun _ => by rw [show (lineR X p rc).2 = tkS X (teS X p) from by simp [lineR, l1, l2, hwd, *]]; exact n51⟩) dX5_readLine_230
              · have hL1 := lnP_s hL0 ns1 (nk1 h186).1 (nk1 h186).2 (rfl)
                refine r_aload_n K 0 rfl rfl dX5_readLine_189 ?_
                refine r_iconst K ((nI (1))) (by decide) dX5_readLine_190 ?_
                refine r_bipush K ((nI (60))) (by decide) dX5_readLine_191 ?_
                refine r_callV K 63 (As := [.int (nI (1)), .int (nI (60))]) (rest := []) mv_X5_readNumber ml_RX5_63 (c_readNumber hXo hXn1 (p := teS X (teS X p)) (f := 1) (lo := 1) (hi := 60) q2 n61 (by decide) hL1.2.1 (by decide) (by decide)) (by decide) rfl rfl rfl rfl (Nat.le_of_ble_eq_true rfl) ⟨by decide, by decide⟩ dX5_readLine_193 (fun r_n2 ad_n2 s_n2 h_n2 => ?_)
                obtain ⟨rfl, rfl, ns2, n52, n62, nk2⟩ := h_n2
                refine r_st (st' := [.int (bI (okN X (teS X (teS X p)) 1 60))]) rfl ?_
                have hXn2 : RepX 2 10 X s_n2 := RepX_same hXn1 ns2 (by simp) (by simp)
                refine b_if_eq K 229 dX5_readLine_196 (by decide) (fun h196 => ?_) (fun h196 => ?_)
                · refine r_iconst K ((nI (0))) (by decide) dX5_readLine_229 ?_
                  exact r_zret K (b := false) hr (⟨by rw [show (lineR X p rc).1 = false from by simp [lineR, l1, l2, hwd, *]], rfl, same_tr hL1.1 (same_w ns2 (by simp) (by simp) (by simp) id), fun z => by simp [lineR, l1, l2, hwd, *] at z, fun _ => by rw [show (lineR X p rc).2 = tkS X (teS X (teS X p)) from by simp [lineR, l1, l2, hwd, *]]; exact n52⟩) dX5_readLine_230
                · have hL2 := lnP_s hL1 ns2 (nk2 h196).1 (nk2 h196).2 (rfl)
                  refine r_aload_n K 0 rfl rfl dX5_readLine_199 ?_
                  refine r_iconst K ((nI (1))) (by decide) dX5_readLine_200 ?_
                  refine r_iconst K ((nI (5))) (by decide) dX5_readLine_201 ?_
                  refine r_callV K 63 (As := [.int (nI (1)), .int (nI (5))]) (rest := []) mv_X5_readNumber ml_RX5_63 (c_readNumber hXo hXn2 (p := teS X (teS X (teS X p))) (f := 2) (lo := 1) (hi := 5) q3 n62 (by decide) hL2.2.1 (by decide) (by decide)) (by decide) rfl rfl rfl rfl (Nat.le_of_ble_eq_true rfl) ⟨by decide, by decide⟩ dX5_readLine_202 (fun r_n3 ad_n3 s_n3 h_n3 => ?_)
                  obtain ⟨rfl, rfl, ns3, n53, n63, nk3⟩ := h_n3
                  refine r_st (st' := [.int (bI (okN X (teS X (teS X (teS X p))) 1 5))]) rfl ?_
                  have hXn3 : RepX 2 10 X s_n3 := RepX_same hXn2 ns3 (by simp) (by simp)
                  refine b_if_eq K 229 dX5_readLine_205 (by decide) (fun h205 => ?_) (fun h205 => ?_)
                  · refine r_iconst K ((nI (0))) (by decide) dX5_readLine_229 ?_
                    exact r_zret K (b := false) hr (⟨by rw [show (lineR X p rc).1 = false from by simp [lineR, l1, l2, hwd, *]], rfl, same_tr hL2.1 (same_w ns3 (by simp) (by simp) (by simp) id), fun z => by simp [lineR, l1, l2, hwd, *] at z, fun _ => by rw [show (lineR X p rc).2 = tkS X (teS X (teS X (teS X p))) from by simp [lineR, l1, l2, hwd, *]]; exact n53⟩) dX5_readLine_230
                  · have hL3 := lnP_s hL2 ns3 (nk3 h205).1 (nk3 h205).2 (rfl)
                    refine r_aload_n K 0 rfl rfl dX5_readLine_208 ?_
                    refine r_callV K 63 (As := []) (rest := []) mv_X5_readKite ml_RX5_67 (c_readKite hXo hXn3 (p := teS X (teS X (teS X (teS X p)))) (f := 3) q4 n63 (by decide) hL3.2.1) (by decide) rfl rfl rfl rfl (Nat.le_of_ble_eq_true rfl) ⟨by decide, by decide⟩ dX5_readLine_209 (fun r_n4 ad_n4 s_n4 h_n4 => ?_)
                    obtain ⟨rfl, rfl, ns4, n54, n64, nk4⟩ := h_n4
                    refine r_st (st' := [.int (bI (okK X (teS X (teS X (teS X (teS X p))))))]) rfl ?_
                    have hXn4 : RepX 2 10 X s_n4 := RepX_same hXn3 ns4 (by simp) (by simp)
                    refine b_if_eq K 229 dX5_readLine_212 (by decide) (fun h212 => ?_) (fun h212 => ?_)
                    · refine r_iconst K ((nI (0))) (by decide) dX5_readLine_229 ?_
                      exact r_zret K (b := false) hr (⟨by rw [show (lineR X p rc).1 = false from by simp [lineR, l1, l2, hwd, *]], rfl, same_tr hL3.1 (same_w ns4 (by simp) (by simp) (by simp) id), fun z => by simp [lineR, l1, l2, hwd, *] at z, fun _ => by rw [show (lineR X p rc).2 = tkS X (teS X (teS X (teS X (teS X p)))) from by simp [lineR, l1, l2, hwd, *]]; exact n54⟩) dX5_readLine_230
                    · have hL4 := lnP_s hL3 ns4 (nk4 h212).1 (nk4 h212).2 (by show _ = (if wordS X p = 5 then _ else _); rw [if_pos hwd])
                      refine r_aload_n K 0 rfl rfl dX5_readLine_215 ?_
                      refine r_iconst K ((nI (0))) (by decide) dX5_readLine_216 ?_
                      refine r_bipush K ((nI (99))) (by decide) dX5_readLine_217 ?_
                      refine r_callV K 63 (As := [.int (nI (0)), .int (nI (99))]) (rest := []) mv_X5_readNumber ml_RX5_63 (c_readNumber hXo hXn4 (p := teS X (teS X (teS X (teS X (teS X p))))) (f := 4) (lo := 0) (hi := 99) q5 n64 (by decide) hL4.2.1 (by decide) (by decide)) (by decide) rfl rfl rfl rfl (Nat.le_of_ble_eq_true rfl) ⟨by decide, by decide⟩ dX5_readLine_219 (fun r_n5 ad_n5 s_n5 h_n5 => ?_)
                      obtain ⟨rfl, rfl, ns5, n55, n65, nk5⟩ := h_n5
                      refine r_st (st' := [.int (bI (okN X (teS X (teS X (teS X (teS X (teS X p))))) 0 99))]) rfl ?_
                      have hXn5 : RepX 2 10 X s_n5 := RepX_same hXn4 ns5 (by simp) (by simp)
                      refine b_if_eq K 229 dX5_readLine_222 (by decide) (fun h222 => ?_) (fun h222 => ?_)
                      · refine r_iconst K ((nI (0))) (by decide) dX5_readLine_229 ?_
                        exact r_zret K (b := false) hr (⟨by rw [show (lineR X p rc).1 = false from by simp [lineR, l1, l2, hwd, *]], rfl, same_tr hL4.1 (same_w ns5 (by simp) (by simp) (by simp) id), fun z => by simp [lineR, l1, l2, hwd, *] at z, fun _ => by rw [show (lineR X p rc).2 = tkS X (teS X (teS X (teS X (teS X (teS X p))))) from by simp [lineR, l1, l2, hwd, *]]; exact n55⟩) dX5_readLine_230
                      · have hL5 := lnP_s hL4 ns5 (nk5 h222).1 (nk5 h222).2 (rfl)
                        refine r_iconst K ((nI (1))) (by decide) dX5_readLine_225 ?_
                        refine r_goto K 230 dX5_readLine_226 (by decide) ?_
                        exact r_zret K (b := true) hr (⟨by rw [show (lineR X p rc).1 = true from by simp [lineR, l1, l2, hwd, *]], rfl, hL5.1, fun _ => ⟨by rw [n65]; simp [lineR, l1, l2, hwd, *], by rw [hL5.2.2.1, hwd]; rfl, by rw [hL5.2.2.2.1]; simp [rcS, hwd], fun j hj => hL5.2.2.2.2 j (by rw [hwd] at hj; exact hj)⟩, fun z => by simp [lineR, l1, l2, hwd, *] at z⟩) dX5_readLine_230
            · by_cases hwd : wordS X p = 6
              · refine r_topi (b := nI 6) (by rw [hwd]; rfl) ?_
                refine r_tableIn K 231 dX5_readLine_21 (by decide) (by decide) rfl (by decide) ?_
                refine r_aload_n K 0 rfl rfl dX5_readLine_231 ?_
                refine r_iconst K ((nI (0))) (by decide) dX5_readLine_232 ?_
                refine r_iconst K ((nI (3))) (by decide) dX5_readLine_233 ?_
                refine r_callV K 63 (As := [.int (nI (0)), .int (nI (3))]) (rest := []) mv_X5_readNumber ml_RX5_63 (c_readNumber hXo hX0 (p := teS X p) (f := 0) (lo := 0) (hi := 3) q1 g60 (by decide) hL0.2.1 (by decide) (by decide)) (by decide) rfl rfl rfl rfl (Nat.le_of_ble_eq_true rfl) ⟨by decide, by decide⟩ dX5_readLine_234 (fun r_n1 ad_n1 s_n1 h_n1 => ?_)
                obtain ⟨rfl, rfl, ns1, n51, n61, nk1⟩ := h_n1
                refine r_st (st' := [.int (bI (okN X (teS X p) 0 3))]) rfl ?_
                have hXn1 : RepX 2 10 X s_n1 := RepX_same hX0 ns1 (by simp) (by simp)
                rcases Bool.eq_false_or_eq_true (okN X (teS X p) 0 3) with hz | hz
                · refine r_topi (b := bI true) (by rw [hz]) ?_
                  have hL1 := lnP_s hL0 ns1 (nk1 hz).1 (nk1 hz).2 rfl
                  exact r_zret K (b := true) hr (⟨by rw [show (lineR X p rc).1 = true from by simp [lineR, l1, l2, hwd, *]], rfl, hL1.1, fun _ => ⟨by rw [n61]; simp [lineR, l1, l2, hwd, *], by rw [hL1.2.2.1, hwd]; rfl, by rw [hL1.2.2.2.1]; simp [rcS, hwd], fun j hj => hL1.2.2.2.2 j (by rw [hwd] at hj; exact hj)⟩, fun z => by simp [lineR, l1, l2, hwd, *] at z⟩) dX5_readLine_237
                · refine r_topi (b := bI false) (by rw [hz]) ?_
                  exact r_zret K (b := false) hr (⟨by rw [show (lineR X p rc).1 = false from by simp [lineR, l1, l2, hwd, *]], rfl, same_tr hL0.1 (same_w ns1 (by simp) (by simp) (by simp) id), fun z => by simp [lineR, l1, l2, hwd, *] at z, fun _ => by rw [show (lineR X p rc).2 = tkS X (teS X p) from by simp [lineR, l1, l2, hwd, *]]; exact n51⟩) dX5_readLine_237
              · by_cases hwd : wordS X p = 7
                · refine r_topi (b := nI 7) (by rw [hwd]; rfl) ?_
                  refine r_tableIn K 238 dX5_readLine_21 (by decide) (by decide) rfl (by decide) ?_
                  refine r_aload_n K 0 rfl rfl dX5_readLine_238 ?_
                  refine r_iconst K ((nI (0))) (by decide) dX5_readLine_239 ?_
                  refine r_bipush K ((nI (9))) (by decide) dX5_readLine_240 ?_
                  refine r_callV K 63 (As := [.int (nI (0)), .int (nI (9))]) (rest := []) mv_X5_readNumber ml_RX5_63 (c_readNumber hXo hX0 (p := teS X p) (f := 0) (lo := 0) (hi := 9) q1 g60 (by decide) hL0.2.1 (by decide) (by decide)) (by decide) rfl rfl rfl rfl (Nat.le_of_ble_eq_true rfl) ⟨by decide, by decide⟩ dX5_readLine_242 (fun r_n1 ad_n1 s_n1 h_n1 => ?_)
                  obtain ⟨rfl, rfl, ns1, n51, n61, nk1⟩ := h_n1
                  refine r_st (st' := [.int (bI (okN X (teS X p) 0 9))]) rfl ?_
                  have hXn1 : RepX 2 10 X s_n1 := RepX_same hX0 ns1 (by simp) (by simp)
                  rcases Bool.eq_false_or_eq_true (okN X (teS X p) 0 9) with hz | hz
                  · refine r_topi (b := bI true) (by rw [hz]) ?_
                    have hL1 := lnP_s hL0 ns1 (nk1 hz).1 (nk1 hz).2 rfl
                    exact r_zret K (b := true) hr (⟨by rw [show (lineR X p rc).1 = true from by simp [lineR, l1, l2, hwd, *]], rfl, hL1.1, fun _ => ⟨by rw [n61]; simp [lineR, l1, l2, hwd, *], by rw [hL1.2.2.1, hwd]; rfl, by rw [hL1.2.2.2.1]; simp [rcS, hwd], fun j hj => hL1.2.2.2.2 j (by rw [hwd] at hj; exact hj)⟩, fun z => by simp [lineR, l1, l2, hwd, *] at z⟩) dX5_readLine_245
                  · refine r_topi (b := bI false) (by rw [hz]) ?_
                    exact r_zret K (b := false) hr (⟨by rw [show (lineR X p rc).1 = false from by simp [lineR, l1, l2, hwd, *]], rfl, same_tr hL0.1 (same_w ns1 (by simp) (by simp) (by simp) id), fun z => by simp [lineR, l1, l2, hwd, *] at z, fun _ => by rw [show (lineR X p rc).2 = tkS X (teS X p) from by simp [lineR, l1, l2, hwd, *]]; exact n51⟩) dX5_readLine_245
                · have hwd : wordS X p = 8 := by omega
                  refine r_topi (b := -1) (by rw [hwd]; rfl) ?_
                  refine r_tableOut K 246 dX5_readLine_21 (by decide) (by decide) ?_
                  refine r_iconst K ((nI (0))) (by decide) dX5_readLine_246 ?_
                  exact r_zret K (b := false) hr (⟨by rw [show (lineR X p rc).1 = false from by simp [lineR, hwd]], rfl, hL0.1, fun z => by simp [lineR, hwd] at z, fun _ => by rw [show (lineR X p rc).2 = tkS X p from by simp [lineR, hwd]]; exact g50⟩) dX5_readLine_247

