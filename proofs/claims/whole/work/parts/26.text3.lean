set_option maxHeartbeats 400000 in
set_option maxRecDepth 10000 in
theorem c_readNumber {g : Gp} {lau : Launch} {ad : Nat → Nat} {σ : Sg} {X : Tv} (hXo : XOk X) (hX : RepX 2 10 X σ) {p f lo hi : Nat} (hp : p ≤ X 0 0) (g6 : σ.I 6 = nI p) (hf : f < 5) (g8 : σ.I 8 = nI f) (hlo : lo < 256) (hhi : hi < 256) : Con g lau yX5_readNumber cX5_readNumber 5 (Option.some .boolean) 2 41 [.ref (ad 63), .int (nI (lo)), .int (nI (hi))] ad σ (fun r a2 s2 => some (.int (bI (okN X p lo hi))) = r ∧ ad = a2 ∧ same [11] [4, 5, 6, 8] [] false σ s2 ∧ s2.I 5 = nI (tkS X p) ∧ s2.I 6 = nI (teS X p) ∧ (okN X p lo hi = true → s2.I 8 = nI (f + 1) ∧ s2.A 11 = upd (σ.A 11) f (nI (nvS X p)))) := by
  refine con_mk (by decide) (Nat.le_of_ble_eq_true rfl) (fun x hxl K hr => ?_)
  subst hxl
  refine r_lv (lv' := [(0, .ref (ad 63)), (1, .int (nI (lo))), (2, .int (nI (hi)))]) rfl ?_
  have hx200 := hXo.1
  refine r_aload_n K 0 rfl rfl dX5_readNumber_0 ?_
  refine r_callV K 63 (As := []) (rest := []) mv_X5_readToken ml_RX5_56 (c_readToken hXo hX hp (g6)) (by decide) rfl rfl rfl rfl (Nat.le_of_ble_eq_true rfl) ⟨by decide, by decide⟩ dX5_readNumber_1 (fun r_a ad_a s_a h_a => ?_)
  obtain ⟨rfl, rfl, tsa, t4a, t5a, t6a⟩ := h_a
  refine r_st (st' := []) rfl ?_
  have hXa : RepX 2 10 X s_a := RepX_same hX tsa (by simp) (by simp)
  have hka := kdS_le X (tkS X p)
  have htta := tk_te X p
  have htea := teS_le hp
  refine r_aload_n K 0 rfl rfl dX5_readNumber_4 ?_
  refine get_63_3 K fl_RX5_22 dX5_readNumber_5 ?_
  refine r_topi (b := (nI (kdS X (tkS X p)))) (t4a) ?_
  refine r_iconst K ((nI (1))) (by decide) dX5_readNumber_8 ?_
  refine n_icmp_ne K 25 (by omega) (by omega) dX5_readNumber_9 (by decide) (fun h9 => ?_) (fun h9 => ?_)
  · refine r_iconst K ((nI (0))) (by decide) dX5_readNumber_25 ?_
    exact r_zret K (b := false) hr (⟨by rw [show okN X p lo hi = false from by unfold okN isN; rw [decide_eq_false (by omega)]; rfl], rfl, same_w tsa (by simp) (by simp) (by simp) id, t5a, t6a, fun z => by unfold okN isN at z; rw [decide_eq_false (by omega)] at z; cases z⟩) dX5_readNumber_26
  · refine r_aload_n K 0 rfl rfl dX5_readNumber_12 ?_
    refine get_63_5 K fl_RX5_28 dX5_readNumber_13 ?_
    refine r_topi (b := (nI (teS X p))) (t6a) ?_
    refine r_aload_n K 0 rfl rfl dX5_readNumber_16 ?_
    refine get_63_4 K fl_RX5_25 dX5_readNumber_17 ?_
    refine r_topi (b := (nI (tkS X p))) (t5a) ?_
    refine r_isub K dX5_readNumber_20 ?_
    refine r_topi (b := (nI (teS X p - tkS X p))) (pk_sub (by omega)) ?_
    refine r_iconst K ((nI (2))) (by decide) dX5_readNumber_21 ?_
    refine n_icmp_le K 27 (by omega) (by omega) dX5_readNumber_22 (by decide) (fun h22 => ?_) (fun h22 => ?_)
    · refine r_iconst K ((nI (0))) (by decide) dX5_readNumber_27 ?_
      refine r_istore_n K (lv' := [(3, .int (nI (0))), (0, .ref (ad 63)), (1, .int (nI (lo))), (2, .int (nI (hi)))]) 3 rfl (by decide) rfl dX5_readNumber_28 ?_
      refine r_aload_n K 0 rfl rfl dX5_readNumber_29 ?_
      refine get_63_4 K fl_RX5_25 dX5_readNumber_30 ?_
      refine r_topi (b := (nI (tkS X p))) (t5a) ?_
      refine r_istore K (lv' := [(4, .int (nI (tkS X p))), (3, .int (nI (0))), (0, .ref (ad 63)), (1, .int (nI (lo))), (2, .int (nI (hi)))]) (by decide) rfl dX5_readNumber_33 ?_
      refine r_lv (lv' := [(4, .int (nI (tkS X p + 0))), (3, .int (nI (dvS X (tkS X p) 0))), (0, .ref (ad 63)), (1, .int (nI (lo))), (2, .int (nI (hi)))]) rfl ?_
      refine r_pick [2, 3, 4, 1, 0] (lv' := [(0, .ref (ad 63)), (1, .int (nI (lo))), (2, .int (nI (hi))), (3, .int (nI (dvS X (tkS X p) 0))), (4, .int (nI (tkS X p + 0)))]) rfl ?_
      have lpA : ∀ (mm_ : Nat) (j : Nat), mm_ = teS X p - tkS X p - j → (j ≤ teS X p - tkS X p) → GJ g x 5 35 [(0, .ref (ad 63)), (1, .int (nI (lo))), (2, .int (nI (hi))), (3, .int (nI (dvS X (tkS X p) j))), (4, .int (nI (tkS X p + j)))] [] ad (s_a) := by
        intro mm_
        induction mm_ using Nat.strongRecOn with
        | _ mm_ ihA =>
          intro j hmA hj
          have hdv := dv_le (X := X) (a := tkS X p) (j := j) (by omega) (fun i hi => (digs h9 (by omega)).2)
          refine r_iload K rfl dX5_readNumber_35 ?_
          refine r_aload_n K 0 rfl rfl dX5_readNumber_37 ?_
          refine get_63_5 K fl_RX5_28 dX5_readNumber_38 ?_
          refine r_topi (b := (nI (teS X p))) (t6a) ?_
          refine n_icmp_ge K 66 (by omega) (by omega) dX5_readNumber_41 (by decide) (fun h41 => ?_) (fun h41 => ?_)
          · have hnv : dvS X (tkS X p) j = nvS X p := by unfold nvS; rw [show j = teS X p - tkS X p by omega]
            have hnv9 : nvS X p ≤ 99 := by rw [← hnv]; exact hdv
            refine r_lv (lv' := [(0, .ref (ad 63)), (1, .int (nI (lo))), (2, .int (nI (hi))), (3, .int (nI (nvS X p))), (4, .int (nI (tkS X p + j)))]) (by rw [hnv]) ?_
            refine r_iload_n K 3 rfl rfl dX5_readNumber_66 ?_
            refine r_iload_n K 1 rfl rfl dX5_readNumber_67 ?_
            refine n_icmp_lt K 88 (by omega) (by omega) dX5_readNumber_68 (by decide) (fun h68 => ?_) (fun h68 => ?_)
            · refine r_iconst K ((nI (0))) (by decide) dX5_readNumber_88 ?_
              exact r_zret K (b := false) hr (⟨by rw [show okN X p lo hi = false from by unfold okN; rw [decide_eq_false (p := lo ≤ nvS X p ∧ nvS X p ≤ hi) (by omega), Bool.and_false]], rfl, same_w tsa (by simp) (by simp) (by simp) id, t5a, t6a, fun z => by have := (okN_t z).2; omega⟩) dX5_readNumber_89
            · refine r_iload_n K 3 rfl rfl dX5_readNumber_71 ?_
              refine r_iload_n K 2 rfl rfl dX5_readNumber_72 ?_
              refine n_icmp_gt K 88 (by omega) (by omega) dX5_readNumber_73 (by decide) (fun h73 => ?_) (fun h73 => ?_)
              · refine r_iconst K ((nI (0))) (by decide) dX5_readNumber_88 ?_
                exact r_zret K (b := false) hr (⟨by rw [show okN X p lo hi = false from by unfold okN; rw [decide_eq_false (p := lo ≤ nvS X p ∧ nvS X p ≤ hi) (by omega), Bool.and_false]], rfl, same_w tsa (by simp) (by simp) (by simp) id, t5a, t6a, fun z => by have := (okN_t z).2; omega⟩) dX5_readNumber_89
              · refine r_aload_n K 0 rfl rfl dX5_readNumber_76 ?_
                refine r_iload_n K 3 rfl rfl dX5_readNumber_77 ?_
                refine r_callV K 63 (As := [.int (nI (nvS X p))]) (rest := []) mv_X5_addNumber ml_RX5_103 (c_addNumber hf (f := f) ((tsa.2.1 8 (by simp)).trans g8) ((nI (nvS X p)))) (by decide) rfl rfl rfl rfl (Nat.le_of_ble_eq_true rfl) ⟨by decide, by decide⟩ dX5_readNumber_78 (fun r_b ad_b s_b h_b => ?_)
                obtain ⟨rfl, rfl, rfl⟩ := h_b
                refine r_st (st' := [.int (bI true)]) rfl ?_
                refine b_if_eq K 88 dX5_readNumber_81 (by decide) (fun z => absurd z (by decide)) (fun _ => ?_)
                refine r_iconst K ((nI (1))) (by decide) dX5_readNumber_84 ?_
                refine r_goto K 89 dX5_readNumber_85 (by decide) ?_
                exact r_zret K (b := true) hr (⟨by rw [show okN X p lo hi = true from by unfold okN isN; rw [decide_eq_true (by omega), decide_eq_true (by omega)]; rfl], rfl, same_sA (same_sI (same_w tsa (by simp) (by simp) (by simp) id) (by simp) _) (by simp) _, t5a, t6a, fun _ => ⟨by rw [sA_I]; exact sI_at _ _ _, by rw [sA_at, tsa.1 11 (by simp)]⟩⟩) dX5_readNumber_89
          · have hdg := digs h9 (i := j) (by omega)
            refine r_iload_n K 3 rfl rfl dX5_readNumber_44 ?_
            refine r_bipush K ((nI (10))) (by decide) dX5_readNumber_45 ?_
            refine r_imul K dX5_readNumber_47 ?_
            refine r_topi (pk_mul _ _) ?_
            refine r_aload_n K 0 rfl rfl dX5_readNumber_48 ?_
            refine get_63_2 K fl_RX5_18 dX5_readNumber_49 ?_
            refine r_iload K rfl dX5_readNumber_52 ?_
            refine r_iald K 10 (n := 200) (by decide) rfl rfl (by decide) (by omega) dX5_readNumber_54 ?_
            have hby325 := hXo.2 (tkS X p + j)
            refine r_topi (b := (nI (X 1 (tkS X p + j)))) (hXa.2 _ (by omega)) ?_
            refine r_iadd K dX5_readNumber_55 ?_
            refine r_topi (nI_add _ _) ?_
            refine r_bipush K ((nI (48))) (by decide) dX5_readNumber_56 ?_
            refine r_isub K dX5_readNumber_58 ?_
            refine r_topi (b := (nI (dvS X (tkS X p) (j + 1)))) (by rw [pk_sub (by have := (digs h9 (i := j) (by omega)).2; omega), dvS, Nat.mul_comm]) ?_
            refine r_istore_n K (lv' := [(3, .int (nI (dvS X (tkS X p) (j + 1)))), (0, .ref (ad 63)), (1, .int (nI (lo))), (2, .int (nI (hi))), (4, .int (nI (tkS X p + j)))]) 3 rfl (by decide) rfl dX5_readNumber_59 ?_
            refine r_iinc K ((nI ((tkS X p + j) + 1))) rfl (nI_1 _) (lv' := [(4, .int (nI ((tkS X p + j) + 1))), (3, .int (nI (dvS X (tkS X p) (j + 1)))), (0, .ref (ad 63)), (1, .int (nI (lo))), (2, .int (nI (hi)))]) (by decide) rfl dX5_readNumber_60 ?_
            refine r_goto K 35 dX5_readNumber_63 (by decide) ?_
            refine r_pick [2, 3, 4, 1, 0] (lv' := [(0, .ref (ad 63)), (1, .int (nI (lo))), (2, .int (nI (hi))), (3, .int (nI (dvS X (tkS X p) (j + 1)))), (4, .int (nI ((tkS X p + j) + 1)))]) rfl ?_
            exact ihA _ (by omega) (j + 1) rfl (by omega)
      exact lpA _ (0) rfl (Nat.zero_le _)
    · refine r_iconst K ((nI (0))) (by decide) dX5_readNumber_25 ?_
      exact r_zret K (b := false) hr (⟨by rw [show okN X p lo hi = false from by unfold okN isN; rw [decide_eq_false (by omega)]; rfl], rfl, same_w tsa (by simp) (by simp) (by simp) id, t5a, t6a, fun z => by unfold okN isN at z; rw [decide_eq_false (by omega)] at z; cases z⟩) dX5_readNumber_26

theorem kI_ne {k : Nat} (hk : k < 5) (h : nI k = -1) : False := by
  have key : ∀ k, k < 5 → nI k ≠ -1 := by decide +kernel
  exact key k hk h
theorem kiteS_le (X : Tv) (p : Nat) : kiteS X p ≤ 5 := by unfold kiteS; split; omega; split; omega; split; omega; split; omega; split <;> omega
theorem wordS_le (X : Tv) (p : Nat) : wordS X p ≤ 8 := by unfold wordS; split; omega; split; omega; split; omega; split; omega; split; omega; split; omega; split; omega; split <;> omega
theorem kI_lt {X : Tv} {p : Nat} (h : ¬ kI (kiteS X p) = -1) : kiteS X p < 5 := by
  have h5 := kiteS_le X p
  by_cases e : kiteS X p = 5
  · exfalso; apply h; rw [kI, if_pos e]
  · omega
set_option maxHeartbeats 400000 in
set_option maxRecDepth 10000 in
theorem c_readKite {g : Gp} {lau : Launch} {ad : Nat → Nat} {σ : Sg} {X : Tv} (hXo : XOk X) (hX : RepX 2 10 X σ) {p f : Nat} (hp : p ≤ X 0 0) (g6 : σ.I 6 = nI p) (hf : f < 5) (g8 : σ.I 8 = nI f) : Con g lau yX5_readKite cX5_readKite 2 (Option.some .boolean) 6 127 [.ref (ad 63)] ad σ (fun r a2 s2 => some (.int (bI (okK X p))) = r ∧ ad = a2 ∧ same [11] [4, 5, 6, 8] [] false σ s2 ∧ s2.I 5 = nI (tkS X p) ∧ s2.I 6 = nI (teS X p) ∧ (okK X p = true → s2.I 8 = nI (f + 1) ∧ s2.A 11 = upd (σ.A 11) f (nI (kiteS X p)))) := by
  refine con_mk (by decide) (Nat.le_of_ble_eq_true rfl) (fun x hxl K hr => ?_)
  subst hxl
  refine r_lv (lv' := [(0, .ref (ad 63))]) rfl ?_
  have hx200 := hXo.1
  refine r_aload_n K 0 rfl rfl dX5_readKite_0 ?_
  refine r_callV K 63 (As := []) (rest := []) mv_X5_readToken ml_RX5_56 (c_readToken hXo hX hp (g6)) (by decide) rfl rfl rfl rfl (Nat.le_of_ble_eq_true rfl) ⟨by decide, by decide⟩ dX5_readKite_1 (fun r_a ad_a s_a h_a => ?_)
  obtain ⟨rfl, rfl, tsa, t4a, t5a, t6a⟩ := h_a
  refine r_st (st' := []) rfl ?_
  have hXa : RepX 2 10 X s_a := RepX_same hX tsa (by simp) (by simp)
  have hka := kdS_le X (tkS X p)
  have htta := tk_te X p
  have htea := teS_le hp
  refine r_aload_n K 0 rfl rfl dX5_readKite_4 ?_
  refine r_callVp K 63 (As := []) mv_X5_kiteOfToken ml_RX5_100 (c_kiteOfToken hXo hXa hp t5a t6a) (by decide) rfl rfl rfl rfl (Nat.le_of_ble_eq_true rfl) ⟨by decide, by decide⟩ dX5_readKite_5 ?_
  refine r_istore_n K (lv' := [(1, .int (kI (kiteS X p))), (0, .ref (ad 63))]) 1 rfl (by decide) rfl dX5_readKite_8 ?_
  refine r_iload_n K 1 rfl rfl dX5_readKite_9 ?_
  refine r_iconst K ((-1)) (by decide) dX5_readKite_10 ?_
  refine r_icmp_eq K 26 dX5_readKite_11 (by decide) (fun h11 => ?_) (fun h11 => ?_)
  · refine r_iconst K ((nI (0))) (by decide) dX5_readKite_26 ?_
    exact r_zret K (b := false) hr (⟨by rw [show okK X p = false from decide_eq_false (fun z => by unfold kI at h11; rw [if_neg (by omega)] at h11; exact kI_ne (by omega) h11)], rfl, same_w tsa (by simp) (by simp) (by simp) id, t5a, t6a, fun z => absurd (of_decide_eq_true z) (fun z => by unfold kI at h11; rw [if_neg (by omega)] at h11; exact kI_ne (by omega) h11)⟩) dX5_readKite_27
  · refine r_aload_n K 0 rfl rfl dX5_readKite_14 ?_
    refine r_iload_n K 1 rfl rfl dX5_readKite_15 ?_
    refine r_callV K 63 (As := [.int (kI (kiteS X p))]) (rest := []) mv_X5_addNumber ml_RX5_103 (c_addNumber hf (f := f) ((tsa.2.1 8 (by simp)).trans g8) ((kI (kiteS X p)))) (by decide) rfl rfl rfl rfl (Nat.le_of_ble_eq_true rfl) ⟨by decide, by decide⟩ dX5_readKite_16 (fun r_b ad_b s_b h_b => ?_)
    obtain ⟨rfl, rfl, rfl⟩ := h_b
    refine r_st (st' := [.int (bI true)]) rfl ?_
    refine b_if_eq K 26 dX5_readKite_19 (by decide) (fun z => absurd z (by decide)) (fun _ => ?_)
    refine r_iconst K ((nI (1))) (by decide) dX5_readKite_22 ?_
    refine r_goto K 27 dX5_readKite_23 (by decide) ?_
    exact r_zret K (b := true) hr (⟨by rw [show okK X p = true from decide_eq_true (kI_lt h11)], rfl, same_sA (same_sI (same_w tsa (by simp) (by simp) (by simp) id) (by simp) _) (by simp) _, t5a, t6a, fun _ => ⟨by rw [sA_I]; exact sI_at _ _ _, by rw [sA_at, tsa.1 11 (by simp), kI, if_neg (by have := kI_lt h11; omega)]⟩⟩) dX5_readKite_27

