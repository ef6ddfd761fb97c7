set_option maxHeartbeats 400000 in
set_option maxRecDepth 10000 in
theorem m_reach {g : Gp} {lau : Launch} {ad : Nat → Nat} {σ : Sg} {T : Tv} (hT : TOk T) (hR : RepM T σ) (r w : Int32) : Con g lau yX7_reach cX7_reach 3 (Option.some .int) 2 43 [.ref (ad 71), .int (r), .int (w)] ad σ (pu (.int (rchS T r w)) ad σ) := by
  refine con_mk (by decide) (Nat.le_of_ble_eq_true rfl) (fun x hxl K hr => ?_)
  subst hxl
  refine r_lv (lv' := [(0, .ref (ad 71)), (1, .int (r)), (2, .int (w))]) rfl ?_
  have hn8 := hT.2.1
  have hn9 := hT.2.2.1
  have htb := tbits_lt hT
  refine r_aload_n K 0 rfl rfl dX7_reach_0 ?_
  refine r_iload_n K 1 rfl rfl dX7_reach_1 ?_
  refine r_callVp K 71 (As := [.int (r)]) mv_X7_isReach ml_RX7_177 (m_isReach hT hR ((r))) (by decide) rfl rfl rfl rfl (Nat.le_of_ble_eq_true rfl) ⟨by decide, by decide⟩ dX7_reach_2 ?_
  refine b_if_ne K 11 dX7_reach_5 (by decide) (fun h5 => ?_) (fun h5 => ?_)
  · obtain ⟨rN, h_rN, rfl⟩ := hasR_t h5
    have e_rN : (nI rN).toInt.toNat = rN := nI_nat (by omega)
    refine r_iload_n K 2 rfl rfl dX7_reach_11 ?_
    refine r_iconst K ((nI (0))) (by decide) dX7_reach_12 ?_
    refine r_iconst K ((nI (2))) (by decide) dX7_reach_13 ?_
    refine r_callSp K (As := [.int (w), .int (nI (0)), .int (nI (2))]) ms_X7_in ml_RX7_61 (m_in ((w)) ((nI (0))) ((nI (2)))) rfl rfl (Nat.le_of_ble_eq_true rfl) ⟨by decide, by decide⟩ dX7_reach_14 ?_
    refine b_if_eq K 33 dX7_reach_17 (by decide) (fun h17 => ?_) (fun h17 => ?_)
    · have n0 : ¬ w = nI 0 := fun z => by rw [z] at h17; exact absurd h17 (by decide)
      have n1 : ¬ w = nI 1 := fun z => by rw [z] at h17; exact absurd h17 (by decide)
      have n2 : ¬ w = nI 2 := fun z => by rw [z] at h17; exact absurd h17 (by decide)
      refine r_bipush K ((-3)) (by decide) dX7_reach_33 ?_
      exact r_iret K hr (⟨by simp (decide := true) [rchS, *], rfl, rfl⟩) dX7_reach_35
    · obtain ⟨z_w, hz1, hz2, rfl⟩ := inS_t (by decide) (by decide) h17
      rcases (show z_w = 0 ∨ z_w = 1 ∨ z_w = 2 by omega) with rfl | rfl | rfl
      · refine r_aload_n K 0 rfl rfl dX7_reach_20 ?_
        refine get_71_1 K fl_RX7_7 dX7_reach_21 ?_
        refine r_iconst K ((nI (3))) (by decide) dX7_reach_24 ?_
        refine r_iload_n K 1 rfl rfl dX7_reach_25 ?_
        refine r_imul K dX7_reach_26 ?_
        refine r_topi (pk_mul _ _) ?_
        refine r_iload_n K 2 rfl rfl dX7_reach_27 ?_
        refine r_iadd K dX7_reach_28 ?_
        refine r_topi (nI_add _ _) ?_
        refine r_iald K 46 (n := 24) (by decide) rfl rfl (by decide) (by omega) dX7_reach_29 ?_
        have hq220 : T 0 (rN) < 256 := hT.1 0 (rN)
        refine r_topi (b := (nI (T 0 rN))) (by rw [show (3 * rN) + 0 = 3 * rN + 0 by omega]; exact hR.2.2.2.1 _ (by omega) 0 (by decide)) ?_
        refine r_goto K 35 dX7_reach_30 (by decide) ?_
        exact r_iret K hr (⟨by simp (decide := true) [rchS, *], rfl, rfl⟩) dX7_reach_35
      · refine r_aload_n K 0 rfl rfl dX7_reach_20 ?_
        refine get_71_1 K fl_RX7_7 dX7_reach_21 ?_
        refine r_iconst K ((nI (3))) (by decide) dX7_reach_24 ?_
        refine r_iload_n K 1 rfl rfl dX7_reach_25 ?_
        refine r_imul K dX7_reach_26 ?_
        refine r_topi (pk_mul _ _) ?_
        refine r_iload_n K 2 rfl rfl dX7_reach_27 ?_
        refine r_iadd K dX7_reach_28 ?_
        refine r_topi (nI_add _ _) ?_
        refine r_iald K 46 (n := 24) (by decide) rfl rfl (by decide) (by omega) dX7_reach_29 ?_
        have hq221 : T 1 (rN) < 256 := hT.1 1 (rN)
        refine r_topi (b := (nI (T 1 rN))) (by rw [show (3 * rN) + 1 = 3 * rN + 1 by omega]; exact hR.2.2.2.1 _ (by omega) 1 (by decide)) ?_
        refine r_goto K 35 dX7_reach_30 (by decide) ?_
        exact r_iret K hr (⟨by simp (decide := true) [rchS, *], rfl, rfl⟩) dX7_reach_35
      · refine r_aload_n K 0 rfl rfl dX7_reach_20 ?_
        refine get_71_1 K fl_RX7_7 dX7_reach_21 ?_
        refine r_iconst K ((nI (3))) (by decide) dX7_reach_24 ?_
        refine r_iload_n K 1 rfl rfl dX7_reach_25 ?_
        refine r_imul K dX7_reach_26 ?_
        refine r_topi (pk_mul _ _) ?_
        refine r_iload_n K 2 rfl rfl dX7_reach_27 ?_
        refine r_iadd K dX7_reach_28 ?_
        refine r_topi (nI_add _ _) ?_
        refine r_iald K 46 (n := 24) (by decide) rfl rfl (by decide) (by omega) dX7_reach_29 ?_
        have hq222 : T 2 (rN) < 256 := hT.1 2 (rN)
        refine r_topi (b := (nI (T 2 rN))) (by rw [show (3 * rN) + 2 = 3 * rN + 2 by omega]; exact hR.2.2.2.1 _ (by omega) 2 (by decide)) ?_
        refine r_goto K 35 dX7_reach_30 (by decide) ?_
        exact r_iret K hr (⟨by simp (decide := true) [rchS, *], rfl, rfl⟩) dX7_reach_35
  · refine r_bipush K ((-2)) (by decide) dX7_reach_8 ?_
    exact r_iret K hr (⟨by simp (decide := true) [rchS, *], rfl, rfl⟩) dX7_reach_10

set_option maxHeartbeats 400000 in
set_option maxRecDepth 10000 in
theorem m_wind {g : Gp} {lau : Launch} {ad : Nat → Nat} {σ : Sg} {T : Tv} (hT : TOk T) (hR : RepM T σ) (l h w : Int32) : Con g lau yX7_wind cX7_wind 4 (Option.some .int) 2 42 [.ref (ad 71), .int (l), .int (h), .int (w)] ad σ (pu (.int (wndS T l h w)) ad σ) := by
  refine con_mk (by decide) (Nat.le_of_ble_eq_true rfl) (fun x hxl K hr => ?_)
  subst hxl
  refine r_lv (lv' := [(0, .ref (ad 71)), (1, .int (l)), (2, .int (h)), (3, .int (w))]) rfl ?_
  have hn8 := hT.2.1
  have hn9 := hT.2.2.1
  have htb := tbits_lt hT
  refine r_iload_n K 1 rfl rfl dX7_wind_0 ?_
  refine r_callSp K (As := [.int (l)]) ms_X7_isLayer ml_RX7_180 (m_isLayer ((l))) rfl rfl (Nat.le_of_ble_eq_true rfl) ⟨by decide, by decide⟩ dX7_wind_1 ?_
  refine b_if_eq K 14 dX7_wind_4 (by decide) (fun h4 => ?_) (fun h4 => ?_)
  · refine r_bipush K ((-2)) (by decide) dX7_wind_14 ?_
    exact r_iret K hr (⟨by simp (decide := true) [wndS, *], rfl, rfl⟩) dX7_wind_16
  · obtain ⟨lN, h_lN, rfl⟩ := isL_t h4
    have e_lN : (nI lN).toInt.toNat = lN := nI_nat (by omega)
    refine r_iload_n K 2 rfl rfl dX7_wind_7 ?_
    refine r_callSp K (As := [.int (h)]) ms_X7_isHour ml_RX7_183 (m_isHour ((h))) rfl rfl (Nat.le_of_ble_eq_true rfl) ⟨by decide, by decide⟩ dX7_wind_8 ?_
    refine b_if_ne K 17 dX7_wind_11 (by decide) (fun h11 => ?_) (fun h11 => ?_)
    · obtain ⟨hN, h_hN, rfl⟩ := isH_t h11
      have e_hN : (nI hN).toInt.toNat = hN := nI_nat (by omega)
      refine r_iload_n K 3 rfl rfl dX7_wind_17 ?_
      refine r_iconst K ((nI (0))) (by decide) dX7_wind_18 ?_
      refine r_iconst K ((nI (1))) (by decide) dX7_wind_19 ?_
      refine r_callSp K (As := [.int (w), .int (nI (0)), .int (nI (1))]) ms_X7_in ml_RX7_61 (m_in ((w)) ((nI (0))) ((nI (1)))) rfl rfl (Nat.le_of_ble_eq_true rfl) ⟨by decide, by decide⟩ dX7_wind_20 ?_
      refine b_if_eq K 44 dX7_wind_23 (by decide) (fun h23 => ?_) (fun h23 => ?_)
      · have n0 : ¬ w = nI 0 := fun z => by rw [z] at h23; exact absurd h23 (by decide)
        have n1 : ¬ w = nI 1 := fun z => by rw [z] at h23; exact absurd h23 (by decide)
        refine r_bipush K ((-3)) (by decide) dX7_wind_44 ?_
        exact r_iret K hr (⟨by simp (decide := true) [wndS, *], rfl, rfl⟩) dX7_wind_46
      · obtain ⟨z_w, hz1, hz2, rfl⟩ := inS_t (by decide) (by decide) h23
        rcases (show z_w = 0 ∨ z_w = 1 by omega) with rfl | rfl
        · refine r_aload_n K 0 rfl rfl dX7_wind_26 ?_
          refine get_71_2 K fl_RX7_13 dX7_wind_27 ?_
          refine r_bipush K ((nI (48))) (by decide) dX7_wind_30 ?_
          refine r_iload_n K 1 rfl rfl dX7_wind_32 ?_
          refine r_imul K dX7_wind_33 ?_
          refine r_topi (pk_mul _ _) ?_
          refine r_iconst K ((nI (2))) (by decide) dX7_wind_34 ?_
          refine r_iload_n K 2 rfl rfl dX7_wind_35 ?_
          refine r_imul K dX7_wind_36 ?_
          refine r_topi (pk_mul _ _) ?_
          refine r_iadd K dX7_wind_37 ?_
          refine r_topi (nI_add _ _) ?_
          refine r_iload_n K 3 rfl rfl dX7_wind_38 ?_
          refine r_iadd K dX7_wind_39 ?_
          refine r_topi (nI_add _ _) ?_
          refine r_iald K 47 (n := 288) (by decide) rfl rfl (by decide) (by omega) dX7_wind_40 ?_
          have hq226 : T 3 (24 * lN + hN) < 256 := hT.1 3 (24 * lN + hN)
          refine r_topi (b := (nI (T 3 (24 * lN + hN)))) (by rw [show ((48 * lN) + (2 * hN)) + 0 = 2 * (24 * lN + hN) by omega]; exact (hR.2.2.2.2.1 _ (by omega)).1) ?_
          refine r_goto K 46 dX7_wind_41 (by decide) ?_
          exact r_iret K hr (⟨by simp (decide := true) [wndS, *], rfl, rfl⟩) dX7_wind_46
        · refine r_aload_n K 0 rfl rfl dX7_wind_26 ?_
          refine get_71_2 K fl_RX7_13 dX7_wind_27 ?_
          refine r_bipush K ((nI (48))) (by decide) dX7_wind_30 ?_
          refine r_iload_n K 1 rfl rfl dX7_wind_32 ?_
          refine r_imul K dX7_wind_33 ?_
          refine r_topi (pk_mul _ _) ?_
          refine r_iconst K ((nI (2))) (by decide) dX7_wind_34 ?_
          refine r_iload_n K 2 rfl rfl dX7_wind_35 ?_
          refine r_imul K dX7_wind_36 ?_
          refine r_topi (pk_mul _ _) ?_
          refine r_iadd K dX7_wind_37 ?_
          refine r_topi (nI_add _ _) ?_
          refine r_iload_n K 3 rfl rfl dX7_wind_38 ?_
          refine r_iadd K dX7_wind_39 ?_
          refine r_topi (nI_add _ _) ?_
          refine r_iald K 47 (n := 288) (by decide) rfl rfl (by decide) (by omega) dX7_wind_40 ?_
          have hq227 : T 4 (24 * lN + hN) < 256 := hT.1 4 (24 * lN + hN)
          refine r_topi (b := (nI (T 4 (24 * lN + hN)))) (by rw [show ((48 * lN) + (2 * hN)) + 1 = 2 * (24 * lN + hN) + 1 by omega]; exact (hR.2.2.2.2.1 _ (by omega)).2) ?_
          refine r_goto K 46 dX7_wind_41 (by decide) ?_
          exact r_iret K hr (⟨by simp (decide := true) [wndS, *], rfl, rfl⟩) dX7_wind_46
    · refine r_bipush K ((-2)) (by decide) dX7_wind_14 ?_
      exact r_iret K hr (⟨by simp (decide := true) [wndS, *], rfl, rfl⟩) dX7_wind_16

set_option maxHeartbeats 400000 in
set_option maxRecDepth 10000 in
theorem m_barge {g : Gp} {lau : Launch} {ad : Nat → Nat} {σ : Sg} {T : Tv} (hT : TOk T) (hR : RepM T σ) (b w : Int32) : Con g lau yX7_barge cX7_barge 3 (Option.some .int) 2 43 [.ref (ad 71), .int (b), .int (w)] ad σ (pu (.int (brgS T b w)) ad σ) := by
  refine con_mk (by decide) (Nat.le_of_ble_eq_true rfl) (fun x hxl K hr => ?_)
  subst hxl
  refine r_lv (lv' := [(0, .ref (ad 71)), (1, .int (b)), (2, .int (w))]) rfl ?_
  have hn8 := hT.2.1
  have hn9 := hT.2.2.1
  have htb := tbits_lt hT
  refine r_aload_n K 0 rfl rfl dX7_barge_0 ?_
  refine r_iload_n K 1 rfl rfl dX7_barge_1 ?_
  refine r_callVp K 71 (As := [.int (b)]) mv_X7_isBarge ml_RX7_186 (m_isBarge hT hR ((b))) (by decide) rfl rfl rfl rfl (Nat.le_of_ble_eq_true rfl) ⟨by decide, by decide⟩ dX7_barge_2 ?_
  refine b_if_ne K 11 dX7_barge_5 (by decide) (fun h5 => ?_) (fun h5 => ?_)
  · obtain ⟨bN, h_bN, rfl, t_bN⟩ := hasB_t h5
    have e_bN : (nI bN).toInt.toNat = bN := nI_nat (by omega)
    refine r_iload_n K 2 rfl rfl dX7_barge_11 ?_
    refine r_iconst K ((nI (1))) (by decide) dX7_barge_12 ?_
    refine r_icmp_ne K 24 dX7_barge_13 (by decide) (fun h13 => ?_) (fun h13 => ?_)
    · refine r_iload_n K 2 rfl rfl dX7_barge_24 ?_
      refine r_iconst K ((nI (0))) (by decide) dX7_barge_25 ?_
      refine r_iconst K ((nI (3))) (by decide) dX7_barge_26 ?_
      refine r_callSp K (As := [.int (w), .int (nI (0)), .int (nI (3))]) ms_X7_in ml_RX7_61 (m_in ((w)) ((nI (0))) ((nI (3)))) rfl rfl (Nat.le_of_ble_eq_true rfl) ⟨by decide, by decide⟩ dX7_barge_27 ?_
      refine b_if_eq K 46 dX7_barge_30 (by decide) (fun h30 => ?_) (fun h30 => ?_)
      · have n0 : ¬ w = nI 0 := fun z => by rw [z] at h30; exact absurd h30 (by decide)
        have n1 : ¬ w = nI 1 := fun z => by rw [z] at h30; exact absurd h30 (by decide)
        have n2 : ¬ w = nI 2 := fun z => by rw [z] at h30; exact absurd h30 (by decide)
        have n3 : ¬ w = nI 3 := fun z => by rw [z] at h30; exact absurd h30 (by decide)
        refine r_bipush K ((-3)) (by decide) dX7_barge_46 ?_
        exact r_iret K hr (⟨by first | (exfalso; exact h13 rfl) | (simp (decide := true) [brgS, *]; done), rfl, rfl⟩) dX7_barge_48
      · obtain ⟨z_w, hz1, hz2, rfl⟩ := inS_t (by decide) (by decide) h30
        rcases (show z_w = 0 ∨ z_w = 1 ∨ z_w = 2 ∨ z_w = 3 by omega) with rfl | rfl | rfl | rfl
        · refine r_aload_n K 0 rfl rfl dX7_barge_33 ?_
          refine get_71_5 K fl_RX7_20 dX7_barge_34 ?_
          refine r_iconst K ((nI (4))) (by decide) dX7_barge_37 ?_
          refine r_iload_n K 1 rfl rfl dX7_barge_38 ?_
          refine r_imul K dX7_barge_39 ?_
          refine r_topi (pk_mul _ _) ?_
          refine r_iload_n K 2 rfl rfl dX7_barge_40 ?_
          refine r_iadd K dX7_barge_41 ?_
          refine r_topi (nI_add _ _) ?_
          refine r_iald K 48 (n := 16) (by decide) rfl rfl (by decide) (by omega) dX7_barge_42 ?_
          have hq231 : T 6 (bN) < 256 := hT.1 6 (bN)
          refine r_topi (b := (nI (T 6 bN))) (by rw [show (4 * bN) + 0 = 4 * bN + 0 by omega]; exact hR.2.2.2.2.2 _ (by omega) 0 (by decide)) ?_
          refine r_goto K 48 dX7_barge_43 (by decide) ?_
          exact r_iret K hr (⟨by first | (exfalso; exact h13 rfl) | (simp (decide := true) [brgS, *]; done), rfl, rfl⟩) dX7_barge_48
        · refine r_aload_n K 0 rfl rfl dX7_barge_33 ?_
          refine get_71_5 K fl_RX7_20 dX7_barge_34 ?_
          refine r_iconst K ((nI (4))) (by decide) dX7_barge_37 ?_
          refine r_iload_n K 1 rfl rfl dX7_barge_38 ?_
          refine r_imul K dX7_barge_39 ?_
          refine r_topi (pk_mul _ _) ?_
          refine r_iload_n K 2 rfl rfl dX7_barge_40 ?_
          refine r_iadd K dX7_barge_41 ?_
          refine r_topi (nI_add _ _) ?_
          refine r_iald K 48 (n := 16) (by decide) rfl rfl (by decide) (by omega) dX7_barge_42 ?_
          have hq232 : T 7 (bN) < 256 := hT.1 7 (bN)
          refine r_topi (b := (nI (T 7 bN))) (by rw [show (4 * bN) + 1 = 4 * bN + 1 by omega]; exact hR.2.2.2.2.2 _ (by omega) 1 (by decide)) ?_
          refine r_goto K 48 dX7_barge_43 (by decide) ?_
          exact r_iret K hr (⟨by first | (exfalso; exact h13 rfl) | (simp (decide := true) [brgS, *]; done), rfl, rfl⟩) dX7_barge_48
        · refine r_aload_n K 0 rfl rfl dX7_barge_33 ?_
          refine get_71_5 K fl_RX7_20 dX7_barge_34 ?_
          refine r_iconst K ((nI (4))) (by decide) dX7_barge_37 ?_
          refine r_iload_n K 1 rfl rfl dX7_barge_38 ?_
          refine r_imul K dX7_barge_39 ?_
          refine r_topi (pk_mul _ _) ?_
          refine r_iload_n K 2 rfl rfl dX7_barge_40 ?_
          refine r_iadd K dX7_barge_41 ?_
          refine r_topi (nI_add _ _) ?_
          refine r_iald K 48 (n := 16) (by decide) rfl rfl (by decide) (by omega) dX7_barge_42 ?_
          have hq233 : T 8 (bN) < 256 := hT.1 8 (bN)
          refine r_topi (b := (nI (T 8 bN))) (by rw [show (4 * bN) + 2 = 4 * bN + 2 by omega]; exact hR.2.2.2.2.2 _ (by omega) 2 (by decide)) ?_
          refine r_goto K 48 dX7_barge_43 (by decide) ?_
          exact r_iret K hr (⟨by first | (exfalso; exact h13 rfl) | (simp (decide := true) [brgS, *]; done), rfl, rfl⟩) dX7_barge_48
        · refine r_aload_n K 0 rfl rfl dX7_barge_33 ?_
          refine get_71_5 K fl_RX7_20 dX7_barge_34 ?_
          refine r_iconst K ((nI (4))) (by decide) dX7_barge_37 ?_
          refine r_iload_n K 1 rfl rfl dX7_barge_38 ?_
          refine r_imul K dX7_barge_39 ?_
          refine r_topi (pk_mul _ _) ?_
          refine r_iload_n K 2 rfl rfl dX7_barge_40 ?_
          refine r_iadd K dX7_barge_41 ?_
          refine r_topi (nI_add _ _) ?_
          refine r_iald K 48 (n := 16) (by decide) rfl rfl (by decide) (by omega) dX7_barge_42 ?_
          have hq234 : T 9 (bN) < 256 := hT.1 9 (bN)
          refine r_topi (b := (nI (T 9 bN))) (by rw [show (4 * bN) + 3 = 4 * bN + 3 by omega]; exact hR.2.2.2.2.2 _ (by omega) 3 (by decide)) ?_
          refine r_goto K 48 dX7_barge_43 (by decide) ?_
          exact r_iret K hr (⟨by first | (exfalso; exact h13 rfl) | (simp (decide := true) [brgS, *]; done), rfl, rfl⟩) dX7_barge_48
    · refine r_aload_n K 0 rfl rfl dX7_barge_16 ?_
      refine r_iload_n K 1 rfl rfl dX7_barge_17 ?_
      refine r_callVp K 71 (As := [.int (nI (bN))]) mv_X7_cordOf ml_RX7_189 (m_cordOf hT hR (b := bN) (by omega)) (by decide) rfl rfl rfl rfl (Nat.le_of_ble_eq_true rfl) ⟨by decide, by decide⟩ dX7_barge_18 ?_
      have hcd := cordS_le hT bN
      refine r_goto K 48 dX7_barge_21 (by decide) ?_
      exact r_iret K hr (⟨by first | (exfalso; exact h13 rfl) | (simp (decide := true) [brgS, *]; done), rfl, rfl⟩) dX7_barge_48
  · refine r_bipush K ((-2)) (by decide) dX7_barge_8 ?_
    exact r_iret K hr (⟨by first | (exfalso; exact h13 rfl) | (simp (decide := true) [brgS, *]; done), rfl, rfl⟩) dX7_barge_10

set_option maxHeartbeats 400000 in
set_option maxRecDepth 10000 in
theorem m_as {g : Gp} {lau : Launch} {ad : Nat → Nat} {σ : Sg} {T : Tv} (hT : TOk T) (hR : RepM T σ) (b k : Int32) : Con g lau yX7_as cX7_as 5 (Option.some .int) 2 43 [.ref (ad 71), .int (b), .int (k)] ad σ (pu (.int (asS T b k)) ad σ) := by
  refine con_mk (by decide) (Nat.le_of_ble_eq_true rfl) (fun x hxl K hr => ?_)
  subst hxl
  refine r_lv (lv' := [(0, .ref (ad 71)), (1, .int (b)), (2, .int (k))]) rfl ?_
  have hn8 := hT.2.1
  have hn9 := hT.2.2.1
  have htb := tbits_lt hT
  refine r_aload_n K 0 rfl rfl dX7_as_0 ?_
  refine r_iload_n K 1 rfl rfl dX7_as_1 ?_
  refine r_callVp K 71 (As := [.int (b)]) mv_X7_isBarge ml_RX7_186 (m_isBarge hT hR ((b))) (by decide) rfl rfl rfl rfl (Nat.le_of_ble_eq_true rfl) ⟨by decide, by decide⟩ dX7_as_2 ?_
  refine b_if_ne K 11 dX7_as_5 (by decide) (fun h5 => ?_) (fun h5 => ?_)
  · obtain ⟨bN, h_bN, rfl, t_bN⟩ := hasB_t h5
    have e_bN : (nI bN).toInt.toNat = bN := nI_nat (by omega)
    refine r_iload_n K 2 rfl rfl dX7_as_11 ?_
    refine r_iconst K ((nI (0))) (by decide) dX7_as_12 ?_
    refine r_iconst K ((nI (4))) (by decide) dX7_as_13 ?_
    refine r_callSp K (As := [.int (k), .int (nI (0)), .int (nI (4))]) ms_X7_in ml_RX7_61 (m_in ((k)) ((nI (0))) ((nI (4)))) rfl rfl (Nat.le_of_ble_eq_true rfl) ⟨by decide, by decide⟩ dX7_as_14 ?_
    refine b_if_ne K 23 dX7_as_17 (by decide) (fun h17 => ?_) (fun h17 => ?_)
    · refine r_aload_n K 0 rfl rfl dX7_as_23 ?_
      refine get_71_5 K fl_RX7_20 dX7_as_24 ?_
      refine r_iconst K ((nI (4))) (by decide) dX7_as_27 ?_
      refine r_iload_n K 1 rfl rfl dX7_as_28 ?_
      refine r_imul K dX7_as_29 ?_
      refine r_topi (pk_mul _ _) ?_
      refine r_iconst K ((nI (2))) (by decide) dX7_as_30 ?_
      refine r_iadd K dX7_as_31 ?_
      refine r_topi (nI_add _ _) ?_
      refine r_iald K 48 (n := 16) (by decide) rfl rfl (by decide) (by omega) dX7_as_32 ?_
      have hq237 : T 8 (bN) < 256 := hT.1 8 (bN)
      refine r_topi (b := (nI (T 8 bN))) (by rw [show (4 * bN) + 2 = 4 * bN + 2 by omega]; exact hR.2.2.2.2.2 _ (by omega) 2 (by decide)) ?_
      refine r_istore_n K (lv' := [(3, .int (nI (T 8 bN))), (0, .ref (ad 71)), (1, .int (nI (bN))), (2, .int (k))]) 3 rfl (by decide) rfl dX7_as_33 ?_
      refine r_iload_n K 2 rfl rfl dX7_as_34 ?_
      refine r_if_eq K 53 dX7_as_35 (by decide) (fun h35 => ?_) (fun h35 => ?_)
      · refine r_iconst K ((nI (1))) (by decide) dX7_as_53 ?_
        refine r_goto K 58 dX7_as_54 (by decide) ?_
        refine r_istore K (lv' := [(4, .int (nI (1))), (3, .int (nI (T 8 bN))), (0, .ref (ad 71)), (1, .int (nI (bN))), (2, .int (k))]) (by decide) rfl dX7_as_58 ?_
        refine r_iload K rfl dX7_as_60 ?_
        refine n_if_eq K 84 (by omega) dX7_as_62 (by decide) (fun z => absurd z (by decide)) (fun _ => ?_)
        refine r_bipush K ((nI (100))) (by decide) dX7_as_65 ?_
        refine r_iload_n K 3 rfl rfl dX7_as_67 ?_
        refine r_iconst K ((nI (0))) (by decide) dX7_as_68 ?_
        refine r_iconst K ((nI (1))) (by decide) dX7_as_69 ?_
        refine r_callSp K (As := [.int (nI (T 8 bN)), .int (nI (0)), .int (nI (1))]) ms_X7_pull ml_RX7_193 (m_pull (k := T 8 bN) (w := 0) (s := 1) (hT.2.2.2.2.2.2.1 _).2.2.2.1 (by decide) (by decide)) rfl rfl (Nat.le_of_ble_eq_true rfl) ⟨by decide, by decide⟩ dX7_as_70 ?_
        refine r_imul K dX7_as_73 ?_
        refine r_topi (pk_mul _ _) ?_
        refine r_iload_n K 3 rfl rfl dX7_as_74 ?_
        refine r_iconst K ((nI (2))) (by decide) dX7_as_75 ?_
        refine r_iconst K ((nI (1))) (by decide) dX7_as_76 ?_
        refine r_callSp K (As := [.int (nI (T 8 bN)), .int (nI (2)), .int (nI (1))]) ms_X7_pull ml_RX7_193 (m_pull (k := T 8 bN) (w := 2) (s := 1) (hT.2.2.2.2.2.2.1 _).2.2.2.1 (by decide) (by decide)) rfl rfl (Nat.le_of_ble_eq_true rfl) ⟨by decide, by decide⟩ dX7_as_77 ?_
        refine r_iadd K dX7_as_80 ?_
        refine r_topi (nI_add _ _) ?_
        refine r_goto K 86 dX7_as_81 (by decide) ?_
        exact r_iret K hr (⟨by rw [asS, if_pos h5, if_pos h17, e_bN]; rw [if_pos (by first | exact Or.inl h35 | exact Or.inr (Or.inl h40) | exact Or.inr (Or.inr ⟨h45, h50⟩))]; rfl, rfl, rfl⟩) dX7_as_86
      · refine r_iload_n K 2 rfl rfl dX7_as_38 ?_
        refine r_iload_n K 3 rfl rfl dX7_as_39 ?_
        refine r_icmp_eq K 53 dX7_as_40 (by decide) (fun h40 => ?_) (fun h40 => ?_)
        · refine r_iconst K ((nI (1))) (by decide) dX7_as_53 ?_
          refine r_goto K 58 dX7_as_54 (by decide) ?_
          refine r_istore K (lv' := [(4, .int (nI (1))), (3, .int (nI (T 8 bN))), (0, .ref (ad 71)), (1, .int (nI (bN))), (2, .int (k))]) (by decide) rfl dX7_as_58 ?_
          refine r_iload K rfl dX7_as_60 ?_
          refine n_if_eq K 84 (by omega) dX7_as_62 (by decide) (fun z => absurd z (by decide)) (fun _ => ?_)
          refine r_bipush K ((nI (100))) (by decide) dX7_as_65 ?_
          refine r_iload_n K 3 rfl rfl dX7_as_67 ?_
          refine r_iconst K ((nI (0))) (by decide) dX7_as_68 ?_
          refine r_iconst K ((nI (1))) (by decide) dX7_as_69 ?_
          refine r_callSp K (As := [.int (nI (T 8 bN)), .int (nI (0)), .int (nI (1))]) ms_X7_pull ml_RX7_193 (m_pull (k := T 8 bN) (w := 0) (s := 1) (hT.2.2.2.2.2.2.1 _).2.2.2.1 (by decide) (by decide)) rfl rfl (Nat.le_of_ble_eq_true rfl) ⟨by decide, by decide⟩ dX7_as_70 ?_
          refine r_imul K dX7_as_73 ?_
          refine r_topi (pk_mul _ _) ?_
          refine r_iload_n K 3 rfl rfl dX7_as_74 ?_
          refine r_iconst K ((nI (2))) (by decide) dX7_as_75 ?_
          refine r_iconst K ((nI (1))) (by decide) dX7_as_76 ?_
          refine r_callSp K (As := [.int (nI (T 8 bN)), .int (nI (2)), .int (nI (1))]) ms_X7_pull ml_RX7_193 (m_pull (k := T 8 bN) (w := 2) (s := 1) (hT.2.2.2.2.2.2.1 _).2.2.2.1 (by decide) (by decide)) rfl rfl (Nat.le_of_ble_eq_true rfl) ⟨by decide, by decide⟩ dX7_as_77 ?_
          refine r_iadd K dX7_as_80 ?_
          refine r_topi (nI_add _ _) ?_
          refine r_goto K 86 dX7_as_81 (by decide) ?_
          exact r_iret K hr (⟨by rw [asS, if_pos h5, if_pos h17, e_bN]; rw [if_pos (by first | exact Or.inl h35 | exact Or.inr (Or.inl h40) | exact Or.inr (Or.inr ⟨h45, h50⟩))]; rfl, rfl, rfl⟩) dX7_as_86
        · refine r_iload_n K 2 rfl rfl dX7_as_43 ?_
          refine r_iconst K ((nI (3))) (by decide) dX7_as_44 ?_
          refine r_icmp_ne K 57 dX7_as_45 (by decide) (fun h45 => ?_) (fun h45 => ?_)
          · refine r_iconst K ((nI (0))) (by decide) dX7_as_57 ?_
            refine r_istore K (lv' := [(4, .int (nI (0))), (3, .int (nI (T 8 bN))), (0, .ref (ad 71)), (1, .int (nI (bN))), (2, .int (k))]) (by decide) rfl dX7_as_58 ?_
            refine r_iload K rfl dX7_as_60 ?_
            refine n_if_eq K 84 (by omega) dX7_as_62 (by decide) (fun _ => ?_) (fun z => absurd z (by decide))
            refine r_bipush K ((-4)) (by decide) dX7_as_84 ?_
            exact r_iret K hr (⟨by rw [asS, if_pos h5, if_pos h17, e_bN]; rw [if_neg (fun z => by rcases z with z | z | z; exact h35 z; exact h40 z; first | exact h45 z.1 | exact h50 z.2)], rfl, rfl⟩) dX7_as_86
          · refine r_iload_n K 3 rfl rfl dX7_as_48 ?_
            refine r_iconst K ((nI (4))) (by decide) dX7_as_49 ?_
            refine n_icmp_ne K 57 (by omega) (by omega) dX7_as_50 (by decide) (fun h50 => ?_) (fun h50 => ?_)
            · refine r_iconst K ((nI (0))) (by decide) dX7_as_57 ?_
              refine r_istore K (lv' := [(4, .int (nI (0))), (3, .int (nI (T 8 bN))), (0, .ref (ad 71)), (1, .int (nI (bN))), (2, .int (k))]) (by decide) rfl dX7_as_58 ?_
              refine r_iload K rfl dX7_as_60 ?_
              refine n_if_eq K 84 (by omega) dX7_as_62 (by decide) (fun _ => ?_) (fun z => absurd z (by decide))
              refine r_bipush K ((-4)) (by decide) dX7_as_84 ?_
              exact r_iret K hr (⟨by rw [asS, if_pos h5, if_pos h17, e_bN]; rw [if_neg (fun z => by rcases z with z | z | z; exact h35 z; exact h40 z; first | exact h45 z.1 | exact h50 z.2)], rfl, rfl⟩) dX7_as_86
            · refine r_iconst K ((nI (1))) (by decide) dX7_as_53 ?_
              refine r_goto K 58 dX7_as_54 (by decide) ?_
              refine r_istore K (lv' := [(4, .int (nI (1))), (3, .int (nI (T 8 bN))), (0, .ref (ad 71)), (1, .int (nI (bN))), (2, .int (k))]) (by decide) rfl dX7_as_58 ?_
              refine r_iload K rfl dX7_as_60 ?_
              refine n_if_eq K 84 (by omega) dX7_as_62 (by decide) (fun z => absurd z (by decide)) (fun _ => ?_)
              refine r_bipush K ((nI (100))) (by decide) dX7_as_65 ?_
              refine r_iload_n K 3 rfl rfl dX7_as_67 ?_
              refine r_iconst K ((nI (0))) (by decide) dX7_as_68 ?_
              refine r_iconst K ((nI (1))) (by decide) dX7_as_69 ?_
              refine r_callSp K (As := [.int (nI (T 8 bN)), .int (nI (0)), .int (nI (1))]) ms_X7_pull ml_RX7_193 (m_pull (k := T 8 bN) (w := 0) (s := 1) (hT.2.2.2.2.2.2.1 _).2.2.2.1 (by decide) (by decide)) rfl rfl (Nat.le_of_ble_eq_true rfl) ⟨by decide, by decide⟩ dX7_as_70 ?_
              refine r_imul K dX7_as_73 ?_
              refine r_topi (pk_mul _ _) ?_
              refine r_iload_n K 3 rfl rfl dX7_as_74 ?_
              refine r_iconst K ((nI (2))) (by decide) dX7_as_75 ?_
              refine r_iconst K ((nI (1))) (by decide) dX7_as_76 ?_
              refine r_callSp K (As := [.int (nI (T 8 bN)), .int (nI (2)), .int (nI (1))]) ms_X7_pull ml_RX7_193 (m_pull (k := T 8 bN) (w := 2) (s := 1) (hT.2.2.2.2.2.2.1 _).2.2.2.1 (by decide) (by decide)) rfl rfl (Nat.le_of_ble_eq_true rfl) ⟨by decide, by decide⟩ dX7_as_77 ?_
              refine r_iadd K dX7_as_80 ?_
              refine r_topi (nI_add _ _) ?_
              refine r_goto K 86 dX7_as_81 (by decide) ?_
              exact r_iret K hr (⟨by rw [asS, if_pos h5, if_pos h17, e_bN]; rw [if_pos (by first | exact Or.inl h35 | exact Or.inr (Or.inl h40) | exact Or.inr (Or.inr ⟨h45, h50⟩))]; rfl, rfl, rfl⟩) dX7_as_86
    · refine r_bipush K ((-3)) (by decide) dX7_as_20 ?_
      exact r_iret K hr (⟨by simp (decide := true) [asS, *], rfl, rfl⟩) dX7_as_22
  · refine r_bipush K ((-2)) (by decide) dX7_as_8 ?_
    exact r_iret K hr (⟨by simp (decide := true) [asS, *], rfl, rfl⟩) dX7_as_10

set_option maxHeartbeats 400000 in
set_option maxRecDepth 10000 in
theorem m_yards {g : Gp} {lau : Launch} {ad : Nat → Nat} {σ : Sg} {T : Tv} (hT : TOk T) (hR : RepM T σ) (b r l h : Int32) : Con g lau yX7_yards cX7_yards 5 (Option.some .int) 2 48 [.ref (ad 71), .int (b), .int (r), .int (l), .int (h)] ad σ (pu (.int (yrdS T b r l h)) ad σ) := by
  refine con_mk (by decide) (Nat.le_of_ble_eq_true rfl) (fun x hxl K hr => ?_)
  subst hxl
  refine r_lv (lv' := [(0, .ref (ad 71)), (1, .int (b)), (2, .int (r)), (3, .int (l)), (4, .int (h))]) rfl ?_
  have hn8 := hT.2.1
  have hn9 := hT.2.2.1
  have htb := tbits_lt hT
  refine r_aload_n K 0 rfl rfl dX7_yards_0 ?_
  refine r_iload_n K 1 rfl rfl dX7_yards_1 ?_
  refine r_callVp K 71 (As := [.int (b)]) mv_X7_isBarge ml_RX7_186 (m_isBarge hT hR ((b))) (by decide) rfl rfl rfl rfl (Nat.le_of_ble_eq_true rfl) ⟨by decide, by decide⟩ dX7_yards_2 ?_
  refine b_if_eq K 43 dX7_yards_5 (by decide) (fun h5 => ?_) (fun h5 => ?_)
  · refine r_bipush K ((-2)) (by decide) dX7_yards_43 ?_
    exact r_iret K hr (⟨by simp (decide := true) [yrdS, *], rfl, rfl⟩) dX7_yards_45
  · obtain ⟨bN, h_bN, rfl, t_bN⟩ := hasB_t h5
    have e_bN : (nI bN).toInt.toNat = bN := nI_nat (by omega)
    refine r_aload_n K 0 rfl rfl dX7_yards_8 ?_
    refine r_iload_n K 2 rfl rfl dX7_yards_9 ?_
    refine r_callVp K 71 (As := [.int (r)]) mv_X7_isReach ml_RX7_177 (m_isReach hT hR ((r))) (by decide) rfl rfl rfl rfl (Nat.le_of_ble_eq_true rfl) ⟨by decide, by decide⟩ dX7_yards_10 ?_
    refine b_if_eq K 43 dX7_yards_13 (by decide) (fun h13 => ?_) (fun h13 => ?_)
    · refine r_bipush K ((-2)) (by decide) dX7_yards_43 ?_
      exact r_iret K hr (⟨by simp (decide := true) [yrdS, *], rfl, rfl⟩) dX7_yards_45
    · obtain ⟨rN, h_rN, rfl⟩ := hasR_t h13
      have e_rN : (nI rN).toInt.toNat = rN := nI_nat (by omega)
      refine r_iload_n K 3 rfl rfl dX7_yards_16 ?_
      refine r_callSp K (As := [.int (l)]) ms_X7_isLayer ml_RX7_180 (m_isLayer ((l))) rfl rfl (Nat.le_of_ble_eq_true rfl) ⟨by decide, by decide⟩ dX7_yards_17 ?_
      refine b_if_eq K 43 dX7_yards_20 (by decide) (fun h20 => ?_) (fun h20 => ?_)
      · refine r_bipush K ((-2)) (by decide) dX7_yards_43 ?_
        exact r_iret K hr (⟨by simp (decide := true) [yrdS, *], rfl, rfl⟩) dX7_yards_45
      · obtain ⟨lN, h_lN, rfl⟩ := isL_t h20
        have e_lN : (nI lN).toInt.toNat = lN := nI_nat (by omega)
        refine r_iload K rfl dX7_yards_23 ?_
        refine r_callSp K (As := [.int (h)]) ms_X7_isHour ml_RX7_183 (m_isHour ((h))) rfl rfl (Nat.le_of_ble_eq_true rfl) ⟨by decide, by decide⟩ dX7_yards_25 ?_
        refine b_if_eq K 43 dX7_yards_28 (by decide) (fun h28 => ?_) (fun h28 => ?_)
        · refine r_bipush K ((-2)) (by decide) dX7_yards_43 ?_
          exact r_iret K hr (⟨by simp (decide := true) [yrdS, *], rfl, rfl⟩) dX7_yards_45
        · obtain ⟨hN, h_hN, rfl⟩ := isH_t h28
          have e_hN : (nI hN).toInt.toNat = hN := nI_nat (by omega)
          refine r_aload_n K 0 rfl rfl dX7_yards_31 ?_
          refine r_iload_n K 1 rfl rfl dX7_yards_32 ?_
          refine r_iload_n K 2 rfl rfl dX7_yards_33 ?_
          refine r_iload_n K 3 rfl rfl dX7_yards_34 ?_
          refine r_iload K rfl dX7_yards_35 ?_
          refine r_callVp K 71 (As := [.int (nI (bN)), .int (nI (rN)), .int (nI (lN)), .int (nI (hN))]) mv_X7_yardsOf ml_RX7_201 (m_yardsOf hT hR (b := bN) (r := rN) (l := lN) (h := hN) (by omega) (hT.2.2.2.2.2.2.2 _ t_bN).1 (by omega) (by omega) (by omega)) (by decide) rfl rfl rfl rfl (Nat.le_of_ble_eq_true rfl) ⟨by decide, by decide⟩ dX7_yards_37 ?_
          have hst := stepS_le hT bN rN lN hN
          refine r_goto K 45 dX7_yards_40 (by decide) ?_
          exact r_iret K hr (⟨by simp (decide := true) [yrdS, *], rfl, rfl⟩) dX7_yards_45

set_option maxHeartbeats 400000 in
set_option maxRecDepth 10000 in
theorem m_at {g : Gp} {lau : Launch} {ad : Nat → Nat} {σ : Sg} {T F : Tv} (hT : TOk T) (hR : RepM T σ) (hV : FOk T F) (hF : RepN 51 0 F σ) (b w : Int32) : Con g lau yX7_at cX7_at 3 (Option.some .int) 2 43 [.ref (ad 71), .int (b), .int (w)] ad σ (pu (.int (atS T F b w)) ad σ) := by
  refine con_mk (by decide) (Nat.le_of_ble_eq_true rfl) (fun x hxl K hr => ?_)
  subst hxl
  refine r_lv (lv' := [(0, .ref (ad 71)), (1, .int (b)), (2, .int (w))]) rfl ?_
  have hn8 := hT.2.1
  have hn9 := hT.2.2.1
  have htb := tbits_lt hT
  have hh24 := hV.2.2.1
  refine r_aload_n K 0 rfl rfl dX7_at_0 ?_
  refine r_iload_n K 1 rfl rfl dX7_at_1 ?_
  refine r_callVp K 71 (As := [.int (b)]) mv_X7_isBarge ml_RX7_186 (m_isBarge hT hR ((b))) (by decide) rfl rfl rfl rfl (Nat.le_of_ble_eq_true rfl) ⟨by decide, by decide⟩ dX7_at_2 ?_
  refine b_if_ne K 11 dX7_at_5 (by decide) (fun h5 => ?_) (fun h5 => ?_)
  · obtain ⟨bN, h_bN, rfl, t_bN⟩ := hasB_t h5
    have e_bN : (nI bN).toInt.toNat = bN := nI_nat (by omega)
    have hv0 := (hV.1 bN).1
    refine r_iload_n K 2 rfl rfl dX7_at_11 ?_
    by_cases q12_0 : w = nI 0
    · subst q12_0
      refine r_tableIn K 48 dX7_at_12 (by decide) (by decide) rfl (by decide) ?_
      refine r_aload_n K 0 rfl rfl dX7_at_48 ?_
      refine get_71_17 K fl_RX7_29 dX7_at_49 ?_
      refine r_iload_n K 1 rfl rfl dX7_at_52 ?_
      refine r_iald K 51 (n := 21) (by decide) rfl rfl (by decide) (by omega) dX7_at_53 ?_
      refine r_topi (b := (nI (F 0 bN))) (by have hz := (hF.1 bN (by omega)).1; rw [Nat.zero_add] at hz; exact hz) ?_
      refine r_sipush K ((nI (160))) (by decide) dX7_at_54 ?_
      refine n_icmp_ne K 64 (by omega) (by omega) dX7_at_57 (by decide) (fun h57 => ?_) (fun h57 => ?_)
      · refine r_aload_n K 0 rfl rfl dX7_at_64 ?_
        refine get_71_17 K fl_RX7_29 dX7_at_65 ?_
        refine r_iload_n K 1 rfl rfl dX7_at_68 ?_
        refine r_iald K 51 (n := 21) (by decide) rfl rfl (by decide) (by omega) dX7_at_69 ?_
        refine r_topi (b := (nI (F 0 bN))) (by have hz := (hF.1 bN (by omega)).1; rw [Nat.zero_add] at hz; exact hz) ?_
        refine r_bipush K ((nI (20))) (by decide) dX7_at_70 ?_
        refine r_idiv K (nI_ne0 (by omega) (by omega)) dX7_at_72 ?_
        refine r_topi (pk_div (by omega) (by omega) (by omega)) ?_
        exact r_iret K hr (⟨by first | (simp (decide := true) [atS, *]; done) | (simp only [atS]; rw [if_pos h5, if_neg (by decide), if_pos rfl, e_bN, h83]), rfl, rfl⟩) dX7_at_73
      · refine r_iconst K ((-1)) (by decide) dX7_at_60 ?_
        refine r_goto K 73 dX7_at_61 (by decide) ?_
        exact r_iret K hr (⟨by first | (simp (decide := true) [atS, *]; done) | (simp only [atS]; rw [if_pos h5, if_neg (by decide), if_pos rfl, e_bN, h83]), rfl, rfl⟩) dX7_at_73
    · by_cases q12_1 : w = nI 1
      · subst q12_1
        refine r_tableIn K 74 dX7_at_12 (by decide) (by decide) rfl (by decide) ?_
        refine r_aload_n K 0 rfl rfl dX7_at_74 ?_
        refine get_71_17 K fl_RX7_29 dX7_at_75 ?_
        refine r_iload_n K 1 rfl rfl dX7_at_78 ?_
        refine r_iald K 51 (n := 21) (by decide) rfl rfl (by decide) (by omega) dX7_at_79 ?_
        refine r_topi (b := (nI (F 0 bN))) (by have hz := (hF.1 bN (by omega)).1; rw [Nat.zero_add] at hz; exact hz) ?_
        refine r_sipush K ((nI (160))) (by decide) dX7_at_80 ?_
        refine n_icmp_ne K 90 (by omega) (by omega) dX7_at_83 (by decide) (fun h83 => ?_) (fun h83 => ?_)
        · refine r_aload_n K 0 rfl rfl dX7_at_90 ?_
          refine get_71_17 K fl_RX7_29 dX7_at_91 ?_
          refine r_iload_n K 1 rfl rfl dX7_at_94 ?_
          refine r_iald K 51 (n := 21) (by decide) rfl rfl (by decide) (by omega) dX7_at_95 ?_
          refine r_topi (b := (nI (F 0 bN))) (by have hz := (hF.1 bN (by omega)).1; rw [Nat.zero_add] at hz; exact hz) ?_
          refine r_bipush K ((nI (20))) (by decide) dX7_at_96 ?_
          refine r_irem K (nI_ne0 (by omega) (by omega)) dX7_at_98 ?_
          refine r_topi (pk_rem (by omega) (by omega) (by omega)) ?_
          exact r_iret K hr (⟨by first | (simp (decide := true) [atS, *]; done) | (simp only [atS]; rw [if_pos h5, if_neg (by decide), if_pos rfl, e_bN, h83]), rfl, rfl⟩) dX7_at_99
        · refine r_iconst K ((nI (0))) (by decide) dX7_at_86 ?_
          refine r_goto K 99 dX7_at_87 (by decide) ?_
          exact r_iret K hr (⟨by first | (simp (decide := true) [atS, *]; done) | (simp only [atS]; rw [if_pos h5, if_neg (by decide), if_pos rfl, e_bN, h83]), rfl, rfl⟩) dX7_at_99
      · by_cases q12_2 : w = nI 2
        · subst q12_2
          refine r_tableIn K 100 dX7_at_12 (by decide) (by decide) rfl (by decide) ?_
          refine r_aload_n K 0 rfl rfl dX7_at_100 ?_
          refine get_71_17 K fl_RX7_29 dX7_at_101 ?_
          refine r_bipush K ((nI (8))) (by decide) dX7_at_104 ?_
          refine r_iload_n K 1 rfl rfl dX7_at_106 ?_
          refine r_iadd K dX7_at_107 ?_
          refine r_topi (nI_add _ _) ?_
          refine r_iald K 51 (n := 21) (by decide) rfl rfl (by decide) (by omega) dX7_at_108 ?_
          refine r_topi (b := (nI (F 1 bN))) (by have hz := (hF.1 bN (by omega)).2.2.1; rw [Nat.zero_add] at hz; exact hz) ?_
          exact r_iret K hr (⟨by first | (simp (decide := true) [atS, *]; done) | (simp only [atS]; rw [if_pos h5, if_neg (by decide), if_pos rfl, e_bN, h83]), rfl, rfl⟩) dX7_at_109
        · by_cases q12_3 : w = nI 3
          · subst q12_3
            refine r_tableIn K 110 dX7_at_12 (by decide) (by decide) rfl (by decide) ?_
            refine r_aload_n K 0 rfl rfl dX7_at_110 ?_
            refine get_71_17 K fl_RX7_29 dX7_at_111 ?_
            refine r_bipush K ((nI (12))) (by decide) dX7_at_114 ?_
            refine r_iload_n K 1 rfl rfl dX7_at_116 ?_
            refine r_iadd K dX7_at_117 ?_
            refine r_topi (nI_add _ _) ?_
            refine r_iald K 51 (n := 21) (by decide) rfl rfl (by decide) (by omega) dX7_at_118 ?_
            refine r_topi (b := (nI (F 3 bN))) (by have hz := (hF.1 bN (by omega)).2.2.2.1; rw [Nat.zero_add] at hz; exact hz) ?_
            exact r_iret K hr (⟨by first | (simp (decide := true) [atS, *]; done) | (simp only [atS]; rw [if_pos h5, if_neg (by decide), if_pos rfl, e_bN, h83]), rfl, rfl⟩) dX7_at_119
          · by_cases q12_4 : w = nI 4
            · subst q12_4
              refine r_tableIn K 120 dX7_at_12 (by decide) (by decide) rfl (by decide) ?_
              refine r_aload_n K 0 rfl rfl dX7_at_120 ?_
              refine get_71_17 K fl_RX7_29 dX7_at_121 ?_
              refine r_bipush K ((nI (16))) (by decide) dX7_at_124 ?_
              refine r_iload_n K 1 rfl rfl dX7_at_126 ?_
              refine r_iadd K dX7_at_127 ?_
              refine r_topi (nI_add _ _) ?_
              refine r_iald K 51 (n := 21) (by decide) rfl rfl (by decide) (by omega) dX7_at_128 ?_
              refine r_topi (b := (nI (F 4 bN))) (by have hz := (hF.1 bN (by omega)).2.2.2.2; rw [Nat.zero_add] at hz; exact hz) ?_
              exact r_iret K hr (⟨by first | (simp (decide := true) [atS, *]; done) | (simp only [atS]; rw [if_pos h5, if_neg (by decide), if_pos rfl, e_bN, h83]), rfl, rfl⟩) dX7_at_129
            · refine r_tableOut K 130 dX7_at_12 (sw_out (n := 4) (fun j hj => by rcases (show j = 0 ∨ j = 1 ∨ j = 2 ∨ j = 3 ∨ j = 4 by omega) with rfl | rfl | rfl | rfl | rfl <;> assumption)) (by decide) ?_
              refine r_bipush K ((-3)) (by decide) dX7_at_130 ?_
              exact r_iret K hr (⟨by first | (simp (decide := true) [atS, *]; done) | (simp only [atS]; rw [if_pos h5, if_neg (by decide), if_pos rfl, e_bN, h83]), rfl, rfl⟩) dX7_at_132
  · refine r_bipush K ((-2)) (by decide) dX7_at_8 ?_
    exact r_iret K hr (⟨by first | (simp (decide := true) [atS, *]; done) | (simp only [atS]; rw [if_pos h5, if_neg (by decide), if_pos rfl, e_bN, h83]), rfl, rfl⟩) dX7_at_10

set_option maxHeartbeats 400000 in
set_option maxRecDepth 10000 in
theorem m_count {g : Gp} {lau : Launch} {ad : Nat → Nat} {σ : Sg} {T F : Tv} (hT : TOk T) (hR : RepM T σ) (hV : FOk T F) (hF : RepN 51 0 F σ) {X : Tv} (hX : RepX 16 49 X σ) (w : Int32) : Con g lau yX7_count cX7_count 4 (Option.some .int) 0 0 [.ref (ad 71), .int (w)] ad σ (pu (.int (cntS T X F w)) ad σ) := by
  refine con_mk (by decide) (Nat.le_of_ble_eq_true rfl) (fun x hxl K hr => ?_)
  subst hxl
  refine r_lv (lv' := [(0, .ref (ad 71)), (1, .int (w))]) rfl ?_
  have hn8 := hT.2.1
  have hn9 := hT.2.2.1
  have htb := tbits_lt hT
  have hh24 := hV.2.2.1
  refine r_iconst K ((nI (0))) (by decide) dX7_count_0 ?_
  refine r_istore_n K (lv' := [(2, .int (nI (0))), (0, .ref (ad 71)), (1, .int (w))]) 2 rfl (by decide) rfl dX7_count_1 ?_
  refine r_iconst K ((nI (0))) (by decide) dX7_count_2 ?_
  refine r_istore_n K (lv' := [(3, .int (nI (0))), (2, .int (nI (0))), (0, .ref (ad 71)), (1, .int (w))]) 3 rfl (by decide) rfl dX7_count_3 ?_
  refine r_pick [2, 3, 1, 0] (lv' := [(0, .ref (ad 71)), (1, .int (w)), (2, .int (nI (0))), (3, .int (nI (0)))]) rfl ?_
  have lpA : ∀ (mm_ : Nat) (i : Nat) (a : Nat), mm_ = T 10 0 - i → (i ≤ T 10 0) → (a = sumS (T 1) i) → GJ g x 4 4 [(0, .ref (ad 71)), (1, .int (w)), (2, .int (nI (a))), (3, .int (nI (i)))] [] ad (σ) := by
    intro mm_
    induction mm_ using Nat.strongRecOn with
    | _ mm_ ihA =>
      intro i a hmA h1 h2
      refine r_iload_n K 3 rfl rfl dX7_count_4 ?_
      refine r_aload_n K 0 rfl rfl dX7_count_5 ?_
      refine get_71_0 K fl_RX7_160 dX7_count_6 ?_
      refine r_topi (b := (nI (T 10 0))) (hR.1) ?_
      refine n_icmp_ge K 31 (by omega) (by omega) dX7_count_9 (by decide) (fun h9 => ?_) (fun h9 => ?_)
      · have hin : i = T 10 0 := by omega
        refine r_iload_n K 1 rfl rfl dX7_count_31 ?_
        by_cases q32_0 : w = nI 0
        · subst q32_0
          refine r_tableIn K 72 dX7_count_32 (by decide) (by decide) rfl (by decide) ?_
          refine r_aload_n K 0 rfl rfl dX7_count_72 ?_
          refine get_71_0 K fl_RX7_160 dX7_count_73 ?_
          refine r_topi (b := (nI (T 10 0))) (hR.1) ?_
          exact r_iret K hr (⟨by first | (rw [cntS, if_neg (by decide), if_neg (by decide), if_neg (by decide), if_neg (by decide), if_neg (by decide), if_pos rfl, h2, hin]; done) | (simp (decide := true) [cntS, *]; done), rfl, rfl⟩) dX7_count_76
        · by_cases q32_1 : w = nI 1
          · subst q32_1
            refine r_tableIn K 77 dX7_count_32 (by decide) (by decide) rfl (by decide) ?_
            refine r_aload_n K 0 rfl rfl dX7_count_77 ?_
            refine get_71_4 K fl_RX7_65 dX7_count_78 ?_
            refine r_topi (b := (nI (tbits T))) (hR.2.2.1) ?_
            exact r_iret K hr (⟨by first | (rw [cntS, if_neg (by decide), if_neg (by decide), if_neg (by decide), if_neg (by decide), if_neg (by decide), if_pos rfl, h2, hin]; done) | (simp (decide := true) [cntS, *]; done), rfl, rfl⟩) dX7_count_81
          · by_cases q32_2 : w = nI 2
            · subst q32_2
              refine r_tableIn K 82 dX7_count_32 (by decide) (by decide) rfl (by decide) ?_
              refine r_aload_n K 0 rfl rfl dX7_count_82 ?_
              refine get_71_3 K fl_RX7_16 dX7_count_83 ?_
              refine r_topi (b := (nI (T 11 0))) (hR.2.1) ?_
              exact r_iret K hr (⟨by first | (rw [cntS, if_neg (by decide), if_neg (by decide), if_neg (by decide), if_neg (by decide), if_neg (by decide), if_pos rfl, h2, hin]; done) | (simp (decide := true) [cntS, *]; done), rfl, rfl⟩) dX7_count_86
            · by_cases q32_3 : w = nI 3
              · subst q32_3
                refine r_tableIn K 87 dX7_count_32 (by decide) (by decide) rfl (by decide) ?_
                refine r_aload_n K 0 rfl rfl dX7_count_87 ?_
                refine get_71_17 K fl_RX7_29 dX7_count_88 ?_
                refine r_bipush K ((nI (20))) (by decide) dX7_count_91 ?_
                refine r_iald K 51 (n := 21) (by decide) rfl rfl (by decide) (by omega) dX7_count_93 ?_
                refine r_topi (b := (nI (F 5 0))) (hF.2) ?_
                exact r_iret K hr (⟨by first | (rw [cntS, if_neg (by decide), if_neg (by decide), if_neg (by decide), if_neg (by decide), if_neg (by decide), if_pos rfl, h2, hin]; done) | (simp (decide := true) [cntS, *]; done), rfl, rfl⟩) dX7_count_94
              · by_cases q32_4 : w = nI 4
                · subst q32_4
                  refine r_tableIn K 95 dX7_count_32 (by decide) (by decide) rfl (by decide) ?_
                  refine r_aload_n K 0 rfl rfl dX7_count_95 ?_
                  refine get_71_6 K fl_RX7_72 dX7_count_96 ?_
                  refine r_topi (b := (nI (X 0 0))) (hX.1) ?_
                  exact r_iret K hr (⟨by first | (rw [cntS, if_neg (by decide), if_neg (by decide), if_neg (by decide), if_neg (by decide), if_neg (by decide), if_pos rfl, h2, hin]; done) | (simp (decide := true) [cntS, *]; done), rfl, rfl⟩) dX7_count_99
                · by_cases q32_5 : w = nI 5
                  · subst q32_5
                    refine r_tableIn K 100 dX7_count_32 (by decide) (by decide) rfl (by decide) ?_
                    refine r_iload_n K 2 rfl rfl dX7_count_100 ?_
                    exact r_iret K hr (⟨by first | (rw [cntS, if_neg (by decide), if_neg (by decide), if_neg (by decide), if_neg (by decide), if_neg (by decide), if_pos rfl, h2, hin]; done) | (simp (decide := true) [cntS, *]; done), rfl, rfl⟩) dX7_count_101
                  · refine r_tableOut K 102 dX7_count_32 (sw_out (n := 5) (fun j hj => by rcases (show j = 0 ∨ j = 1 ∨ j = 2 ∨ j = 3 ∨ j = 4 ∨ j = 5 by omega) with rfl | rfl | rfl | rfl | rfl | rfl <;> assumption)) (by decide) ?_
                    refine r_bipush K ((-3)) (by decide) dX7_count_102 ?_
                    exact r_iret K hr (⟨by first | (rw [cntS, if_neg (by decide), if_neg (by decide), if_neg (by decide), if_neg (by decide), if_neg (by decide), if_pos rfl, h2, hin]; done) | (simp (decide := true) [cntS, *]; done), rfl, rfl⟩) dX7_count_104
      · refine r_iload_n K 2 rfl rfl dX7_count_12 ?_
        refine r_aload_n K 0 rfl rfl dX7_count_13 ?_
        refine get_71_1 K fl_RX7_7 dX7_count_14 ?_
        refine r_iconst K ((nI (3))) (by decide) dX7_count_17 ?_
        refine r_iload_n K 3 rfl rfl dX7_count_18 ?_
        refine r_imul K dX7_count_19 ?_
        refine r_topi (pk_mul _ _) ?_
        refine r_iconst K ((nI (1))) (by decide) dX7_count_20 ?_
        refine r_iadd K dX7_count_21 ?_
        refine r_topi (nI_add _ _) ?_
        refine r_iald K 46 (n := 24) (by decide) rfl rfl (by decide) (by omega) dX7_count_22 ?_
        have hq255 : T 1 (i) < 256 := hT.1 1 (i)
        refine r_topi (b := (nI (T 1 i))) (by rw [show (3 * i) + 1 = 3 * i + 1 by omega]; exact hR.2.2.2.1 _ (by omega) 1 (by decide)) ?_
        refine r_iadd K dX7_count_23 ?_
        refine r_topi (nI_add _ _) ?_
        refine r_istore_n K (lv' := [(2, .int (nI (a + (T 1 i)))), (0, .ref (ad 71)), (1, .int (w)), (3, .int (nI (i)))]) 2 rfl (by decide) rfl dX7_count_24 ?_
        refine r_iinc K ((nI (i + 1))) rfl (nI_1 _) (lv' := [(3, .int (nI (i + 1))), (2, .int (nI (a + (T 1 i)))), (0, .ref (ad 71)), (1, .int (w))]) (by decide) rfl dX7_count_25 ?_
        refine r_goto K 4 dX7_count_28 (by decide) ?_
        refine r_pick [2, 3, 1, 0] (lv' := [(0, .ref (ad 71)), (1, .int (w)), (2, .int (nI (a + (T 1 i)))), (3, .int (nI (i + 1)))]) rfl ?_
        exact ihA _ (by omega) (i + 1) (_) rfl (by omega) (by rw [h2]; rfl)
  exact lpA _ (0) (0) rfl (Nat.zero_le _) (rfl)

set_option maxHeartbeats 400000 in
set_option maxRecDepth 10000 in
theorem m_knots {g : Gp} {lau : Launch} {ad : Nat → Nat} {σ : Sg} {T F : Tv} (hT : TOk T) (hR : RepM T σ) (hV : FOk T F) (hF : RepN 51 0 F σ) (b : Int32) : Con g lau yX7_knots cX7_knots 4 (Option.some .int) 2 44 [.ref (ad 71), .int (b)] ad σ (pu (.int (knS T F b)) ad σ) := by
  refine con_mk (by decide) (Nat.le_of_ble_eq_true rfl) (fun x hxl K hr => ?_)
  subst hxl
  refine r_lv (lv' := [(0, .ref (ad 71)), (1, .int (b))]) rfl ?_
  have hn8 := hT.2.1
  have hn9 := hT.2.2.1
  have htb := tbits_lt hT
  have hh24 := hV.2.2.1
  refine r_aload_n K 0 rfl rfl dX7_knots_0 ?_
  refine r_iload_n K 1 rfl rfl dX7_knots_1 ?_
  refine r_callVp K 71 (As := [.int (b)]) mv_X7_isBarge ml_RX7_186 (m_isBarge hT hR ((b))) (by decide) rfl rfl rfl rfl (Nat.le_of_ble_eq_true rfl) ⟨by decide, by decide⟩ dX7_knots_2 ?_
  refine b_if_ne K 11 dX7_knots_5 (by decide) (fun h5 => ?_) (fun h5 => ?_)
  · obtain ⟨bN, h_bN, rfl, t_bN⟩ := hasB_t h5
    have e_bN : (nI bN).toInt.toNat = bN := nI_nat (by omega)
    refine r_iconst K ((nI (0))) (by decide) dX7_knots_11 ?_
    refine r_istore_n K (lv' := [(2, .int (nI (0))), (0, .ref (ad 71)), (1, .int (nI (bN)))]) 2 rfl (by decide) rfl dX7_knots_12 ?_
    refine r_iconst K ((nI (0))) (by decide) dX7_knots_13 ?_
    refine r_istore_n K (lv' := [(3, .int (nI (0))), (2, .int (nI (0))), (0, .ref (ad 71)), (1, .int (nI (bN)))]) 3 rfl (by decide) rfl dX7_knots_14 ?_
    refine r_pick [2, 3, 1, 0] (lv' := [(0, .ref (ad 71)), (1, .int (nI (bN))), (2, .int (nI (0))), (3, .int (nI (0)))]) rfl ?_
    have lpA : ∀ (mm_ : Nat) (i : Nat), mm_ = 4 - i → (i ≤ 4) → GJ g x 4 15 [(0, .ref (ad 71)), (1, .int (nI (bN))), (2, .int (nI (bitS (knF T F bN) i))), (3, .int (nI (i)))] [] ad (σ) := by
      intro mm_
      induction mm_ using Nat.strongRecOn with
      | _ mm_ ihA =>
        intro i hmA hi
        refine r_iload_n K 3 rfl rfl dX7_knots_15 ?_
        refine r_iconst K ((nI (4))) (by decide) dX7_knots_16 ?_
        refine n_icmp_ge K 88 (by omega) (by omega) dX7_knots_17 (by decide) (fun h17 => ?_) (fun h17 => ?_)
        · refine r_iload_n K 2 rfl rfl dX7_knots_88 ?_
          exact r_iret K hr (⟨by rw [knS, if_pos h5, e_bN, show i = 4 by omega], rfl, rfl⟩) dX7_knots_89
        · refine r_iload_n K 2 rfl rfl dX7_knots_20 ?_
          refine r_iload_n K 3 rfl rfl dX7_knots_21 ?_
          refine r_iload_n K 1 rfl rfl dX7_knots_22 ?_
          refine n_icmp_eq K 79 (by omega) (by omega) dX7_knots_23 (by decide) (fun h23 => ?_) (fun h23 => ?_)
          · refine r_iconst K ((nI (0))) (by decide) dX7_knots_79 ?_
            refine r_ior K dX7_knots_80 ?_
            refine r_topi (b := (nI (bitS (knF T F bN) (i + 1)))) (bitS_f0 (by omega) (by first | (simp [knF, *]; done) | (rw [tbits_at hT (by omega)] at h34; have h34 := of_decide_eq_false h34; simp [knF, *]; done))) ?_
            refine r_istore_n K (lv' := [(2, .int (nI (bitS (knF T F bN) (i + 1)))), (0, .ref (ad 71)), (1, .int (nI (bN))), (3, .int (nI (i)))]) 2 rfl (by decide) rfl dX7_knots_81 ?_
            refine r_iinc K ((nI (i + 1))) rfl (nI_1 _) (lv' := [(3, .int (nI (i + 1))), (2, .int (nI (bitS (knF T F bN) (i + 1)))), (0, .ref (ad 71)), (1, .int (nI (bN)))]) (by decide) rfl dX7_knots_82 ?_
            refine r_goto K 15 dX7_knots_85 (by decide) ?_
            refine r_pick [2, 3, 1, 0] (lv' := [(0, .ref (ad 71)), (1, .int (nI (bN))), (2, .int (nI (bitS (knF T F bN) (i + 1)))), (3, .int (nI (i + 1)))]) rfl ?_
            exact ihA _ (by omega) (i + 1) rfl (by omega)
          · refine r_aload_n K 0 rfl rfl dX7_knots_26 ?_
            refine get_71_4 K fl_RX7_65 dX7_knots_27 ?_
            refine r_topi (b := (nI (tbits T))) (hR.2.2.1) ?_
            refine r_iload_n K 3 rfl rfl dX7_knots_30 ?_
            refine r_callSp K (As := [.int (nI (tbits T)), .int (nI (i))]) ms_X7_has ml_RX7_68 (m_has (s := tbits T) (k := i) (by omega) (by omega)) rfl rfl (Nat.le_of_ble_eq_true rfl) ⟨by decide, by decide⟩ dX7_knots_31 ?_
            refine b_if_eq K 79 dX7_knots_34 (by decide) (fun h34 => ?_) (fun h34 => ?_)
            · refine r_iconst K ((nI (0))) (by decide) dX7_knots_79 ?_
              refine r_ior K dX7_knots_80 ?_
              refine r_topi (b := (nI (bitS (knF T F bN) (i + 1)))) (bitS_f0 (by omega) (by first | (simp [knF, *]; done) | (rw [tbits_at hT (by omega)] at h34; have h34 := of_decide_eq_false h34; simp [knF, *]; done))) ?_
              refine r_istore_n K (lv' := [(2, .int (nI (bitS (knF T F bN) (i + 1)))), (0, .ref (ad 71)), (1, .int (nI (bN))), (3, .int (nI (i)))]) 2 rfl (by decide) rfl dX7_knots_81 ?_
              refine r_iinc K ((nI (i + 1))) rfl (nI_1 _) (lv' := [(3, .int (nI (i + 1))), (2, .int (nI (bitS (knF T F bN) (i + 1)))), (0, .ref (ad 71)), (1, .int (nI (bN)))]) (by decide) rfl dX7_knots_82 ?_
              refine r_goto K 15 dX7_knots_85 (by decide) ?_
              refine r_pick [2, 3, 1, 0] (lv' := [(0, .ref (ad 71)), (1, .int (nI (bN))), (2, .int (nI (bitS (knF T F bN) (i + 1)))), (3, .int (nI (i + 1)))]) rfl ?_
              exact ihA _ (by omega) (i + 1) rfl (by omega)
            · refine r_aload_n K 0 rfl rfl dX7_knots_37 ?_
              refine get_71_17 K fl_RX7_29 dX7_knots_38 ?_
              refine r_iload_n K 1 rfl rfl dX7_knots_41 ?_
              refine r_iald K 51 (n := 21) (by decide) rfl rfl (by decide) (by omega) dX7_knots_42 ?_
              refine r_topi (b := (nI (F 0 bN))) (by have hz := (hF.1 bN (by omega)).1; rw [Nat.zero_add] at hz; exact hz) ?_
              refine r_aload_n K 0 rfl rfl dX7_knots_43 ?_
              refine get_71_17 K fl_RX7_29 dX7_knots_44 ?_
              refine r_bipush K ((nI (8))) (by decide) dX7_knots_47 ?_
              refine r_iload_n K 1 rfl rfl dX7_knots_49 ?_
              refine r_iadd K dX7_knots_50 ?_
              refine r_topi (nI_add _ _) ?_
              refine r_iald K 51 (n := 21) (by decide) rfl rfl (by decide) (by omega) dX7_knots_51 ?_
              refine r_topi (b := (nI (F 1 bN))) (by have hz := (hF.1 bN (by omega)).2.2.1; rw [Nat.zero_add] at hz; exact hz) ?_
              refine r_aload_n K 0 rfl rfl dX7_knots_52 ?_
              refine get_71_17 K fl_RX7_29 dX7_knots_53 ?_
              refine r_iload_n K 3 rfl rfl dX7_knots_56 ?_
              refine r_iald K 51 (n := 21) (by decide) rfl rfl (by decide) (by omega) dX7_knots_57 ?_
              refine r_topi (b := (nI (F 0 i))) (by have hz := (hF.1 i (by omega)).1; rw [Nat.zero_add] at hz; exact hz) ?_
              refine r_aload_n K 0 rfl rfl dX7_knots_58 ?_
              refine get_71_17 K fl_RX7_29 dX7_knots_59 ?_
              refine r_bipush K ((nI (8))) (by decide) dX7_knots_62 ?_
              refine r_iload_n K 3 rfl rfl dX7_knots_64 ?_
              refine r_iadd K dX7_knots_65 ?_
              refine r_topi (nI_add _ _) ?_
              refine r_iald K 51 (n := 21) (by decide) rfl rfl (by decide) (by omega) dX7_knots_66 ?_
              refine r_topi (b := (nI (F 1 i))) (by have hz := (hF.1 i (by omega)).2.2.1; rw [Nat.zero_add] at hz; exact hz) ?_
              refine r_callSp K (As := [.int (nI (F 0 bN)), .int (nI (F 1 bN)), .int (nI (F 0 i)), .int (nI (F 1 i))]) ms_X7_isKnot ml_RX7_208 (m_isKnot (p := F 0 bN) (l := F 1 bN) (q := F 0 i) (m := F 1 i) ((hV.1 _).1) (hV.2.1 _).1 ((hV.1 _).1) (by have := (hV.2.1 i).1; omega)) rfl rfl (Nat.le_of_ble_eq_true rfl) ⟨by decide, by decide⟩ dX7_knots_67 ?_
              refine b_if_eq K 79 dX7_knots_70 (by decide) (fun h70 => ?_) (fun h70 => ?_)
              · refine r_iconst K ((nI (0))) (by decide) dX7_knots_79 ?_
                refine r_ior K dX7_knots_80 ?_
                refine r_topi (b := (nI (bitS (knF T F bN) (i + 1)))) (bitS_f0 (by omega) (by first | (simp [knF, *]; done) | (rw [tbits_at hT (by omega)] at h34; have h34 := of_decide_eq_false h34; simp [knF, *]; done))) ?_
                refine r_istore_n K (lv' := [(2, .int (nI (bitS (knF T F bN) (i + 1)))), (0, .ref (ad 71)), (1, .int (nI (bN))), (3, .int (nI (i)))]) 2 rfl (by decide) rfl dX7_knots_81 ?_
                refine r_iinc K ((nI (i + 1))) rfl (nI_1 _) (lv' := [(3, .int (nI (i + 1))), (2, .int (nI (bitS (knF T F bN) (i + 1)))), (0, .ref (ad 71)), (1, .int (nI (bN)))]) (by decide) rfl dX7_knots_82 ?_
                refine r_goto K 15 dX7_knots_85 (by decide) ?_
                refine r_pick [2, 3, 1, 0] (lv' := [(0, .ref (ad 71)), (1, .int (nI (bN))), (2, .int (nI (bitS (knF T F bN) (i + 1)))), (3, .int (nI (i + 1)))]) rfl ?_
                exact ihA _ (by omega) (i + 1) rfl (by omega)
              · refine r_iconst K ((nI (1))) (by decide) dX7_knots_73 ?_
                refine r_iload_n K 3 rfl rfl dX7_knots_74 ?_
                refine r_ishl K dX7_knots_75 ?_
                refine r_topi (b := (nI (2 ^ i))) (nI_shl1 (by omega)) ?_
                refine r_goto K 80 dX7_knots_76 (by decide) ?_
                refine r_ior K dX7_knots_80 ?_
                refine r_topi (b := (nI (bitS (knF T F bN) (i + 1)))) (bitS_t (by omega) (by rw [tbits_at hT (by omega)] at h34; simp [knF, *])) ?_
                refine r_istore_n K (lv' := [(2, .int (nI (bitS (knF T F bN) (i + 1)))), (0, .ref (ad 71)), (1, .int (nI (bN))), (3, .int (nI (i)))]) 2 rfl (by decide) rfl dX7_knots_81 ?_
                refine r_iinc K ((nI (i + 1))) rfl (nI_1 _) (lv' := [(3, .int (nI (i + 1))), (2, .int (nI (bitS (knF T F bN) (i + 1)))), (0, .ref (ad 71)), (1, .int (nI (bN)))]) (by decide) rfl dX7_knots_82 ?_
                refine r_goto K 15 dX7_knots_85 (by decide) ?_
                refine r_pick [2, 3, 1, 0] (lv' := [(0, .ref (ad 71)), (1, .int (nI (bN))), (2, .int (nI (bitS (knF T F bN) (i + 1)))), (3, .int (nI (i + 1)))]) rfl ?_
                exact ihA _ (by omega) (i + 1) rfl (by omega)
    exact lpA _ (0) rfl (Nat.zero_le _)
  · refine r_bipush K ((-2)) (by decide) dX7_knots_8 ?_
    exact r_iret K hr (⟨by simp (decide := true) [knS, *], rfl, rfl⟩) dX7_knots_10

set_option maxHeartbeats 400000 in
set_option maxRecDepth 10000 in
theorem m_write {g : Gp} {lau : Launch} {ad : Nat → Nat} {σ : Sg} {X : Tv} (hXo : XOk X) (hX : RepX 16 49 X σ) (v : Int64) (n : Int32) : Con g lau yX7_write cX7_write 5 (Option.some .int) 1 22 [.ref (ad 71), .long (v), .int (n)] ad σ (fun r a2 s2 => some (.int (wrS X n)) = r ∧ ad = a2 ∧ same [49] [16] [] false σ s2 ∧ RepX 16 49 (wrX X v n) s2) := by
  refine con_mk (by decide) (Nat.le_of_ble_eq_true rfl) (fun x hxl K hr => ?_)
  subst hxl
  refine r_lv (lv' := [(0, .ref (ad 71)), (1, .long (v)), (3, .int (n))]) rfl ?_
  have hx200 := hXo.1
  refine r_iload_n K 3 rfl rfl dX7_write_0 ?_
  refine r_iconst K ((nI (1))) (by decide) dX7_write_1 ?_
  refine r_bipush K ((nI (8))) (by decide) dX7_write_2 ?_
  refine r_callSp K (As := [.int (n), .int (nI (1)), .int (nI (8))]) ms_X7_in ml_RX7_61 (m_in ((n)) ((nI (1))) ((nI (8)))) rfl rfl (Nat.le_of_ble_eq_true rfl) ⟨by decide, by decide⟩ dX7_write_4 ?_
  refine b_if_ne K 13 dX7_write_7 (by decide) (fun h7 => ?_) (fun h7 => ?_)
  · obtain ⟨m, hm1, hm8, rfl⟩ := inS_t (by decide) (by decide) h7
    have e_m : (nI m).toInt.toNat = m := nI_nat (by omega)
    refine r_aload_n K 0 rfl rfl dX7_write_13 ?_
    refine get_71_6 K fl_RX7_72 dX7_write_14 ?_
    refine r_topi (b := (nI (X 0 0))) (by first | exact hX.1 | (rw [hI.1.2.1 16 (by simp)]; exact hX.1)) ?_
    refine r_iload_n K 3 rfl rfl dX7_write_17 ?_
    refine r_iadd K dX7_write_18 ?_
    refine r_topi (nI_add _ _) ?_
    refine r_sipush K ((nI (200))) (by decide) dX7_write_19 ?_
    refine n_icmp_le K 28 (by omega) (by omega) dX7_write_22 (by decide) (fun h22 => ?_) (fun h22 => ?_)
    · refine r_iconst K ((nI (0))) (by decide) dX7_write_28 ?_
      refine r_istore K (lv' := [(4, .int (nI (0))), (0, .ref (ad 71)), (1, .long (v)), (3, .int (nI (m)))]) (by decide) rfl dX7_write_29 ?_
      refine r_pick [1, 2, 3, 0] (lv' := [(0, .ref (ad 71)), (1, .long (v)), (3, .int (nI (m))), (4, .int (nI (0)))]) rfl ?_
      have lpA : ∀ (mm_ : Nat) (j : Nat) (s1 : Sg), mm_ = m - j → (j ≤ m) → (appI 49 X v j σ s1) → GJ g x 5 31 [(0, .ref (ad 71)), (1, .long (v)), (3, .int (nI (m))), (4, .int (nI (j)))] [] ad (s1) := by
        intro mm_
        induction mm_ using Nat.strongRecOn with
        | _ mm_ ihA =>
          intro j s1 hmA hj hI
          refine r_iload K rfl dX7_write_31 ?_
          refine r_iload_n K 3 rfl rfl dX7_write_33 ?_
          refine n_icmp_ge K 67 (by omega) (by omega) dX7_write_34 (by decide) (fun h34 => ?_) (fun h34 => ?_)
          · refine r_aload_n K 0 rfl rfl dX7_write_67 ?_
            refine r_dup K rfl dX7_write_68 ?_
            refine get_71_6 K fl_RX7_72 dX7_write_69 ?_
            refine r_topi (b := (nI (X 0 0))) (by first | exact hX.1 | (rw [hI.1.2.1 16 (by simp)]; exact hX.1)) ?_
            refine r_iload_n K 3 rfl rfl dX7_write_72 ?_
            refine r_iadd K dX7_write_73 ?_
            refine r_topi (nI_add _ _) ?_
            refine put_71_6 K fl_RX7_72 dX7_write_74 ?_
            refine r_aload_n K 0 rfl rfl dX7_write_77 ?_
            refine get_71_6 K fl_RX7_72 dX7_write_78 ?_
            refine r_topi (b := (nI ((X 0 0) + m))) rfl ?_
            exact r_iret K hr (⟨by rw [wrS, if_pos h7, e_m, if_pos (by omega)], rfl, same_sI (same_w hI.1 (by simp) (by simp) (by simp) id) (by simp) _, by rw [wrX, e_m, if_pos ⟨h7, by omega⟩]; exact ⟨rfl, fun i hi => by have := hI.2 i hi; rw [show j = m by omega] at this; exact this⟩⟩) dX7_write_81
          · refine r_aload_n K 0 rfl rfl dX7_write_37 ?_
            refine get_71_7 K fl_RX7_23 dX7_write_38 ?_
            refine r_aload_n K 0 rfl rfl dX7_write_41 ?_
            refine get_71_6 K fl_RX7_72 dX7_write_42 ?_
            refine r_topi (b := (nI (X 0 0))) (by first | exact hX.1 | (rw [hI.1.2.1 16 (by simp)]; exact hX.1)) ?_
            refine r_iload K rfl dX7_write_45 ?_
            refine r_iadd K dX7_write_47 ?_
            refine r_topi (nI_add _ _) ?_
            refine r_lload_n K 1 rfl rfl dX7_write_48 ?_
            refine r_bipush K ((nI (8))) (by decide) dX7_write_49 ?_
            refine r_iload K rfl dX7_write_51 ?_
            refine r_imul K dX7_write_53 ?_
            refine r_topi (pk_mul _ _) ?_
            refine r_lshr K dX7_write_54 ?_
            refine r_ldc2 K (v := (lN (255))) kl_RX7_75 dX7_write_55 ?_
            refine r_land K dX7_write_58 ?_
            refine r_l2i K dX7_write_59 ?_
            refine r_topi (b := (nI (byS v j))) (byS_eq v j) ?_
            refine r_iast K 49 (n := 200) (by decide) rfl rfl (by decide) (by omega) dX7_write_60 ?_
            refine r_iinc K ((nI (j + 1))) rfl (nI_1 _) (lv' := [(4, .int (nI (j + 1))), (0, .ref (ad 71)), (1, .long (v)), (3, .int (nI (m)))]) (by decide) rfl dX7_write_61 ?_
            refine r_goto K 31 dX7_write_64 (by decide) ?_
            refine r_pick [1, 2, 3, 0] (lv' := [(0, .ref (ad 71)), (1, .long (v)), (3, .int (nI (m))), (4, .int (nI (j + 1)))]) rfl ?_
            exact ihA _ (by omega) (j + 1) ((s1).sA 49 (upd ((s1).A 49) ((X 0 0) + j) ((nI (byS v j))))) rfl (by omega) (appI_s hI)
      exact lpA _ (0) (σ) rfl (Nat.zero_le _) (appI_0 hX)
    · refine r_bipush K ((-5)) (by decide) dX7_write_25 ?_
      exact r_iret K hr (⟨by rw [wrS, if_pos h7, e_m, if_neg (by omega)], rfl, same_rf _ _ _ _ _, by rw [wrX, e_m, if_neg (fun z => by omega)]; exact hX⟩) dX7_write_27
  · refine r_bipush K ((-3)) (by decide) dX7_write_10 ?_
    exact r_iret K hr (⟨by rw [wrS, if_neg (by rw [h7]; decide)], rfl, same_rf _ _ _ _ _, by rw [wrX, if_neg (fun z => by rw [h7] at z; exact absurd z.1 (by decide))]; exact hX⟩) dX7_write_12

set_option maxHeartbeats 400000 in
set_option maxRecDepth 10000 in
theorem m_erase {g : Gp} {lau : Launch} {ad : Nat → Nat} {σ : Sg} {X : Tv} (hX : RepX 16 49 X σ) : Con g lau yX7_erase cX7_erase 2 (Option.some .int) 0 0 [.ref (ad 71)] ad σ (fun r a2 s2 => some (.int (nI (X 0 0))) = r ∧ ad = a2 ∧ same [] [16] [] false σ s2 ∧ RepX 16 49 (eraS X) s2) := by
  refine con_mk (by decide) (Nat.le_of_ble_eq_true rfl) (fun x hxl K hr => ?_)
  subst hxl
  refine r_lv (lv' := [(0, .ref (ad 71))]) rfl ?_
  refine r_aload_n K 0 rfl rfl dX7_erase_0 ?_
  refine get_71_6 K fl_RX7_72 dX7_erase_1 ?_
  refine r_topi (b := (nI (X 0 0))) (hX.1) ?_
  refine r_istore_n K (lv' := [(1, .int (nI (X 0 0))), (0, .ref (ad 71))]) 1 rfl (by decide) rfl dX7_erase_4 ?_
  refine r_aload_n K 0 rfl rfl dX7_erase_5 ?_
  refine r_iconst K ((nI (0))) (by decide) dX7_erase_6 ?_
  refine put_71_6 K fl_RX7_72 dX7_erase_7 ?_
  refine r_iload_n K 1 rfl rfl dX7_erase_10 ?_
  exact r_iret K hr (⟨rfl, rfl, same_sI (same_rf _ _ _ _ _) (by simp) _, ⟨rfl, hX.2⟩⟩) dX7_erase_11

theorem RepN_change {F : Tv} {σ : Sg} {b l : Nat} {f : Nat → Int32} (hF : RepN 51 0 F σ) (hb : b < 4) (hf : f = upd (upd (σ.A 51) (8 + b) (nI l)) (12 + b) (nI (F 3 b + offS l (F 1 b)))) : RepN 51 0 (changeS F b l) (σ.sA 51 f) := by
  subst hf
  have e : (σ.sA 51 (upd (upd (σ.A 51) (8 + b) (nI l)) (12 + b) (nI (F 3 b + offS l (F 1 b))))).A 51 = upd (upd (σ.A 51) (8 + b) (nI l)) (12 + b) (nI (F 3 b + offS l (F 1 b))) := by rw [sA_A, if_pos rfl]
  unfold RepN
  rw [e]
  refine ⟨fun c hc => ?_, ?_⟩
  · obtain ⟨h1, h2, h3, h4, h5⟩ := hF.1 c hc
    unfold upd changeS
    refine ⟨?_, ?_, ?_, ?_, ?_⟩
    · rw [if_neg (by omega), if_neg (by omega), if_neg (by omega), if_neg (by omega)]; exact h1
    · rw [if_neg (by omega), if_neg (by omega), if_neg (by omega), if_neg (by omega)]; exact h2
    · by_cases hcb : c = b
      · subst hcb
        rw [if_neg (by omega), if_pos (by omega), if_pos ⟨rfl, rfl⟩]
      · rw [if_neg (by omega), if_neg (by omega), if_neg (by omega), if_neg (by omega)]; exact h3
    · by_cases hcb : c = b
      · subst hcb
        rw [if_pos (by omega), if_neg (by omega), if_pos ⟨rfl, rfl⟩]
      · rw [if_neg (by omega), if_neg (by omega), if_neg (by omega), if_neg (by omega)]; exact h4
    · rw [if_neg (by omega), if_neg (by omega), if_neg (by omega), if_neg (by omega)]; exact h5
  · unfold upd changeS
    rw [if_neg (by omega), if_neg (by omega), if_neg (by omega), if_neg (by omega)]; exact hF.2
set_option maxHeartbeats 400000 in
set_option maxRecDepth 10000 in
theorem m_cord {g : Gp} {lau : Launch} {ad : Nat → Nat} {σ : Sg} {T F : Tv} (hT : TOk T) (hR : RepM T σ) (hV : FOk T F) (hF : RepN 51 0 F σ) (b l : Int32) : Con g lau yX7_cord cX7_cord 4 (Option.some .int) 2 43 [.ref (ad 71), .int (b), .int (l)] ad σ (fun r a2 s2 => some (.int (cordR T F b l)) = r ∧ ad = a2 ∧ same [51] [] [] false σ s2 ∧ RepN 51 0 (cordF T F b l) s2) := by
  refine con_mk (by decide) (Nat.le_of_ble_eq_true rfl) (fun x hxl K hr => ?_)
  subst hxl
  refine r_lv (lv' := [(0, .ref (ad 71)), (1, .int (b)), (2, .int (l))]) rfl ?_
  have hn8 := hT.2.1
  have hn9 := hT.2.2.1
  have htb := tbits_lt hT
  have hh24 := hV.2.2.1
  refine r_aload_n K 0 rfl rfl dX7_cord_0 ?_
  refine r_iload_n K 1 rfl rfl dX7_cord_1 ?_
  refine r_callVp K 71 (As := [.int (b)]) mv_X7_isBarge ml_RX7_186 (m_isBarge hT hR ((b))) (by decide) rfl rfl rfl rfl (Nat.le_of_ble_eq_true rfl) ⟨by decide, by decide⟩ dX7_cord_2 ?_
  refine b_if_ne K 11 dX7_cord_5 (by decide) (fun h5 => ?_) (fun h5 => ?_)
  · obtain ⟨bN, h_bN, rfl, t_bN⟩ := hasB_t h5
    have e_bN : (nI bN).toInt.toNat = bN := nI_nat (by omega)
    refine r_iload_n K 2 rfl rfl dX7_cord_11 ?_
    refine r_callSp K (As := [.int (l)]) ms_X7_isLayer ml_RX7_180 (m_isLayer ((l))) rfl rfl (Nat.le_of_ble_eq_true rfl) ⟨by decide, by decide⟩ dX7_cord_12 ?_
    refine b_if_eq K 38 dX7_cord_15 (by decide) (fun h15 => ?_) (fun h15 => ?_)
    · refine r_bipush K ((-3)) (by decide) dX7_cord_38 ?_
      exact r_iret K hr (⟨by rw [cordR, if_pos h5, if_neg (fun z => by first | (rw [h15] at z; exact absurd z.1 (by decide)) | (rw [e_lN, e_bN] at z; omega))], rfl, same_rf _ _ _ _ _, by rw [cordF, if_neg (fun z => by first | (rw [h15] at z; exact absurd z.2.1 (by decide)) | (rw [e_lN, e_bN] at z; omega))]; exact hF⟩) dX7_cord_40
    · obtain ⟨lN, h_lN, rfl⟩ := isL_t h15
      have e_lN : (nI lN).toInt.toNat = lN := nI_nat (by omega)
      have hf2 := (hV.2.1 bN).2
      have hf1 := (hV.2.1 bN).1
      have hv0 := (hV.1 bN).1
      refine r_iload_n K 2 rfl rfl dX7_cord_18 ?_
      refine r_aload_n K 0 rfl rfl dX7_cord_19 ?_
      refine get_71_17 K fl_RX7_29 dX7_cord_20 ?_
      refine r_iconst K ((nI (4))) (by decide) dX7_cord_23 ?_
      refine r_iload_n K 1 rfl rfl dX7_cord_24 ?_
      refine r_iadd K dX7_cord_25 ?_
      refine r_topi (nI_add _ _) ?_
      refine r_iald K 51 (n := 21) (by decide) rfl rfl (by decide) (by omega) dX7_cord_26 ?_
      refine r_topi (b := (nI (F 2 bN))) (by have hz := (hF.1 bN (by omega)).2.1; rw [Nat.zero_add] at hz; exact hz) ?_
      refine r_callSp K (As := [.int (nI (lN)), .int (nI (F 2 bN))]) ms_X7_off ml_RX7_197 (m_off (a := lN) (b := F 2 bN) (by omega) (by omega)) rfl rfl (Nat.le_of_ble_eq_true rfl) ⟨by decide, by decide⟩ dX7_cord_27 ?_
      have hof := offS_lt (n := 6) (show lN < 6 by omega) (hV.2.1 bN).2
      refine r_aload_n K 0 rfl rfl dX7_cord_30 ?_
      refine r_iload_n K 1 rfl rfl dX7_cord_31 ?_
      refine r_callVp K 71 (As := [.int (nI (bN))]) mv_X7_cordOf ml_RX7_189 (m_cordOf hT hR (b := bN) (by omega)) (by decide) rfl rfl rfl rfl (Nat.le_of_ble_eq_true rfl) ⟨by decide, by decide⟩ dX7_cord_32 ?_
      have hcd := cordS_le hT bN
      refine n_icmp_le K 41 (by omega) (by omega) dX7_cord_35 (by decide) (fun h35 => ?_) (fun h35 => ?_)
      · refine r_aload_n K 0 rfl rfl dX7_cord_41 ?_
        refine get_71_17 K fl_RX7_29 dX7_cord_42 ?_
        refine r_iload_n K 1 rfl rfl dX7_cord_45 ?_
        refine r_iald K 51 (n := 21) (by decide) rfl rfl (by decide) (by omega) dX7_cord_46 ?_
        refine r_topi (b := (nI (F 0 bN))) (by have hz := (hF.1 bN (by omega)).1; rw [Nat.zero_add] at hz; exact hz) ?_
        refine r_sipush K ((nI (160))) (by decide) dX7_cord_47 ?_
        refine n_icmp_eq K 65 (by omega) (by omega) dX7_cord_50 (by decide) (fun h50 => ?_) (fun h50 => ?_)
        · refine r_bipush K ((-4)) (by decide) dX7_cord_65 ?_
          exact r_iret K hr (⟨by rw [cordR, if_pos h5, if_pos ⟨h15, by rw [e_lN, e_bN]; omega⟩, if_pos (by rw [e_bN]; omega)], rfl, same_rf _ _ _ _ _, by rw [cordF, if_neg (fun z => by rw [e_bN] at z; omega)]; exact hF⟩) dX7_cord_67
        · refine r_aload_n K 0 rfl rfl dX7_cord_53 ?_
          refine get_71_17 K fl_RX7_29 dX7_cord_54 ?_
          refine r_bipush K ((nI (20))) (by decide) dX7_cord_57 ?_
          refine r_iald K 51 (n := 21) (by decide) rfl rfl (by decide) (by omega) dX7_cord_59 ?_
          refine r_topi (b := (nI (F 5 0))) (hF.2) ?_
          refine r_bipush K ((nI (24))) (by decide) dX7_cord_60 ?_
          refine n_icmp_ne K 68 (by omega) (by omega) dX7_cord_62 (by decide) (fun h62 => ?_) (fun h62 => ?_)
          · refine r_iload_n K 2 rfl rfl dX7_cord_68 ?_
            refine r_aload_n K 0 rfl rfl dX7_cord_69 ?_
            refine get_71_17 K fl_RX7_29 dX7_cord_70 ?_
            refine r_bipush K ((nI (8))) (by decide) dX7_cord_73 ?_
            refine r_iload_n K 1 rfl rfl dX7_cord_75 ?_
            refine r_iadd K dX7_cord_76 ?_
            refine r_topi (nI_add _ _) ?_
            refine r_iald K 51 (n := 21) (by decide) rfl rfl (by decide) (by omega) dX7_cord_77 ?_
            refine r_topi (b := (nI (F 1 bN))) (by have hz := (hF.1 bN (by omega)).2.2.1; rw [Nat.zero_add] at hz; exact hz) ?_
            refine r_callSp K (As := [.int (nI (lN)), .int (nI (F 1 bN))]) ms_X7_off ml_RX7_197 (m_off (a := lN) (b := F 1 bN) (by omega) (by omega)) rfl rfl (Nat.le_of_ble_eq_true rfl) ⟨by decide, by decide⟩ dX7_cord_78 ?_
            have hof := offS_lt (n := 6) (show lN < 6 by omega) (hV.2.1 bN).2
            refine r_istore_n K (lv' := [(3, .int (nI (offS lN (F 1 bN)))), (0, .ref (ad 71)), (1, .int (nI (bN))), (2, .int (nI (lN)))]) 3 rfl (by decide) rfl dX7_cord_81 ?_
            refine r_aload_n K 0 rfl rfl dX7_cord_82 ?_
            refine get_71_17 K fl_RX7_29 dX7_cord_83 ?_
            refine r_bipush K ((nI (8))) (by decide) dX7_cord_86 ?_
            refine r_iload_n K 1 rfl rfl dX7_cord_88 ?_
            refine r_iadd K dX7_cord_89 ?_
            refine r_topi (nI_add _ _) ?_
            refine r_iload_n K 2 rfl rfl dX7_cord_90 ?_
            refine r_iast K 51 (n := 21) (by decide) rfl rfl (by decide) (by omega) dX7_cord_91 ?_
            refine r_aload_n K 0 rfl rfl dX7_cord_92 ?_
            refine get_71_17 K fl_RX7_29 dX7_cord_93 ?_
            refine r_bipush K ((nI (12))) (by decide) dX7_cord_96 ?_
            refine r_iload_n K 1 rfl rfl dX7_cord_98 ?_
            refine r_iadd K dX7_cord_99 ?_
            refine r_topi (nI_add _ _) ?_
            refine r_dup2_11 K rfl rfl dX7_cord_100 ?_
            refine r_iald K 51 (n := 21) (by decide) rfl rfl (by decide) (by omega) dX7_cord_101 ?_
            refine r_topi (b := (nI (F 3 bN))) (by rw [sA_A, if_pos rfl]; unfold upd; rw [if_neg (by omega)]; have hz := (hF.1 bN (by omega)).2.2.2.1; rw [Nat.zero_add] at hz; exact hz) ?_
            refine r_iload_n K 3 rfl rfl dX7_cord_102 ?_
            refine r_iadd K dX7_cord_103 ?_
            refine r_topi (nI_add _ _) ?_
            refine r_iast K 51 (n := 21) (by decide) rfl rfl (by decide) (by omega) dX7_cord_104 ?_
            refine r_iload_n K 3 rfl rfl dX7_cord_105 ?_
            exact r_iret K hr (⟨by rw [cordR, if_pos h5, if_pos ⟨h15, by rw [e_lN, e_bN]; omega⟩, if_neg (by rw [e_bN]; omega), e_lN, e_bN], rfl, same_sA (same_sA (same_rf _ _ _ _ _) (by simp) _) (by simp) _, by rw [cordF, if_pos ⟨h5, h15, by rw [e_lN, e_bN]; omega, by rw [e_bN]; omega⟩, e_lN, e_bN, sA_sA]; exact RepN_change hF (by omega) (by rw [sA_A, if_pos rfl])⟩) dX7_cord_106
          · refine r_bipush K ((-4)) (by decide) dX7_cord_65 ?_
            exact r_iret K hr (⟨by rw [cordR, if_pos h5, if_pos ⟨h15, by rw [e_lN, e_bN]; omega⟩, if_pos (by rw [e_bN]; omega)], rfl, same_rf _ _ _ _ _, by rw [cordF, if_neg (fun z => by rw [e_bN] at z; omega)]; exact hF⟩) dX7_cord_67
      · refine r_bipush K ((-3)) (by decide) dX7_cord_38 ?_
        exact r_iret K hr (⟨by rw [cordR, if_pos h5, if_neg (fun z => by first | (rw [h15] at z; exact absurd z.1 (by decide)) | (rw [e_lN, e_bN] at z; omega))], rfl, same_rf _ _ _ _ _, by rw [cordF, if_neg (fun z => by first | (rw [h15] at z; exact absurd z.2.1 (by decide)) | (rw [e_lN, e_bN] at z; omega))]; exact hF⟩) dX7_cord_40
  · refine r_bipush K ((-2)) (by decide) dX7_cord_8 ?_
    exact r_iret K hr (⟨by simp (decide := true) [cordR, *], rfl, same_rf _ _ _ _ _, by rw [cordF, if_neg (fun z => by rw [h5] at z; exact absurd z.1 (by decide))]; exact hF⟩) dX7_cord_10

def cpI (q1 o1 q0 o0 i : Nat) (σ s1 : Sg) : Prop := same [q1] [] [] false σ s1 ∧ ∀ k, s1.A q1 k = if o1 ≤ k ∧ k < o1 + i then σ.A q0 (o0 + (k - o1)) else σ.A q1 k
theorem cpI_0 (q1 o1 q0 o0 : Nat) (σ : Sg) : cpI q1 o1 q0 o0 0 σ σ := ⟨same_rf _ _ _ _ _, fun k => by rw [if_neg (by omega)]⟩
theorem cpI_src {q1 o1 q0 o0 i : Nat} {σ s1 : Sg} (h : cpI q1 o1 q0 o0 i σ s1) (hq : q0 ≠ q1) (j : Nat) : s1.A q0 j = σ.A q0 j := by rw [h.1.1 q0 (by simpa using hq)]
theorem cpI_s {q1 o1 q0 o0 i : Nat} {σ s1 : Sg} (h : cpI q1 o1 q0 o0 i σ s1) : cpI q1 o1 q0 o0 (i + 1) σ (s1.sA q1 (upd (s1.A q1) (o1 + i) (σ.A q0 (o0 + i)))) := by
  refine ⟨same_sA h.1 (by simp) _, fun k => ?_⟩
  rw [sA_A, if_pos rfl]
  unfold upd
  by_cases e : k = o1 + i
  · rw [if_pos e, if_pos (by omega), show k - o1 = i by omega]
  · rw [if_neg e, h.2 k]
    by_cases h2 : o1 ≤ k ∧ k < o1 + i
    · rw [if_pos h2, if_pos (by omega)]
    · rw [if_neg h2, if_neg (by omega)]
theorem cpI_N {q1 o1 q0 o0 : Nat} {F : Tv} {σ s1 : Sg} (h : cpI q1 o1 q0 o0 21 σ s1) (hF : RepN q0 o0 F σ) : RepN q1 o1 F s1 := by
  have key : ∀ j, j < 21 → s1.A q1 (o1 + j) = σ.A q0 (o0 + j) := fun j hj => by
    rw [h.2, if_pos (by omega), show o1 + j - o1 = j by omega]
  refine ⟨fun b hb => ?_, ?_⟩
  · rw [key _ (by omega), key _ (by omega), key _ (by omega), key _ (by omega), key _ (by omega)]
    exact hF.1 b hb
  · rw [key _ (by omega)]; exact hF.2
theorem cpI_other {q1 o1 q0 o0 o2 : Nat} {F : Tv} {σ s1 : Sg} (h : cpI q1 o1 q0 o0 21 σ s1) (ho : o2 + 21 ≤ o1 ∨ o1 + 21 ≤ o2) (hF : RepN q1 o2 F σ) : RepN q1 o2 F s1 := by
  have key : ∀ j, j < 21 → s1.A q1 (o2 + j) = σ.A q1 (o2 + j) := fun j hj => by
    rw [h.2, if_neg (by omega)]
  refine ⟨fun b hb => ?_, ?_⟩
  · rw [key _ (by omega), key _ (by omega), key _ (by omega), key _ (by omega), key _ (by omega)]
    exact hF.1 b hb
  · rw [key _ (by omega)]; exact hF.2
theorem RepN_same {q o : Nat} {F : Tv} {σ s2 : Sg} {As Is Js : List Nat} {tk : Bool} (h : RepN q o F σ) (hs : same As Is Js tk σ s2) (hA : q ∉ As) : RepN q o F s2 := by
  unfold RepN
  rw [hs.1 _ hA]
  exact h
theorem RepN_sA {q o k : Nat} {F : Tv} {σ : Sg} {f : Nat → Int32} (h : RepN q o F σ) (hk : q ≠ k) : RepN q o F (σ.sA k f) := by
  unfold RepN
  rw [sA_A, if_neg hk]
  exact h
set_option maxHeartbeats 400000 in
set_option maxRecDepth 10000 in
theorem m_keep {g : Gp} {lau : Launch} {ad : Nat → Nat} {σ : Sg} {F K0 K1 : Tv} {kf : Nat → Nat} (hF : RepN 51 0 F σ) (hK0 : RepN 52 0 K0 σ) (hK1 : RepN 52 21 K1 σ) (hkf : RepK 53 kf σ) (k : Int32) : Con g lau yX7_keep cX7_keep 3 (Option.some .int) 1 22 [.ref (ad 71), .int (k)] ad σ (fun r a2 s2 => some (.int (keepR F k)) = r ∧ ad = a2 ∧ same [52, 53] [] [] false σ s2 ∧ RepN 52 0 (keepK F K0 0 k) s2 ∧ RepN 52 21 (keepK F K1 1 k) s2 ∧ RepK 53 (keepB kf k) s2) := by
  refine con_mk (by decide) (Nat.le_of_ble_eq_true rfl) (fun x hxl K hr => ?_)
  subst hxl
  refine r_lv (lv' := [(0, .ref (ad 71)), (1, .int (k))]) rfl ?_
  refine r_iload_n K 1 rfl rfl dX7_keep_0 ?_
  refine r_iconst K ((nI (0))) (by decide) dX7_keep_1 ?_
  refine r_iconst K ((nI (1))) (by decide) dX7_keep_2 ?_
  refine r_callSp K (As := [.int (k), .int (nI (0)), .int (nI (1))]) ms_X7_in ml_RX7_61 (m_in ((k)) ((nI (0))) ((nI (1)))) rfl rfl (Nat.le_of_ble_eq_true rfl) ⟨by decide, by decide⟩ dX7_keep_3 ?_
  refine b_if_ne K 12 dX7_keep_6 (by decide) (fun h6 => ?_) (fun h6 => ?_)
  · obtain ⟨z_k, hz1, hz2, rfl⟩ := inS_t (by decide) (by decide) h6
    rcases (show z_k = 0 ∨ z_k = 1 by omega) with rfl | rfl
    · refine r_iconst K ((nI (0))) (by decide) dX7_keep_12 ?_
      refine r_istore_n K (lv' := [(2, .int (nI (0))), (0, .ref (ad 71)), (1, .int (nI (0)))]) 2 rfl (by decide) rfl dX7_keep_13 ?_
      refine r_pick [1, 2, 0] (lv' := [(0, .ref (ad 71)), (1, .int (nI (0))), (2, .int (nI (0)))]) rfl ?_
      have lpA : ∀ (mm_ : Nat) (i : Nat) (s1 : Sg), mm_ = 21 - i → (i ≤ 21) → (cpI 52 0 51 0 i σ s1) → GJ g x 3 14 [(0, .ref (ad 71)), (1, .int (nI (0))), (2, .int (nI (i)))] [] ad (s1) := by
        intro mm_
        induction mm_ using Nat.strongRecOn with
        | _ mm_ ihA =>
          intro i s1 hmA hi hI
          refine r_iload_n K 2 rfl rfl dX7_keep_14 ?_
          refine r_bipush K ((nI (21))) (by decide) dX7_keep_15 ?_
          refine n_icmp_ge K 43 (by omega) (by omega) dX7_keep_17 (by decide) (fun h17 => ?_) (fun h17 => ?_)
          · have hi21 : i = 21 := by omega
            subst hi21
            refine r_aload_n K 0 rfl rfl dX7_keep_43 ?_
            refine get_71_19 K fl_RX7_35 dX7_keep_44 ?_
            refine r_iload_n K 1 rfl rfl dX7_keep_47 ?_
            refine r_iconst K ((nI (1))) (by decide) dX7_keep_48 ?_
            refine r_zast K 53 (n := 2) (by decide) rfl rfl (by decide) (by omega) (nar1) dX7_keep_49 ?_
            refine r_aload_n K 0 rfl rfl dX7_keep_50 ?_
            refine get_71_17 K fl_RX7_29 dX7_keep_51 ?_
            refine r_bipush K ((nI (20))) (by decide) dX7_keep_54 ?_
            refine r_iald K 51 (n := 21) (by decide) rfl rfl (by decide) (by omega) dX7_keep_56 ?_
            refine r_topi (b := s1.A 51 (20)) rfl ?_
            refine r_topi (b := (nI (F 5 0))) ((congrFun (hI.1.1 51 (by simp)) 20).trans hF.2) ?_
            exact r_iret K hr (⟨by rw [keepR, if_pos (by decide)], rfl, same_sA (same_w hI.1 (by simp) (by simp) (by simp) id) (by simp) _, by rw [keepK, if_pos rfl]; exact RepN_sA (cpI_N hI hF) (by decide), by rw [keepK, if_neg (by decide)]; exact RepN_sA (cpI_other hI (by decide) hK1) (by decide), RepK_set (RepK_same hkf hI.1 (by simp)) (by decide)⟩) dX7_keep_57
          · refine r_aload_n K 0 rfl rfl dX7_keep_20 ?_
            refine get_71_18 K fl_RX7_32 dX7_keep_21 ?_
            refine r_bipush K ((nI (21))) (by decide) dX7_keep_24 ?_
            refine r_iload_n K 1 rfl rfl dX7_keep_26 ?_
            refine r_imul K dX7_keep_27 ?_
            refine r_topi (pk_mul _ _) ?_
            refine r_iload_n K 2 rfl rfl dX7_keep_28 ?_
            refine r_iadd K dX7_keep_29 ?_
            refine r_topi (nI_add _ _) ?_
            refine r_aload_n K 0 rfl rfl dX7_keep_30 ?_
            refine get_71_17 K fl_RX7_29 dX7_keep_31 ?_
            refine r_iload_n K 2 rfl rfl dX7_keep_34 ?_
            refine r_iald K 51 (n := 21) (by decide) rfl rfl (by decide) (by omega) dX7_keep_35 ?_
            refine r_topi (b := (σ.A 51 (i))) (cpI_src hI (by decide) _) ?_
            refine r_iast K 52 (n := 42) (by decide) rfl rfl (by decide) (by omega) dX7_keep_36 ?_
            refine r_iinc K ((nI (i + 1))) rfl (nI_1 _) (lv' := [(2, .int (nI (i + 1))), (0, .ref (ad 71)), (1, .int (nI (0)))]) (by decide) rfl dX7_keep_37 ?_
            refine r_goto K 14 dX7_keep_40 (by decide) ?_
            refine r_pick [1, 2, 0] (lv' := [(0, .ref (ad 71)), (1, .int (nI (0))), (2, .int (nI (i + 1)))]) rfl ?_
            exact ihA _ (by omega) (i + 1) ((s1).sA 52 (upd ((s1).A 52) ((21 * 0) + i) ((σ.A 51 (i))))) rfl (by omega) (by simpa using cpI_s hI)
      exact lpA _ (0) (σ) rfl (by omega) (cpI_0 _ _ _ _ _)
    · refine r_iconst K ((nI (0))) (by decide) dX7_keep_12 ?_
      refine r_istore_n K (lv' := [(2, .int (nI (0))), (0, .ref (ad 71)), (1, .int (nI (1)))]) 2 rfl (by decide) rfl dX7_keep_13 ?_
      refine r_pick [1, 2, 0] (lv' := [(0, .ref (ad 71)), (1, .int (nI (1))), (2, .int (nI (0)))]) rfl ?_
      have lpA : ∀ (mm_ : Nat) (i : Nat) (s1 : Sg), mm_ = 21 - i → (i ≤ 21) → (cpI 52 21 51 0 i σ s1) → GJ g x 3 14 [(0, .ref (ad 71)), (1, .int (nI (1))), (2, .int (nI (i)))] [] ad (s1) := by
        intro mm_
        induction mm_ using Nat.strongRecOn with
        | _ mm_ ihA =>
          intro i s1 hmA hi hI
          refine r_iload_n K 2 rfl rfl dX7_keep_14 ?_
          refine r_bipush K ((nI (21))) (by decide) dX7_keep_15 ?_
          refine n_icmp_ge K 43 (by omega) (by omega) dX7_keep_17 (by decide) (fun h17 => ?_) (fun h17 => ?_)
          · have hi21 : i = 21 := by omega
            subst hi21
            refine r_aload_n K 0 rfl rfl dX7_keep_43 ?_
            refine get_71_19 K fl_RX7_35 dX7_keep_44 ?_
            refine r_iload_n K 1 rfl rfl dX7_keep_47 ?_
            refine r_iconst K ((nI (1))) (by decide) dX7_keep_48 ?_
            refine r_zast K 53 (n := 2) (by decide) rfl rfl (by decide) (by omega) (nar1) dX7_keep_49 ?_
            refine r_aload_n K 0 rfl rfl dX7_keep_50 ?_
            refine get_71_17 K fl_RX7_29 dX7_keep_51 ?_
            refine r_bipush K ((nI (20))) (by decide) dX7_keep_54 ?_
            refine r_iald K 51 (n := 21) (by decide) rfl rfl (by decide) (by omega) dX7_keep_56 ?_
            refine r_topi (b := s1.A 51 (20)) rfl ?_
            refine r_topi (b := (nI (F 5 0))) ((congrFun (hI.1.1 51 (by simp)) 20).trans hF.2) ?_
            exact r_iret K hr (⟨by rw [keepR, if_pos (by decide)], rfl, same_sA (same_w hI.1 (by simp) (by simp) (by simp) id) (by simp) _, by rw [keepK, if_neg (by decide)]; exact RepN_sA (cpI_other hI (by decide) hK0) (by decide), by rw [keepK, if_pos rfl]; exact RepN_sA (cpI_N hI hF) (by decide), RepK_set (RepK_same hkf hI.1 (by simp)) (by decide)⟩) dX7_keep_57
          · refine r_aload_n K 0 rfl rfl dX7_keep_20 ?_
            refine get_71_18 K fl_RX7_32 dX7_keep_21 ?_
            refine r_bipush K ((nI (21))) (by decide) dX7_keep_24 ?_
            refine r_iload_n K 1 rfl rfl dX7_keep_26 ?_
            refine r_imul K dX7_keep_27 ?_
            refine r_topi (pk_mul _ _) ?_
            refine r_iload_n K 2 rfl rfl dX7_keep_28 ?_
            refine r_iadd K dX7_keep_29 ?_
            refine r_topi (nI_add _ _) ?_
            refine r_aload_n K 0 rfl rfl dX7_keep_30 ?_
            refine get_71_17 K fl_RX7_29 dX7_keep_31 ?_
            refine r_iload_n K 2 rfl rfl dX7_keep_34 ?_
            refine r_iald K 51 (n := 21) (by decide) rfl rfl (by decide) (by omega) dX7_keep_35 ?_
            refine r_topi (b := (σ.A 51 (i))) (cpI_src hI (by decide) _) ?_
            refine r_iast K 52 (n := 42) (by decide) rfl rfl (by decide) (by omega) dX7_keep_36 ?_
            refine r_iinc K ((nI (i + 1))) rfl (nI_1 _) (lv' := [(2, .int (nI (i + 1))), (0, .ref (ad 71)), (1, .int (nI (1)))]) (by decide) rfl dX7_keep_37 ?_
            refine r_goto K 14 dX7_keep_40 (by decide) ?_
            refine r_pick [1, 2, 0] (lv' := [(0, .ref (ad 71)), (1, .int (nI (1))), (2, .int (nI (i + 1)))]) rfl ?_
            exact ihA _ (by omega) (i + 1) ((s1).sA 52 (upd ((s1).A 52) ((21 * 1) + i) ((σ.A 51 (i))))) rfl (by omega) (by simpa using cpI_s hI)
      exact lpA _ (0) (σ) rfl (by omega) (cpI_0 _ _ _ _ _)
  · refine r_bipush K ((-2)) (by decide) dX7_keep_9 ?_
    exact r_iret K hr (⟨by rw [keepR, if_neg (by rw [h6]; decide)], rfl, same_rf _ _ _ _ _, by rw [keepK, if_neg (fun z => by rw [z] at h6; exact absurd h6 (by decide))]; exact hK0, by rw [keepK, if_neg (fun z => by rw [z] at h6; exact absurd h6 (by decide))]; exact hK1, fun i hi => by rw [keepB, if_neg (fun z => by rw [z] at h6; revert h6; rcases (show i = 0 ∨ i = 1 by omega) with rfl | rfl <;> decide)]; exact hkf i hi⟩) dX7_keep_11

set_option maxHeartbeats 400000 in
set_option maxRecDepth 10000 in
theorem m_back {g : Gp} {lau : Launch} {ad : Nat → Nat} {σ : Sg} {F K0 K1 : Tv} {kf : Nat → Nat} (hF : RepN 51 0 F σ) (hK0 : RepN 52 0 K0 σ) (hK1 : RepN 52 21 K1 σ) (hkf : RepK 53 kf σ) (hk1 : ∀ i, kf i ≤ 1) (k : Int32) : Con g lau yX7_back cX7_back 3 (Option.some .int) 1 22 [.ref (ad 71), .int (k)] ad σ (fun r a2 s2 => some (.int (backR K0 K1 kf k)) = r ∧ ad = a2 ∧ same [51] [] [] false σ s2 ∧ RepN 51 0 (backF F K0 K1 kf k) s2) := by
  refine con_mk (by decide) (Nat.le_of_ble_eq_true rfl) (fun x hxl K hr => ?_)
  subst hxl
  refine r_lv (lv' := [(0, .ref (ad 71)), (1, .int (k))]) rfl ?_
  refine r_iload_n K 1 rfl rfl dX7_back_0 ?_
  refine r_iconst K ((nI (0))) (by decide) dX7_back_1 ?_
  refine r_iconst K ((nI (1))) (by decide) dX7_back_2 ?_
  refine r_callSp K (As := [.int (k), .int (nI (0)), .int (nI (1))]) ms_X7_in ml_RX7_61 (m_in ((k)) ((nI (0))) ((nI (1)))) rfl rfl (Nat.le_of_ble_eq_true rfl) ⟨by decide, by decide⟩ dX7_back_3 ?_
  refine b_if_ne K 12 dX7_back_6 (by decide) (fun h6 => ?_) (fun h6 => ?_)
  · obtain ⟨z_k, hz1, hz2, rfl⟩ := inS_t (by decide) (by decide) h6
    rcases (show z_k = 0 ∨ z_k = 1 by omega) with rfl | rfl
    · have hk0 := hk1 0
      have hk1 := hk1 1
      refine r_aload_n K 0 rfl rfl dX7_back_12 ?_
      refine get_71_19 K fl_RX7_35 dX7_back_13 ?_
      refine r_iload_n K 1 rfl rfl dX7_back_16 ?_
      refine r_zald K 53 (n := 2) (by decide) rfl rfl (by decide) (by omega) dX7_back_17 ?_
      refine r_topi (b := (nI (kf 0))) (hkf 0 (by decide)) ?_
      refine n_if_ne K 24 (by omega) dX7_back_18 (by decide) (fun h18 => ?_) (fun h18 => ?_)
      · refine r_iconst K ((nI (0))) (by decide) dX7_back_24 ?_
        refine r_istore_n K (lv' := [(2, .int (nI (0))), (0, .ref (ad 71)), (1, .int (nI (0)))]) 2 rfl (by decide) rfl dX7_back_25 ?_
        refine r_pick [1, 2, 0] (lv' := [(0, .ref (ad 71)), (1, .int (nI (0))), (2, .int (nI (0)))]) rfl ?_
        have lpA : ∀ (mm_ : Nat) (i : Nat) (s1 : Sg), mm_ = 21 - i → (i ≤ 21) → (cpI 51 0 52 0 i σ s1) → GJ g x 3 26 [(0, .ref (ad 71)), (1, .int (nI (0))), (2, .int (nI (i)))] [] ad (s1) := by
          intro mm_
          induction mm_ using Nat.strongRecOn with
          | _ mm_ ihA =>
            intro i s1 hmA hi hI
            refine r_iload_n K 2 rfl rfl dX7_back_26 ?_
            refine r_bipush K ((nI (21))) (by decide) dX7_back_27 ?_
            refine n_icmp_ge K 55 (by omega) (by omega) dX7_back_29 (by decide) (fun h29 => ?_) (fun h29 => ?_)
            · have hi21 : i = 21 := by omega
              subst hi21
              refine r_aload_n K 0 rfl rfl dX7_back_55 ?_
              refine get_71_17 K fl_RX7_29 dX7_back_56 ?_
              refine r_bipush K ((nI (20))) (by decide) dX7_back_59 ?_
              refine r_iald K 51 (n := 21) (by decide) rfl rfl (by decide) (by omega) dX7_back_61 ?_
              refine r_topi (b := (nI (K0 5 0))) ((cpI_N hI hK0).2) ?_
              exact r_iret K hr (⟨by rw [backR, if_pos rfl, if_pos (by omega)], rfl, hI.1, by rw [backF, if_pos ⟨rfl, by omega⟩]; exact cpI_N hI hK0⟩) dX7_back_62
            · refine r_aload_n K 0 rfl rfl dX7_back_32 ?_
              refine get_71_17 K fl_RX7_29 dX7_back_33 ?_
              refine r_iload_n K 2 rfl rfl dX7_back_36 ?_
              refine r_aload_n K 0 rfl rfl dX7_back_37 ?_
              refine get_71_18 K fl_RX7_32 dX7_back_38 ?_
              refine r_bipush K ((nI (21))) (by decide) dX7_back_41 ?_
              refine r_iload_n K 1 rfl rfl dX7_back_43 ?_
              refine r_imul K dX7_back_44 ?_
              refine r_topi (pk_mul _ _) ?_
              refine r_iload_n K 2 rfl rfl dX7_back_45 ?_
              refine r_iadd K dX7_back_46 ?_
              refine r_topi (nI_add _ _) ?_
              refine r_iald K 52 (n := 42) (by decide) rfl rfl (by decide) (by omega) dX7_back_47 ?_
              refine r_topi (b := (σ.A 52 ((21 * 0) + i))) (cpI_src hI (by decide) _) ?_
              refine r_iast K 51 (n := 21) (by decide) rfl rfl (by decide) (by omega) dX7_back_48 ?_
              refine r_iinc K ((nI (i + 1))) rfl (nI_1 _) (lv' := [(2, .int (nI (i + 1))), (0, .ref (ad 71)), (1, .int (nI (0)))]) (by decide) rfl dX7_back_49 ?_
              refine r_goto K 26 dX7_back_52 (by decide) ?_
              refine r_pick [1, 2, 0] (lv' := [(0, .ref (ad 71)), (1, .int (nI (0))), (2, .int (nI (i + 1)))]) rfl ?_
              exact ihA _ (by omega) (i + 1) ((s1).sA 51 (upd ((s1).A 51) (i) ((σ.A 52 ((21 * 0) + i))))) rfl (by omega) (by simpa using cpI_s hI)
        exact lpA _ (0) (σ) rfl (by omega) (cpI_0 _ _ _ _ _)
      · refine r_bipush K ((-4)) (by decide) dX7_back_21 ?_
        exact r_iret K hr (⟨by rw [backR, if_pos rfl, if_neg (by omega)], rfl, same_rf _ _ _ _ _, by rw [backF, if_neg (fun z => by omega), if_neg (fun z => absurd z.1 (by decide))]; exact hF⟩) dX7_back_23
    · have hk0 := hk1 0
      have hk1 := hk1 1
      refine r_aload_n K 0 rfl rfl dX7_back_12 ?_
      refine get_71_19 K fl_RX7_35 dX7_back_13 ?_
      refine r_iload_n K 1 rfl rfl dX7_back_16 ?_
      refine r_zald K 53 (n := 2) (by decide) rfl rfl (by decide) (by omega) dX7_back_17 ?_
      refine r_topi (b := (nI (kf 1))) (hkf 1 (by decide)) ?_
      refine n_if_ne K 24 (by omega) dX7_back_18 (by decide) (fun h18 => ?_) (fun h18 => ?_)
      · refine r_iconst K ((nI (0))) (by decide) dX7_back_24 ?_
        refine r_istore_n K (lv' := [(2, .int (nI (0))), (0, .ref (ad 71)), (1, .int (nI (1)))]) 2 rfl (by decide) rfl dX7_back_25 ?_
        refine r_pick [1, 2, 0] (lv' := [(0, .ref (ad 71)), (1, .int (nI (1))), (2, .int (nI (0)))]) rfl ?_
        have lpA : ∀ (mm_ : Nat) (i : Nat) (s1 : Sg), mm_ = 21 - i → (i ≤ 21) → (cpI 51 0 52 21 i σ s1) → GJ g x 3 26 [(0, .ref (ad 71)), (1, .int (nI (1))), (2, .int (nI (i)))] [] ad (s1) := by
          intro mm_
          induction mm_ using Nat.strongRecOn with
          | _ mm_ ihA =>
            intro i s1 hmA hi hI
            refine r_iload_n K 2 rfl rfl dX7_back_26 ?_
            refine r_bipush K ((nI (21))) (by decide) dX7_back_27 ?_
            refine n_icmp_ge K 55 (by omega) (by omega) dX7_back_29 (by decide) (fun h29 => ?_) (fun h29 => ?_)
            · have hi21 : i = 21 := by omega
              subst hi21
              refine r_aload_n K 0 rfl rfl dX7_back_55 ?_
              refine get_71_17 K fl_RX7_29 dX7_back_56 ?_
              refine r_bipush K ((nI (20))) (by decide) dX7_back_59 ?_
              refine r_iald K 51 (n := 21) (by decide) rfl rfl (by decide) (by omega) dX7_back_61 ?_
              refine r_topi (b := (nI (K1 5 0))) ((cpI_N hI hK1).2) ?_
              exact r_iret K hr (⟨by rw [backR, if_neg (by decide), if_pos rfl, if_pos (by omega)], rfl, hI.1, by rw [backF, if_neg (fun z => absurd z.1 (by decide)), if_pos ⟨rfl, by omega⟩]; exact cpI_N hI hK1⟩) dX7_back_62
            · refine r_aload_n K 0 rfl rfl dX7_back_32 ?_
              refine get_71_17 K fl_RX7_29 dX7_back_33 ?_
              refine r_iload_n K 2 rfl rfl dX7_back_36 ?_
              refine r_aload_n K 0 rfl rfl dX7_back_37 ?_
              refine get_71_18 K fl_RX7_32 dX7_back_38 ?_
              refine r_bipush K ((nI (21))) (by decide) dX7_back_41 ?_
              refine r_iload_n K 1 rfl rfl dX7_back_43 ?_
              refine r_imul K dX7_back_44 ?_
              refine r_topi (pk_mul _ _) ?_
              refine r_iload_n K 2 rfl rfl dX7_back_45 ?_
              refine r_iadd K dX7_back_46 ?_
              refine r_topi (nI_add _ _) ?_
              refine r_iald K 52 (n := 42) (by decide) rfl rfl (by decide) (by omega) dX7_back_47 ?_
              refine r_topi (b := (σ.A 52 ((21 * 1) + i))) (cpI_src hI (by decide) _) ?_
              refine r_iast K 51 (n := 21) (by decide) rfl rfl (by decide) (by omega) dX7_back_48 ?_
              refine r_iinc K ((nI (i + 1))) rfl (nI_1 _) (lv' := [(2, .int (nI (i + 1))), (0, .ref (ad 71)), (1, .int (nI (1)))]) (by decide) rfl dX7_back_49 ?_
              refine r_goto K 26 dX7_back_52 (by decide) ?_
              refine r_pick [1, 2, 0] (lv' := [(0, .ref (ad 71)), (1, .int (nI (1))), (2, .int (nI (i + 1)))]) rfl ?_
              exact ihA _ (by omega) (i + 1) ((s1).sA 51 (upd ((s1).A 51) (i) ((σ.A 52 ((21 * 1) + i))))) rfl (by omega) (by simpa using cpI_s hI)
        exact lpA _ (0) (σ) rfl (by omega) (cpI_0 _ _ _ _ _)
      · refine r_bipush K ((-4)) (by decide) dX7_back_21 ?_
        exact r_iret K hr (⟨by rw [backR, if_neg (by decide), if_pos rfl, if_neg (by omega)], rfl, same_rf _ _ _ _ _, by rw [backF, if_neg (fun z => absurd z.1 (by decide)), if_neg (fun z => by omega)]; exact hF⟩) dX7_back_23
  · refine r_bipush K ((-2)) (by decide) dX7_back_9 ?_
    exact r_iret K hr (⟨by rw [backR, if_neg (fun z => by rw [z] at h6; exact absurd h6 (by decide)), if_neg (fun z => by rw [z] at h6; exact absurd h6 (by decide))], rfl, same_rf _ _ _ _ _, by rw [backF, if_neg (fun z => by rw [z.1] at h6; exact absurd h6 (by decide)), if_neg (fun z => by rw [z.1] at h6; exact absurd h6 (by decide))]; exact hF⟩) dX7_back_11
