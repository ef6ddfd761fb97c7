section RULES4
variable {g : Gp} {x : Cx} {cc : ByteArray} {own : String} {nL fr lo pc : Nat} {lv : List (Nat × Value)} {rest : List Value} {ad : Nat → Nat} {σ : Sg}
theorem r_lookup (K : Ok g x cc own nL fr lo) {dflt off : Int} {ps : Array (Int × Int)} {len : Nat} {v : Int32} (tgt : Nat) (d : decode cc pc = .ok (.lookupswitch dflt ps, len)) (hp : (ps.toList.zip (ps.toList.drop 1)).all (fun (a, next) => a.1 < next.1) = true) (ho : Op.lookupswitch.offset ps.toList dflt v.toInt = off) (ht : (pc : Int) + off = (tgt : Int)) (k : GJ g x nL tgt lv rest ad σ) : GJ g x nL pc lv (.int v :: rest) ad σ :=
  fun H locs ls hW hS hl => lv_lookup K.1 K.2.1 d hp ho ht (k H locs ls hW hS hl)
end RULES4
theorem cordS_le {T : Tv} (hT : TOk T) (b : Nat) : cordS T b ≤ 5 := by
  unfold cordS
  have := (hT.2.2.2.2.2.2.1 b).2.2.1
  split <;> omega
theorem startS_le (T : Tv) : startS T ≤ 160 := by unfold startS; split <;> omega
set_option maxHeartbeats 400000 in
set_option maxRecDepth 10000 in
theorem c_reach {g : Gp} {lau : Launch} {ad : Nat → Nat} {σ : Sg} {T : Tv} (hT : TOk T) (hR : RepC T σ) (r w : Int32) : Con g lau yX6_reach cX6_reach 3 (Option.some .int) 1 21 [.ref (ad 61), .int (r), .int (w)] ad σ (pu (.int (rchS T r w)) ad σ) := by
  refine con_mk (by decide) (Nat.le_of_ble_eq_true rfl) (fun x hxl K hr => ?_)
  subst hxl
  refine r_lv (lv' := [(0, .ref (ad 61)), (1, .int (r)), (2, .int (w))]) rfl ?_
  have hn8 := hT.2.1
  have hn9 := hT.2.2.1
  refine r_aload_n K 0 rfl rfl dX6_reach_0 ?_
  refine get_61_0 K fl_RX6_12 dX6_reach_1 ?_
  refine r_iload_n K 1 rfl rfl dX6_reach_4 ?_
  refine r_callVp K 62 (As := [.int (r)]) mv_X4_hasReach ml_RX6_79 (c_hasReach hT hR ((r))) (by decide) rfl rfl rfl rfl (Nat.le_of_ble_eq_true rfl) ⟨by decide, by decide⟩ dX6_reach_5 ?_
  refine b_if_ne K 14 dX6_reach_8 (by decide) (fun h8 => ?_) (fun h8 => ?_)
  · obtain ⟨rN, h_rN, rfl⟩ := hasR_t h8
    have e_rN : (nI rN).toInt.toNat = rN := nI_nat (by omega)
    refine r_iload_n K 2 rfl rfl dX6_reach_14 ?_
    by_cases q15_0 : w = nI 0
    · subst q15_0
      refine r_tableIn K 40 dX6_reach_15 (by decide) (by decide) rfl (by decide) ?_
      refine r_aload_n K 0 rfl rfl dX6_reach_40 ?_
      refine get_61_0 K fl_RX6_12 dX6_reach_41 ?_
      refine get_62_2 K fl_RX6_83 dX6_reach_44 ?_
      refine r_iload_n K 1 rfl rfl dX6_reach_47 ?_
      refine r_iald K 0 (n := 8) (by decide) rfl rfl (by decide) (by omega) dX6_reach_48 ?_
      have hq153 : T 0 (rN) < 256 := hT.1 0 (rN)
      refine r_topi (b := (nI (T 0 (rN)))) (hR.2.2 0 (by decide) (rN) (show rN < 8 by omega)) ?_
      exact r_iret K hr (⟨by simp (decide := true) [rchS, *], rfl, rfl⟩) dX6_reach_49
    · by_cases q15_1 : w = nI 1
      · subst q15_1
        refine r_tableIn K 50 dX6_reach_15 (by decide) (by decide) rfl (by decide) ?_
        refine r_aload_n K 0 rfl rfl dX6_reach_50 ?_
        refine get_61_0 K fl_RX6_12 dX6_reach_51 ?_
        refine get_62_3 K fl_RX6_87 dX6_reach_54 ?_
        refine r_iload_n K 1 rfl rfl dX6_reach_57 ?_
        refine r_iald K 1 (n := 8) (by decide) rfl rfl (by decide) (by omega) dX6_reach_58 ?_
        have hq154 : T 1 (rN) < 256 := hT.1 1 (rN)
        refine r_topi (b := (nI (T 1 (rN)))) (hR.2.2 1 (by decide) (rN) (show rN < 8 by omega)) ?_
        exact r_iret K hr (⟨by simp (decide := true) [rchS, *], rfl, rfl⟩) dX6_reach_59
      · by_cases q15_2 : w = nI 2
        · subst q15_2
          refine r_tableIn K 60 dX6_reach_15 (by decide) (by decide) rfl (by decide) ?_
          refine r_aload_n K 0 rfl rfl dX6_reach_60 ?_
          refine get_61_0 K fl_RX6_12 dX6_reach_61 ?_
          refine get_62_4 K fl_RX6_90 dX6_reach_64 ?_
          refine r_iload_n K 1 rfl rfl dX6_reach_67 ?_
          refine r_iald K 2 (n := 8) (by decide) rfl rfl (by decide) (by omega) dX6_reach_68 ?_
          have hq155 : T 2 (rN) < 256 := hT.1 2 (rN)
          refine r_topi (b := (nI (T 2 (rN)))) (hR.2.2 2 (by decide) (rN) (show rN < 8 by omega)) ?_
          exact r_iret K hr (⟨by simp (decide := true) [rchS, *], rfl, rfl⟩) dX6_reach_69
        · refine r_tableOut K 70 dX6_reach_15 (sw_out (n := 2) (fun j hj => by rcases (show j = 0 ∨ j = 1 ∨ j = 2 by omega) with rfl | rfl | rfl <;> assumption)) (by decide) ?_
          refine r_bipush K ((-3)) (by decide) dX6_reach_70 ?_
          exact r_iret K hr (⟨by simp (decide := true) [rchS, *], rfl, rfl⟩) dX6_reach_72
  · refine r_bipush K ((-2)) (by decide) dX6_reach_11 ?_
    exact r_iret K hr (⟨by simp (decide := true) [rchS, *], rfl, rfl⟩) dX6_reach_13

set_option maxHeartbeats 400000 in
set_option maxRecDepth 10000 in
theorem c_wind {g : Gp} {lau : Launch} {ad : Nat → Nat} {σ : Sg} {T : Tv} (hT : TOk T) (hR : RepC T σ) (l h w : Int32) : Con g lau yX6_wind cX6_wind 4 (Option.some .int) 1 20 [.ref (ad 61), .int (l), .int (h), .int (w)] ad σ (pu (.int (wndS T l h w)) ad σ) := by
  refine con_mk (by decide) (Nat.le_of_ble_eq_true rfl) (fun x hxl K hr => ?_)
  subst hxl
  refine r_lv (lv' := [(0, .ref (ad 61)), (1, .int (l)), (2, .int (h)), (3, .int (w))]) rfl ?_
  have hn8 := hT.2.1
  have hn9 := hT.2.2.1
  refine r_iload_n K 1 rfl rfl dX6_wind_0 ?_
  refine r_callSp K (As := [.int (l)]) ms_X6_isLayer ml_RX6_93 (c_isLayer ((l))) rfl rfl (Nat.le_of_ble_eq_true rfl) ⟨by decide, by decide⟩ dX6_wind_1 ?_
  refine b_if_eq K 14 dX6_wind_4 (by decide) (fun h4 => ?_) (fun h4 => ?_)
  · refine r_bipush K ((-2)) (by decide) dX6_wind_14 ?_
    exact r_iret K hr (⟨by simp (decide := true) [wndS, Nat.mul_comm 24, *], rfl, rfl⟩) dX6_wind_16
  · obtain ⟨lN, h_lN, rfl⟩ := isL_t h4
    have e_lN : (nI lN).toInt.toNat = lN := nI_nat (by omega)
    refine r_iload_n K 2 rfl rfl dX6_wind_7 ?_
    refine r_callSp K (As := [.int (h)]) ms_X6_isHour ml_RX6_96 (c_isHour ((h))) rfl rfl (Nat.le_of_ble_eq_true rfl) ⟨by decide, by decide⟩ dX6_wind_8 ?_
    refine b_if_ne K 17 dX6_wind_11 (by decide) (fun h11 => ?_) (fun h11 => ?_)
    · obtain ⟨hN, h_hN, rfl⟩ := isH_t h11
      have e_hN : (nI hN).toInt.toNat = hN := nI_nat (by omega)
      refine r_iload_n K 3 rfl rfl dX6_wind_17 ?_
      by_cases q0 : w = nI 0
      · subst q0
        refine r_lookup K 44 dX6_wind_18 (by decide) rfl (by decide) ?_
        refine r_aload_n K 0 rfl rfl dX6_wind_44 ?_
        refine get_61_0 K fl_RX6_12 dX6_wind_45 ?_
        refine get_62_5 K fl_RX6_99 dX6_wind_48 ?_
        refine r_iload_n K 1 rfl rfl dX6_wind_51 ?_
        refine r_bipush K ((nI (24))) (by decide) dX6_wind_52 ?_
        refine r_imul K dX6_wind_54 ?_
        refine r_topi (pk_mul _ _) ?_
        refine r_iload_n K 2 rfl rfl dX6_wind_55 ?_
        refine r_iadd K dX6_wind_56 ?_
        refine r_topi (nI_add _ _) ?_
        refine r_iald K 3 (n := 144) (by decide) rfl rfl (by decide) (by omega) dX6_wind_57 ?_
        have hq158 : T 3 ((lN * 24) + hN) < 256 := hT.1 3 ((lN * 24) + hN)
        refine r_topi (b := (nI (T 3 ((lN * 24) + hN)))) (hR.2.2 3 (by decide) ((lN * 24) + hN) (show (lN * 24) + hN < 144 by omega)) ?_
        exact r_iret K hr (⟨by simp (decide := true) [wndS, Nat.mul_comm 24, *], rfl, rfl⟩) dX6_wind_58
      · by_cases q1 : w = nI 1
        · subst q1
          refine r_lookup K 59 dX6_wind_18 (by decide) rfl (by decide) ?_
          refine r_aload_n K 0 rfl rfl dX6_wind_59 ?_
          refine get_61_0 K fl_RX6_12 dX6_wind_60 ?_
          refine get_62_6 K fl_RX6_102 dX6_wind_63 ?_
          refine r_iload_n K 1 rfl rfl dX6_wind_66 ?_
          refine r_bipush K ((nI (24))) (by decide) dX6_wind_67 ?_
          refine r_imul K dX6_wind_69 ?_
          refine r_topi (pk_mul _ _) ?_
          refine r_iload_n K 2 rfl rfl dX6_wind_70 ?_
          refine r_iadd K dX6_wind_71 ?_
          refine r_topi (nI_add _ _) ?_
          refine r_iald K 4 (n := 144) (by decide) rfl rfl (by decide) (by omega) dX6_wind_72 ?_
          have hq159 : T 4 ((lN * 24) + hN) < 256 := hT.1 4 ((lN * 24) + hN)
          refine r_topi (b := (nI (T 4 ((lN * 24) + hN)))) (hR.2.2 4 (by decide) ((lN * 24) + hN) (show (lN * 24) + hN < 144 by omega)) ?_
          exact r_iret K hr (⟨by simp (decide := true) [wndS, Nat.mul_comm 24, *], rfl, rfl⟩) dX6_wind_73
        · have hw0 : w.toInt ≠ 0 := fun z => q0 (Int32.toInt_inj.mp (by rw [z]; rfl))
          have hw1 : w.toInt ≠ 1 := fun z => q1 (Int32.toInt_inj.mp (by rw [z]; rfl))
          refine r_lookup K 74 dX6_wind_18 (off := 56) (by decide) (by simp [Op.lookupswitch.offset, hw0, hw1, Ne.symm hw0, Ne.symm hw1]) (by decide) ?_
          refine r_bipush K ((-3)) (by decide) dX6_wind_74 ?_
          exact r_iret K hr (⟨by simp (decide := true) [wndS, Nat.mul_comm 24, *], rfl, rfl⟩) dX6_wind_76
    · refine r_bipush K ((-2)) (by decide) dX6_wind_14 ?_
      exact r_iret K hr (⟨by simp (decide := true) [wndS, Nat.mul_comm 24, *], rfl, rfl⟩) dX6_wind_16

set_option maxHeartbeats 400000 in
set_option maxRecDepth 10000 in
theorem c_barge {g : Gp} {lau : Launch} {ad : Nat → Nat} {σ : Sg} {T : Tv} (hT : TOk T) (hR : RepC T σ) (b w : Int32) : Con g lau yX6_barge cX6_barge 3 (Option.some .int) 1 21 [.ref (ad 61), .int (b), .int (w)] ad σ (pu (.int (brgS T b w)) ad σ) := by
  refine con_mk (by decide) (Nat.le_of_ble_eq_true rfl) (fun x hxl K hr => ?_)
  subst hxl
  refine r_lv (lv' := [(0, .ref (ad 61)), (1, .int (b)), (2, .int (w))]) rfl ?_
  have hn8 := hT.2.1
  have hn9 := hT.2.2.1
  refine r_aload_n K 0 rfl rfl dX6_barge_0 ?_
  refine get_61_0 K fl_RX6_12 dX6_barge_1 ?_
  refine r_iload_n K 1 rfl rfl dX6_barge_4 ?_
  refine r_callVp K 62 (As := [.int (b)]) mv_X4_hasBarge ml_RX6_105 (c_hasBarge hT hR ((b))) (by decide) rfl rfl rfl rfl (Nat.le_of_ble_eq_true rfl) ⟨by decide, by decide⟩ dX6_barge_5 ?_
  refine b_if_ne K 14 dX6_barge_8 (by decide) (fun h8 => ?_) (fun h8 => ?_)
  · obtain ⟨bN, h_bN, rfl, t_bN⟩ := hasB_t h8
    have e_bN : (nI bN).toInt.toNat = bN := nI_nat (by omega)
    refine r_iload_n K 2 rfl rfl dX6_barge_14 ?_
    by_cases q15_0 : w = nI 0
    · subst q15_0
      refine r_tableIn K 44 dX6_barge_15 (by decide) (by decide) rfl (by decide) ?_
      refine r_aload_n K 0 rfl rfl dX6_barge_44 ?_
      refine get_61_0 K fl_RX6_12 dX6_barge_45 ?_
      refine get_62_8 K fl_RX6_108 dX6_barge_48 ?_
      refine r_iload_n K 1 rfl rfl dX6_barge_51 ?_
      refine r_iald K 6 (n := 4) (by decide) rfl rfl (by decide) (by omega) dX6_barge_52 ?_
      have hq161 : T 6 (bN) < 256 := hT.1 6 (bN)
      refine r_topi (b := (nI (T 6 (bN)))) (hR.2.2 6 (by decide) (bN) (show bN < 4 by omega)) ?_
      exact r_iret K hr (⟨by simp (decide := true) [brgS, *], rfl, rfl⟩) dX6_barge_53
    · by_cases q15_1 : w = nI 1
      · subst q15_1
        refine r_tableIn K 54 dX6_barge_15 (by decide) (by decide) rfl (by decide) ?_
        refine r_aload_n K 0 rfl rfl dX6_barge_54 ?_
        refine get_61_0 K fl_RX6_12 dX6_barge_55 ?_
        refine r_iload_n K 1 rfl rfl dX6_barge_58 ?_
        refine r_callVp K 62 (As := [.int (nI (bN))]) mv_X4_cordOf ml_RX6_111 (c_cordOf hT hR (b := bN) (by omega)) (by decide) rfl rfl rfl rfl (Nat.le_of_ble_eq_true rfl) ⟨by decide, by decide⟩ dX6_barge_59 ?_
        have hcd := cordS_le hT bN
        exact r_iret K hr (⟨by simp (decide := true) [brgS, *], rfl, rfl⟩) dX6_barge_62
      · by_cases q15_2 : w = nI 2
        · subst q15_2
          refine r_tableIn K 63 dX6_barge_15 (by decide) (by decide) rfl (by decide) ?_
          refine r_aload_n K 0 rfl rfl dX6_barge_63 ?_
          refine get_61_0 K fl_RX6_12 dX6_barge_64 ?_
          refine get_62_10 K fl_RX6_115 dX6_barge_67 ?_
          refine r_iload_n K 1 rfl rfl dX6_barge_70 ?_
          refine r_iald K 8 (n := 4) (by decide) rfl rfl (by decide) (by omega) dX6_barge_71 ?_
          have hq162 : T 8 (bN) < 256 := hT.1 8 (bN)
          refine r_topi (b := (nI (T 8 (bN)))) (hR.2.2 8 (by decide) (bN) (show bN < 4 by omega)) ?_
          exact r_iret K hr (⟨by simp (decide := true) [brgS, *], rfl, rfl⟩) dX6_barge_72
        · by_cases q15_3 : w = nI 3
          · subst q15_3
            refine r_tableIn K 73 dX6_barge_15 (by decide) (by decide) rfl (by decide) ?_
            refine r_aload_n K 0 rfl rfl dX6_barge_73 ?_
            refine get_61_0 K fl_RX6_12 dX6_barge_74 ?_
            refine get_62_11 K fl_RX6_118 dX6_barge_77 ?_
            refine r_iload_n K 1 rfl rfl dX6_barge_80 ?_
            refine r_iald K 9 (n := 4) (by decide) rfl rfl (by decide) (by omega) dX6_barge_81 ?_
            have hq163 : T 9 (bN) < 256 := hT.1 9 (bN)
            refine r_topi (b := (nI (T 9 (bN)))) (hR.2.2 9 (by decide) (bN) (show bN < 4 by omega)) ?_
            exact r_iret K hr (⟨by simp (decide := true) [brgS, *], rfl, rfl⟩) dX6_barge_82
          · refine r_tableOut K 83 dX6_barge_15 (sw_out (n := 3) (fun j hj => by rcases (show j = 0 ∨ j = 1 ∨ j = 2 ∨ j = 3 by omega) with rfl | rfl | rfl | rfl <;> assumption)) (by decide) ?_
            refine r_bipush K ((-3)) (by decide) dX6_barge_83 ?_
            exact r_iret K hr (⟨by simp (decide := true) [brgS, *], rfl, rfl⟩) dX6_barge_85
  · refine r_bipush K ((-2)) (by decide) dX6_barge_11 ?_
    exact r_iret K hr (⟨by simp (decide := true) [brgS, *], rfl, rfl⟩) dX6_barge_13

set_option maxHeartbeats 400000 in
set_option maxRecDepth 10000 in
theorem c_as {g : Gp} {lau : Launch} {ad : Nat → Nat} {σ : Sg} {T : Tv} (hT : TOk T) (hR : RepC T σ) (b k : Int32) : Con g lau yX6_as cX6_as 5 (Option.some .int) 1 24 [.ref (ad 61), .int (b), .int (k)] ad σ (pu (.int (asS T b k)) ad σ) := by
  refine con_mk (by decide) (Nat.le_of_ble_eq_true rfl) (fun x hxl K hr => ?_)
  subst hxl
  refine r_lv (lv' := [(0, .ref (ad 61)), (1, .int (b)), (2, .int (k))]) rfl ?_
  have hn8 := hT.2.1
  have hn9 := hT.2.2.1
  refine r_aload_n K 0 rfl rfl dX6_as_0 ?_
  refine get_61_0 K fl_RX6_12 dX6_as_1 ?_
  refine r_iload_n K 1 rfl rfl dX6_as_4 ?_
  refine r_callVp K 62 (As := [.int (b)]) mv_X4_hasBarge ml_RX6_105 (c_hasBarge hT hR ((b))) (by decide) rfl rfl rfl rfl (Nat.le_of_ble_eq_true rfl) ⟨by decide, by decide⟩ dX6_as_5 ?_
  refine b_if_ne K 14 dX6_as_8 (by decide) (fun h8 => ?_) (fun h8 => ?_)
  · obtain ⟨bN, h_bN, rfl, t_bN⟩ := hasB_t h8
    have e_bN : (nI bN).toInt.toNat = bN := nI_nat (by omega)
    refine r_iload_n K 2 rfl rfl dX6_as_14 ?_
    refine r_if_lt K 23 dX6_as_15 (by decide) (fun h15 => ?_) (fun h15 => ?_)
    · refine r_bipush K ((-3)) (by decide) dX6_as_23 ?_
      exact r_iret K hr (⟨by rw [asS, if_pos h8, if_neg (by first | (rw [inS_lo (a := 0) h15 (by decide)]; decide) | (rw [inS_hi (Int32.not_le.mp h20) (by decide)]; decide))], rfl, rfl⟩) dX6_as_25
    · refine r_iload_n K 2 rfl rfl dX6_as_18 ?_
      refine r_iconst K ((nI (4))) (by decide) dX6_as_19 ?_
      refine r_icmp_le K 26 dX6_as_20 (by decide) (fun h20 => ?_) (fun h20 => ?_)
      · refine r_aload_n K 0 rfl rfl dX6_as_26 ?_
        refine get_61_0 K fl_RX6_12 dX6_as_27 ?_
        refine get_62_10 K fl_RX6_115 dX6_as_30 ?_
        refine r_iload_n K 1 rfl rfl dX6_as_33 ?_
        refine r_iald K 8 (n := 4) (by decide) rfl rfl (by decide) (by omega) dX6_as_34 ?_
        have hq167 : T 8 (bN) < 256 := hT.1 8 (bN)
        refine r_topi (b := (nI (T 8 (bN)))) (hR.2.2 8 (by decide) (bN) (show bN < 4 by omega)) ?_
        refine r_istore_n K (lv' := [(3, .int (nI (T 8 (bN)))), (0, .ref (ad 61)), (1, .int (nI (bN))), (2, .int (k))]) 3 rfl (by decide) rfl dX6_as_35 ?_
        refine r_iload_n K 2 rfl rfl dX6_as_36 ?_
        refine r_if_eq K 55 dX6_as_37 (by decide) (fun h37 => ?_) (fun h37 => ?_)
        · refine r_iconst K ((nI (1))) (by decide) dX6_as_55 ?_
          refine r_goto K 60 dX6_as_56 (by decide) ?_
          refine r_istore K (lv' := [(4, .int (nI (1))), (3, .int (nI (T 8 (bN)))), (0, .ref (ad 61)), (1, .int (nI (bN))), (2, .int (k))]) (by decide) rfl dX6_as_60 ?_
          refine r_iload K rfl dX6_as_62 ?_
          refine n_if_eq K 86 (by omega) dX6_as_64 (by decide) (fun z => absurd z (by decide)) (fun _ => ?_)
          refine r_bipush K ((nI (100))) (by decide) dX6_as_67 ?_
          refine r_iload_n K 3 rfl rfl dX6_as_69 ?_
          refine r_iconst K ((nI (0))) (by decide) dX6_as_70 ?_
          refine r_iconst K ((nI (1))) (by decide) dX6_as_71 ?_
          refine r_callSp K (As := [.int (nI (T 8 (bN))), .int (nI (0)), .int (nI (1))]) ms_X4_pulled ml_RX6_121 (c_pulled (k := T 8 (bN)) (s := 1) (t := 0) (hT.2.2.2.2.2.2.1 _).2.2.2.1 (by decide) (by decide) (by decide)) rfl rfl (Nat.le_of_ble_eq_true rfl) ⟨by decide, by decide⟩ dX6_as_72 ?_
          refine r_imul K dX6_as_75 ?_
          refine r_topi (pk_mul _ _) ?_
          refine r_iload_n K 3 rfl rfl dX6_as_76 ?_
          refine r_iconst K ((nI (2))) (by decide) dX6_as_77 ?_
          refine r_iconst K ((nI (1))) (by decide) dX6_as_78 ?_
          refine r_callSp K (As := [.int (nI (T 8 (bN))), .int (nI (2)), .int (nI (1))]) ms_X4_pulled ml_RX6_121 (c_pulled (k := T 8 (bN)) (s := 1) (t := 2) (hT.2.2.2.2.2.2.1 _).2.2.2.1 (by decide) (by decide) (by decide)) rfl rfl (Nat.le_of_ble_eq_true rfl) ⟨by decide, by decide⟩ dX6_as_79 ?_
          refine r_iadd K dX6_as_82 ?_
          refine r_topi (nI_add _ _) ?_
          refine r_goto K 88 dX6_as_83 (by decide) ?_
          exact r_iret K hr (⟨by rw [asS, if_pos h8, if_pos (inS_mid (a := 0) (b := 4) h15 (Int32.not_lt.mpr h20)), e_bN, pull_as (hT.2.2.2.2.2.2.1 _).2.2.2.1]; rw [if_pos (by first | exact Or.inl h37 | exact Or.inr (Or.inl h42.symm) | exact Or.inr (Or.inr ⟨h47, h52⟩))], rfl, rfl⟩) dX6_as_88
        · refine r_iload_n K 3 rfl rfl dX6_as_40 ?_
          refine r_iload_n K 2 rfl rfl dX6_as_41 ?_
          refine r_icmp_eq K 55 dX6_as_42 (by decide) (fun h42 => ?_) (fun h42 => ?_)
          · refine r_iconst K ((nI (1))) (by decide) dX6_as_55 ?_
            refine r_goto K 60 dX6_as_56 (by decide) ?_
            refine r_istore K (lv' := [(4, .int (nI (1))), (3, .int (nI (T 8 (bN)))), (0, .ref (ad 61)), (1, .int (nI (bN))), (2, .int (k))]) (by decide) rfl dX6_as_60 ?_
            refine r_iload K rfl dX6_as_62 ?_
            refine n_if_eq K 86 (by omega) dX6_as_64 (by decide) (fun z => absurd z (by decide)) (fun _ => ?_)
            refine r_bipush K ((nI (100))) (by decide) dX6_as_67 ?_
            refine r_iload_n K 3 rfl rfl dX6_as_69 ?_
            refine r_iconst K ((nI (0))) (by decide) dX6_as_70 ?_
            refine r_iconst K ((nI (1))) (by decide) dX6_as_71 ?_
            refine r_callSp K (As := [.int (nI (T 8 (bN))), .int (nI (0)), .int (nI (1))]) ms_X4_pulled ml_RX6_121 (c_pulled (k := T 8 (bN)) (s := 1) (t := 0) (hT.2.2.2.2.2.2.1 _).2.2.2.1 (by decide) (by decide) (by decide)) rfl rfl (Nat.le_of_ble_eq_true rfl) ⟨by decide, by decide⟩ dX6_as_72 ?_
            refine r_imul K dX6_as_75 ?_
            refine r_topi (pk_mul _ _) ?_
            refine r_iload_n K 3 rfl rfl dX6_as_76 ?_
            refine r_iconst K ((nI (2))) (by decide) dX6_as_77 ?_
            refine r_iconst K ((nI (1))) (by decide) dX6_as_78 ?_
            refine r_callSp K (As := [.int (nI (T 8 (bN))), .int (nI (2)), .int (nI (1))]) ms_X4_pulled ml_RX6_121 (c_pulled (k := T 8 (bN)) (s := 1) (t := 2) (hT.2.2.2.2.2.2.1 _).2.2.2.1 (by decide) (by decide) (by decide)) rfl rfl (Nat.le_of_ble_eq_true rfl) ⟨by decide, by decide⟩ dX6_as_79 ?_
            refine r_iadd K dX6_as_82 ?_
            refine r_topi (nI_add _ _) ?_
            refine r_goto K 88 dX6_as_83 (by decide) ?_
            exact r_iret K hr (⟨by rw [asS, if_pos h8, if_pos (inS_mid (a := 0) (b := 4) h15 (Int32.not_lt.mpr h20)), e_bN, pull_as (hT.2.2.2.2.2.2.1 _).2.2.2.1]; rw [if_pos (by first | exact Or.inl h37 | exact Or.inr (Or.inl h42.symm) | exact Or.inr (Or.inr ⟨h47, h52⟩))], rfl, rfl⟩) dX6_as_88
          · refine r_iload_n K 2 rfl rfl dX6_as_45 ?_
            refine r_iconst K ((nI (3))) (by decide) dX6_as_46 ?_
            refine r_icmp_ne K 59 dX6_as_47 (by decide) (fun h47 => ?_) (fun h47 => ?_)
            · refine r_iconst K ((nI (0))) (by decide) dX6_as_59 ?_
              refine r_istore K (lv' := [(4, .int (nI (0))), (3, .int (nI (T 8 (bN)))), (0, .ref (ad 61)), (1, .int (nI (bN))), (2, .int (k))]) (by decide) rfl dX6_as_60 ?_
              refine r_iload K rfl dX6_as_62 ?_
              refine n_if_eq K 86 (by omega) dX6_as_64 (by decide) (fun _ => ?_) (fun z => absurd z (by decide))
              refine r_bipush K ((-4)) (by decide) dX6_as_86 ?_
              exact r_iret K hr (⟨by rw [asS, if_pos h8, if_pos (inS_mid (a := 0) (b := 4) h15 (Int32.not_lt.mpr h20)), e_bN]; rw [if_neg (fun z => by rcases z with z | z | z; exact h37 z; exact h42 z.symm; first | exact h47 z.1 | exact h52 z.2)], rfl, rfl⟩) dX6_as_88
            · refine r_iload_n K 3 rfl rfl dX6_as_50 ?_
              refine r_iconst K ((nI (4))) (by decide) dX6_as_51 ?_
              refine n_icmp_ne K 59 (by omega) (by omega) dX6_as_52 (by decide) (fun h52 => ?_) (fun h52 => ?_)
              · refine r_iconst K ((nI (0))) (by decide) dX6_as_59 ?_
                refine r_istore K (lv' := [(4, .int (nI (0))), (3, .int (nI (T 8 (bN)))), (0, .ref (ad 61)), (1, .int (nI (bN))), (2, .int (k))]) (by decide) rfl dX6_as_60 ?_
                refine r_iload K rfl dX6_as_62 ?_
                refine n_if_eq K 86 (by omega) dX6_as_64 (by decide) (fun _ => ?_) (fun z => absurd z (by decide))
                refine r_bipush K ((-4)) (by decide) dX6_as_86 ?_
                exact r_iret K hr (⟨by rw [asS, if_pos h8, if_pos (inS_mid (a := 0) (b := 4) h15 (Int32.not_lt.mpr h20)), e_bN]; rw [if_neg (fun z => by rcases z with z | z | z; exact h37 z; exact h42 z.symm; first | exact h47 z.1 | exact h52 z.2)], rfl, rfl⟩) dX6_as_88
              · refine r_iconst K ((nI (1))) (by decide) dX6_as_55 ?_
                refine r_goto K 60 dX6_as_56 (by decide) ?_
                refine r_istore K (lv' := [(4, .int (nI (1))), (3, .int (nI (T 8 (bN)))), (0, .ref (ad 61)), (1, .int (nI (bN))), (2, .int (k))]) (by decide) rfl dX6_as_60 ?_
                refine r_iload K rfl dX6_as_62 ?_
                refine n_if_eq K 86 (by omega) dX6_as_64 (by decide) (fun z => absurd z (by decide)) (fun _ => ?_)
                refine r_bipush K ((nI (100))) (by decide) dX6_as_67 ?_
                refine r_iload_n K 3 rfl rfl dX6_as_69 ?_
                refine r_iconst K ((nI (0))) (by decide) dX6_as_70 ?_
                refine r_iconst K ((nI (1))) (by decide) dX6_as_71 ?_
                refine r_callSp K (As := [.int (nI (T 8 (bN))), .int (nI (0)), .int (nI (1))]) ms_X4_pulled ml_RX6_121 (c_pulled (k := T 8 (bN)) (s := 1) (t := 0) (hT.2.2.2.2.2.2.1 _).2.2.2.1 (by decide) (by decide) (by decide)) rfl rfl (Nat.le_of_ble_eq_true rfl) ⟨by decide, by decide⟩ dX6_as_72 ?_
                refine r_imul K dX6_as_75 ?_
                refine r_topi (pk_mul _ _) ?_
                refine r_iload_n K 3 rfl rfl dX6_as_76 ?_
                refine r_iconst K ((nI (2))) (by decide) dX6_as_77 ?_
                refine r_iconst K ((nI (1))) (by decide) dX6_as_78 ?_
                refine r_callSp K (As := [.int (nI (T 8 (bN))), .int (nI (2)), .int (nI (1))]) ms_X4_pulled ml_RX6_121 (c_pulled (k := T 8 (bN)) (s := 1) (t := 2) (hT.2.2.2.2.2.2.1 _).2.2.2.1 (by decide) (by decide) (by decide)) rfl rfl (Nat.le_of_ble_eq_true rfl) ⟨by decide, by decide⟩ dX6_as_79 ?_
                refine r_iadd K dX6_as_82 ?_
                refine r_topi (nI_add _ _) ?_
                refine r_goto K 88 dX6_as_83 (by decide) ?_
                exact r_iret K hr (⟨by rw [asS, if_pos h8, if_pos (inS_mid (a := 0) (b := 4) h15 (Int32.not_lt.mpr h20)), e_bN, pull_as (hT.2.2.2.2.2.2.1 _).2.2.2.1]; rw [if_pos (by first | exact Or.inl h37 | exact Or.inr (Or.inl h42.symm) | exact Or.inr (Or.inr ⟨h47, h52⟩))], rfl, rfl⟩) dX6_as_88
      · refine r_bipush K ((-3)) (by decide) dX6_as_23 ?_
        exact r_iret K hr (⟨by rw [asS, if_pos h8, if_neg (by first | (rw [inS_lo (a := 0) h15 (by decide)]; decide) | (rw [inS_hi (Int32.not_le.mp h20) (by decide)]; decide))], rfl, rfl⟩) dX6_as_25
  · refine r_bipush K ((-2)) (by decide) dX6_as_11 ?_
    exact r_iret K hr (⟨by simp (decide := true) [asS, *], rfl, rfl⟩) dX6_as_13

set_option maxHeartbeats 400000 in
set_option maxRecDepth 10000 in
theorem c_yards {g : Gp} {lau : Launch} {ad : Nat → Nat} {σ : Sg} {T : Tv} (hT : TOk T) (hR : RepC T σ) (b r l h : Int32) : Con g lau yX6_yards cX6_yards 5 (Option.some .int) 2 49 [.ref (ad 61), .int (b), .int (r), .int (l), .int (h)] ad σ (pu (.int (yrdS T b r l h)) ad σ) := by
  refine con_mk (by decide) (Nat.le_of_ble_eq_true rfl) (fun x hxl K hr => ?_)
  subst hxl
  refine r_lv (lv' := [(0, .ref (ad 61)), (1, .int (b)), (2, .int (r)), (3, .int (l)), (4, .int (h))]) rfl ?_
  have hn8 := hT.2.1
  have hn9 := hT.2.2.1
  refine r_aload_n K 0 rfl rfl dX6_yards_0 ?_
  refine get_61_0 K fl_RX6_12 dX6_yards_1 ?_
  refine r_iload_n K 1 rfl rfl dX6_yards_4 ?_
  refine r_callVp K 62 (As := [.int (b)]) mv_X4_hasBarge ml_RX6_105 (c_hasBarge hT hR ((b))) (by decide) rfl rfl rfl rfl (Nat.le_of_ble_eq_true rfl) ⟨by decide, by decide⟩ dX6_yards_5 ?_
  refine b_if_eq K 37 dX6_yards_8 (by decide) (fun h8 => ?_) (fun h8 => ?_)
  · refine r_bipush K ((-2)) (by decide) dX6_yards_37 ?_
    exact r_iret K hr (⟨by simp (decide := true) [yrdS, *], rfl, rfl⟩) dX6_yards_39
  · obtain ⟨bN, h_bN, rfl, t_bN⟩ := hasB_t h8
    have e_bN : (nI bN).toInt.toNat = bN := nI_nat (by omega)
    refine r_aload_n K 0 rfl rfl dX6_yards_11 ?_
    refine get_61_0 K fl_RX6_12 dX6_yards_12 ?_
    refine r_iload_n K 2 rfl rfl dX6_yards_15 ?_
    refine r_callVp K 62 (As := [.int (r)]) mv_X4_hasReach ml_RX6_79 (c_hasReach hT hR ((r))) (by decide) rfl rfl rfl rfl (Nat.le_of_ble_eq_true rfl) ⟨by decide, by decide⟩ dX6_yards_16 ?_
    refine b_if_eq K 37 dX6_yards_19 (by decide) (fun h19 => ?_) (fun h19 => ?_)
    · refine r_bipush K ((-2)) (by decide) dX6_yards_37 ?_
      exact r_iret K hr (⟨by simp (decide := true) [yrdS, *], rfl, rfl⟩) dX6_yards_39
    · obtain ⟨rN, h_rN, rfl⟩ := hasR_t h19
      have e_rN : (nI rN).toInt.toNat = rN := nI_nat (by omega)
      refine r_iload_n K 3 rfl rfl dX6_yards_22 ?_
      refine r_callSp K (As := [.int (l)]) ms_X6_isLayer ml_RX6_93 (c_isLayer ((l))) rfl rfl (Nat.le_of_ble_eq_true rfl) ⟨by decide, by decide⟩ dX6_yards_23 ?_
      refine b_if_eq K 37 dX6_yards_26 (by decide) (fun h26 => ?_) (fun h26 => ?_)
      · refine r_bipush K ((-2)) (by decide) dX6_yards_37 ?_
        exact r_iret K hr (⟨by simp (decide := true) [yrdS, *], rfl, rfl⟩) dX6_yards_39
      · obtain ⟨lN, h_lN, rfl⟩ := isL_t h26
        have e_lN : (nI lN).toInt.toNat = lN := nI_nat (by omega)
        refine r_iload K rfl dX6_yards_29 ?_
        refine r_callSp K (As := [.int (h)]) ms_X6_isHour ml_RX6_96 (c_isHour ((h))) rfl rfl (Nat.le_of_ble_eq_true rfl) ⟨by decide, by decide⟩ dX6_yards_31 ?_
        refine b_if_ne K 40 dX6_yards_34 (by decide) (fun h34 => ?_) (fun h34 => ?_)
        · obtain ⟨hN, h_hN, rfl⟩ := isH_t h34
          have e_hN : (nI hN).toInt.toNat = hN := nI_nat (by omega)
          refine r_aload_n K 0 rfl rfl dX6_yards_40 ?_
          refine get_61_0 K fl_RX6_12 dX6_yards_41 ?_
          refine r_iload_n K 1 rfl rfl dX6_yards_44 ?_
          refine r_iload_n K 2 rfl rfl dX6_yards_45 ?_
          refine r_iload_n K 3 rfl rfl dX6_yards_46 ?_
          refine r_iload K rfl dX6_yards_47 ?_
          refine r_callVp K 62 (As := [.int (nI (bN)), .int (nI (rN)), .int (nI (lN)), .int (nI (hN))]) mv_X4_stepOf ml_RX6_125 (c_stepOf hT hR (b := bN) (r := rN) (l := lN) (h := hN) (by omega) (by omega) (by omega) (by omega)) (by decide) rfl rfl rfl rfl (Nat.le_of_ble_eq_true rfl) ⟨by decide, by decide⟩ dX6_yards_49 ?_
          have hst := stepS_le hT bN rN lN hN
          exact r_iret K hr (⟨by simp (decide := true) [yrdS, *], rfl, rfl⟩) dX6_yards_52
        · refine r_bipush K ((-2)) (by decide) dX6_yards_37 ?_
          exact r_iret K hr (⟨by simp (decide := true) [yrdS, *], rfl, rfl⟩) dX6_yards_39

set_option maxHeartbeats 400000 in
set_option maxRecDepth 10000 in
theorem c_at {g : Gp} {lau : Launch} {ad : Nat → Nat} {σ : Sg} {T F : Tv} (hT : TOk T) (hR : RepC T σ) (hV : FOk T F) (hF : RepF 12 10 F σ) (b w : Int32) : Con g lau yX6_at cX6_at 4 (Option.some .int) 1 21 [.ref (ad 61), .int (b), .int (w)] ad σ (pu (.int (atS T F b w)) ad σ) := by
  refine con_mk (by decide) (Nat.le_of_ble_eq_true rfl) (fun x hxl K hr => ?_)
  subst hxl
  refine r_lv (lv' := [(0, .ref (ad 61)), (1, .int (b)), (2, .int (w))]) rfl ?_
  have hn8 := hT.2.1
  have hn9 := hT.2.2.1
  have hh24 := hV.2.2.1
  refine r_aload_n K 0 rfl rfl dX6_at_0 ?_
  refine get_61_0 K fl_RX6_12 dX6_at_1 ?_
  refine r_iload_n K 1 rfl rfl dX6_at_4 ?_
  refine r_callVp K 62 (As := [.int (b)]) mv_X4_hasBarge ml_RX6_105 (c_hasBarge hT hR ((b))) (by decide) rfl rfl rfl rfl (Nat.le_of_ble_eq_true rfl) ⟨by decide, by decide⟩ dX6_at_5 ?_
  refine b_if_ne K 14 dX6_at_8 (by decide) (fun h8 => ?_) (fun h8 => ?_)
  · obtain ⟨bN, h_bN, rfl, t_bN⟩ := hasB_t h8
    have e_bN : (nI bN).toInt.toNat = bN := nI_nat (by omega)
    refine r_aload_n K 0 rfl rfl dX6_at_14 ?_
    refine get_61_2 K fl_RX6_26 dX6_at_15 ?_
    refine get_64_1 K fl_RX6_137 dX6_at_18 ?_
    refine r_iload_n K 1 rfl rfl dX6_at_21 ?_
    refine r_iald K 12 (n := 4) (by decide) rfl rfl (by decide) (by omega) dX6_at_22 ?_
    refine r_topi (b := (nI (F 0 bN))) (hF.1 0 (by decide) (bN) (by omega)) ?_
    refine r_istore_n K (lv' := [(3, .int (nI (F 0 bN))), (0, .ref (ad 61)), (1, .int (nI (bN))), (2, .int (w))]) 3 rfl (by decide) rfl dX6_at_23 ?_
    have hv0 := (hV.1 bN).1
    refine r_iload_n K 2 rfl rfl dX6_at_24 ?_
    by_cases q25_0 : w = nI 0
    · subst q25_0
      refine r_tableIn K 60 dX6_at_25 (by decide) (by decide) rfl (by decide) ?_
      refine r_iload_n K 3 rfl rfl dX6_at_60 ?_
      refine r_sipush K ((nI (160))) (by decide) dX6_at_61 ?_
      refine n_icmp_ne K 71 (by omega) (by omega) dX6_at_64 (by decide) (fun h64 => ?_) (fun h64 => ?_)
      · refine r_iload_n K 3 rfl rfl dX6_at_71 ?_
        refine r_bipush K ((nI (20))) (by decide) dX6_at_72 ?_
        refine r_idiv K (nI_ne0 (by omega) (by omega)) dX6_at_74 ?_
        refine r_topi (pk_div (by omega) (by omega) (by omega)) ?_
        exact r_iret K hr (⟨by simp (decide := true) [atS, *], rfl, rfl⟩) dX6_at_75
      · refine r_iconst K ((-1)) (by decide) dX6_at_67 ?_
        refine r_goto K 75 dX6_at_68 (by decide) ?_
        exact r_iret K hr (⟨by simp (decide := true) [atS, *], rfl, rfl⟩) dX6_at_75
    · by_cases q25_1 : w = nI 1
      · subst q25_1
        refine r_tableIn K 76 dX6_at_25 (by decide) (by decide) rfl (by decide) ?_
        refine r_iload_n K 3 rfl rfl dX6_at_76 ?_
        refine r_bipush K ((nI (20))) (by decide) dX6_at_77 ?_
        refine r_irem K (nI_ne0 (by omega) (by omega)) dX6_at_79 ?_
        refine r_topi (pk_rem (by omega) (by omega) (by omega)) ?_
        exact r_iret K hr (⟨by simp (decide := true) [atS, *], rfl, rfl⟩) dX6_at_80
      · by_cases q25_2 : w = nI 2
        · subst q25_2
          refine r_tableIn K 81 dX6_at_25 (by decide) (by decide) rfl (by decide) ?_
          refine r_aload_n K 0 rfl rfl dX6_at_81 ?_
          refine get_61_2 K fl_RX6_26 dX6_at_82 ?_
          refine get_64_2 K fl_RX6_154 dX6_at_85 ?_
          refine r_iload_n K 1 rfl rfl dX6_at_88 ?_
          refine r_iald K 13 (n := 4) (by decide) rfl rfl (by decide) (by omega) dX6_at_89 ?_
          refine r_topi (b := (nI (F 1 bN))) (hF.1 1 (by decide) (bN) (by omega)) ?_
          exact r_iret K hr (⟨by simp (decide := true) [atS, *], rfl, rfl⟩) dX6_at_90
        · by_cases q25_3 : w = nI 3
          · subst q25_3
            refine r_tableIn K 91 dX6_at_25 (by decide) (by decide) rfl (by decide) ?_
            refine r_aload_n K 0 rfl rfl dX6_at_91 ?_
            refine get_61_2 K fl_RX6_26 dX6_at_92 ?_
            refine get_64_4 K fl_RX6_157 dX6_at_95 ?_
            refine r_iload_n K 1 rfl rfl dX6_at_98 ?_
            refine r_iald K 15 (n := 4) (by decide) rfl rfl (by decide) (by omega) dX6_at_99 ?_
            refine r_topi (b := (nI (F 3 bN))) (hF.1 3 (by decide) (bN) (by omega)) ?_
            exact r_iret K hr (⟨by simp (decide := true) [atS, *], rfl, rfl⟩) dX6_at_100
          · by_cases q25_4 : w = nI 4
            · subst q25_4
              refine r_tableIn K 101 dX6_at_25 (by decide) (by decide) rfl (by decide) ?_
              refine r_aload_n K 0 rfl rfl dX6_at_101 ?_
              refine get_61_2 K fl_RX6_26 dX6_at_102 ?_
              refine get_64_5 K fl_RX6_160 dX6_at_105 ?_
              refine r_iload_n K 1 rfl rfl dX6_at_108 ?_
              refine r_iald K 16 (n := 4) (by decide) rfl rfl (by decide) (by omega) dX6_at_109 ?_
              refine r_topi (b := (nI (F 4 bN))) (hF.1 4 (by decide) (bN) (by omega)) ?_
              exact r_iret K hr (⟨by simp (decide := true) [atS, *], rfl, rfl⟩) dX6_at_110
            · refine r_tableOut K 111 dX6_at_25 (sw_out (n := 4) (fun j hj => by rcases (show j = 0 ∨ j = 1 ∨ j = 2 ∨ j = 3 ∨ j = 4 by omega) with rfl | rfl | rfl | rfl | rfl <;> assumption)) (by decide) ?_
              refine r_bipush K ((-3)) (by decide) dX6_at_111 ?_
              exact r_iret K hr (⟨by simp (decide := true) [atS, *], rfl, rfl⟩) dX6_at_113
  · refine r_bipush K ((-2)) (by decide) dX6_at_11 ?_
    exact r_iret K hr (⟨by simp (decide := true) [atS, *], rfl, rfl⟩) dX6_at_13

set_option maxHeartbeats 400000 in
set_option maxRecDepth 10000 in
theorem c_toldBits {g : Gp} {lau : Launch} {ad : Nat → Nat} {σ : Sg} {T : Tv} (hT : TOk T) (hR : RepC T σ) : Con g lau yX4_toldBits cX4_toldBits 3 (Option.some .int) 0 0 [.ref (ad 62)] ad σ (pu (.int (nI (tbits T))) ad σ) := by
  refine con_mk (by decide) (Nat.le_of_ble_eq_true rfl) (fun x hxl K hr => ?_)
  subst hxl
  refine r_lv (lv' := [(0, .ref (ad 62))]) rfl ?_
  have hn8 := hT.2.1
  have hn9 := hT.2.2.1
  refine r_iconst K ((nI (0))) (by decide) dX4_toldBits_0 ?_
  refine r_istore_n K (lv' := [(1, .int (nI (0))), (0, .ref (ad 62))]) 1 rfl (by decide) rfl dX4_toldBits_1 ?_
  refine r_iconst K ((nI (0))) (by decide) dX4_toldBits_2 ?_
  refine r_istore_n K (lv' := [(2, .int (nI (0))), (1, .int (nI (0))), (0, .ref (ad 62))]) 2 rfl (by decide) rfl dX4_toldBits_3 ?_
  refine r_pick [2, 1, 0] (lv' := [(0, .ref (ad 62)), (1, .int (nI (0))), (2, .int (nI (0)))]) rfl ?_
  have lpA : ∀ (mm_ : Nat) (i : Nat), mm_ = 4 - i → (i ≤ 4) → GJ g x 3 4 [(0, .ref (ad 62)), (1, .int (nI (bitS (toldF T) i))), (2, .int (nI (i)))] [] ad (σ) := by
    intro mm_
    induction mm_ using Nat.strongRecOn with
    | _ mm_ ihA =>
      intro i hmA hi
      refine r_iload_n K 2 rfl rfl dX4_toldBits_4 ?_
      refine r_iconst K ((nI (4))) (by decide) dX4_toldBits_5 ?_
      refine n_icmp_ge K 34 (by omega) (by omega) dX4_toldBits_6 (by decide) (fun h6 => ?_) (fun h6 => ?_)
      · refine r_iload_n K 1 rfl rfl dX4_toldBits_34 ?_
        exact r_iret K hr (⟨by rw [show i = 4 by omega, tbits_bitS hT], rfl, rfl⟩) dX4_toldBits_35
      · refine r_iload_n K 1 rfl rfl dX4_toldBits_9 ?_
        refine r_aload_n K 0 rfl rfl dX4_toldBits_10 ?_
        refine get_62_7 K fl_RX4_34 dX4_toldBits_11 ?_
        refine r_iload_n K 2 rfl rfl dX4_toldBits_14 ?_
        refine r_zald K 5 (n := 4) (by decide) rfl rfl (by decide) (by omega) dX4_toldBits_15 ?_
        have hq184 : T 5 (i) < 256 := hT.1 5 (i)
        refine r_topi (b := (nI (T 5 (i)))) (hR.2.2 5 (by decide) (i) (show i < 4 by omega)) ?_
        refine n_if_eq K 25 (by omega) dX4_toldBits_16 (by decide) (fun h16 => ?_) (fun h16 => ?_)
        · refine r_iconst K ((nI (0))) (by decide) dX4_toldBits_25 ?_
          refine r_ior K dX4_toldBits_26 ?_
          refine r_topi (b := (nI (bitS (toldF T) (i + 1)))) (bitS_f0 (by omega) (decide_eq_false (by omega))) ?_
          refine r_istore_n K (lv' := [(1, .int (nI (bitS (toldF T) (i + 1)))), (0, .ref (ad 62)), (2, .int (nI (i)))]) 1 rfl (by decide) rfl dX4_toldBits_27 ?_
          refine r_iinc K ((nI (i + 1))) rfl (nI_1 _) (lv' := [(2, .int (nI (i + 1))), (1, .int (nI (bitS (toldF T) (i + 1)))), (0, .ref (ad 62))]) (by decide) rfl dX4_toldBits_28 ?_
          refine r_goto K 4 dX4_toldBits_31 (by decide) ?_
          refine r_pick [2, 1, 0] (lv' := [(0, .ref (ad 62)), (1, .int (nI (bitS (toldF T) (i + 1)))), (2, .int (nI (i + 1)))]) rfl ?_
          exact ihA _ (by omega) (i + 1) rfl (by omega)
        · refine r_iconst K ((nI (1))) (by decide) dX4_toldBits_19 ?_
          refine r_iload_n K 2 rfl rfl dX4_toldBits_20 ?_
          refine r_ishl K dX4_toldBits_21 ?_
          refine r_topi (b := (nI (2 ^ i))) (nI_shl1 (by omega)) ?_
          refine r_goto K 26 dX4_toldBits_22 (by decide) ?_
          refine r_ior K dX4_toldBits_26 ?_
          refine r_topi (b := (nI (bitS (toldF T) (i + 1)))) (bitS_t (by omega) (decide_eq_true (by have := (hT.2.2.2.2.2.2.1 i).1; omega))) ?_
          refine r_istore_n K (lv' := [(1, .int (nI (bitS (toldF T) (i + 1)))), (0, .ref (ad 62)), (2, .int (nI (i)))]) 1 rfl (by decide) rfl dX4_toldBits_27 ?_
          refine r_iinc K ((nI (i + 1))) rfl (nI_1 _) (lv' := [(2, .int (nI (i + 1))), (1, .int (nI (bitS (toldF T) (i + 1)))), (0, .ref (ad 62))]) (by decide) rfl dX4_toldBits_28 ?_
          refine r_goto K 4 dX4_toldBits_31 (by decide) ?_
          refine r_pick [2, 1, 0] (lv' := [(0, .ref (ad 62)), (1, .int (nI (bitS (toldF T) (i + 1)))), (2, .int (nI (i + 1)))]) rfl ?_
          exact ihA _ (by omega) (i + 1) rfl (by omega)
  exact lpA _ (0) rfl (Nat.zero_le _)

set_option maxHeartbeats 400000 in
set_option maxRecDepth 10000 in
theorem c_count {g : Gp} {lau : Launch} {ad : Nat → Nat} {σ : Sg} {T F : Tv} (hT : TOk T) (hR : RepC T σ) (hV : FOk T F) (hF : RepF 12 10 F σ) {X : Tv} (hX : RepX 2 10 X σ) (w : Int32) : Con g lau yX6_count cX6_count 2 (Option.some .int) 1 22 [.ref (ad 61), .int (w)] ad σ (pu (.int (cntS T X F w)) ad σ) := by
  refine con_mk (by decide) (Nat.le_of_ble_eq_true rfl) (fun x hxl K hr => ?_)
  subst hxl
  refine r_lv (lv' := [(0, .ref (ad 61)), (1, .int (w))]) rfl ?_
  have hn8 := hT.2.1
  have hn9 := hT.2.2.1
  have hh24 := hV.2.2.1
  refine r_iload_n K 1 rfl rfl dX6_count_0 ?_
  by_cases q1_0 : w = nI 0
  · subst q1_0
    refine r_tableIn K 40 dX6_count_1 (by decide) (by decide) rfl (by decide) ?_
    refine r_aload_n K 0 rfl rfl dX6_count_40 ?_
    refine get_61_0 K fl_RX6_12 dX6_count_41 ?_
    refine get_62_0 K fl_RX6_221 dX6_count_44 ?_
    refine r_topi (b := (nI (T 10 0))) (hR.1) ?_
    exact r_iret K hr (⟨by simp (decide := true) [cntS, *], rfl, rfl⟩) dX6_count_47
  · by_cases q1_1 : w = nI 1
    · subst q1_1
      refine r_tableIn K 48 dX6_count_1 (by decide) (by decide) rfl (by decide) ?_
      refine r_aload_n K 0 rfl rfl dX6_count_48 ?_
      refine get_61_0 K fl_RX6_12 dX6_count_49 ?_
      refine r_callVp K 62 (As := []) mv_X4_toldBits ml_RX6_227 (c_toldBits hT hR) (by decide) rfl rfl rfl rfl (Nat.le_of_ble_eq_true rfl) ⟨by decide, by decide⟩ dX6_count_52 ?_
      exact r_iret K hr (⟨by simp (decide := true) [cntS, *], rfl, rfl⟩) dX6_count_55
    · by_cases q1_2 : w = nI 2
      · subst q1_2
        refine r_tableIn K 56 dX6_count_1 (by decide) (by decide) rfl (by decide) ?_
        refine r_aload_n K 0 rfl rfl dX6_count_56 ?_
        refine get_61_0 K fl_RX6_12 dX6_count_57 ?_
        refine get_62_1 K fl_RX6_230 dX6_count_60 ?_
        refine r_topi (b := (nI (T 11 0))) (hR.2.1) ?_
        exact r_iret K hr (⟨by simp (decide := true) [cntS, *], rfl, rfl⟩) dX6_count_63
      · by_cases q1_3 : w = nI 3
        · subst q1_3
          refine r_tableIn K 64 dX6_count_1 (by decide) (by decide) rfl (by decide) ?_
          refine r_aload_n K 0 rfl rfl dX6_count_64 ?_
          refine get_61_2 K fl_RX6_26 dX6_count_65 ?_
          refine get_64_0 K fl_RX6_140 dX6_count_68 ?_
          refine r_topi (b := (nI (F 5 0))) (hF.2) ?_
          exact r_iret K hr (⟨by simp (decide := true) [cntS, *], rfl, rfl⟩) dX6_count_71
        · by_cases q1_4 : w = nI 4
          · subst q1_4
            refine r_tableIn K 72 dX6_count_1 (by decide) (by decide) rfl (by decide) ?_
            refine r_aload_n K 0 rfl rfl dX6_count_72 ?_
            refine get_61_1 K fl_RX6_19 dX6_count_73 ?_
            refine get_63_0 K fl_RX6_58 dX6_count_76 ?_
            refine r_topi (b := (nI (X 0 0))) (hX.1) ?_
            exact r_iret K hr (⟨by simp (decide := true) [cntS, *], rfl, rfl⟩) dX6_count_79
          · by_cases q1_5 : w = nI 5
            · subst q1_5
              refine r_tableIn K 80 dX6_count_1 (by decide) (by decide) rfl (by decide) ?_
              refine r_aload_n K 0 rfl rfl dX6_count_80 ?_
              refine get_61_0 K fl_RX6_12 dX6_count_81 ?_
              refine r_callVp K 62 (As := []) mv_X4_wholeLength ml_RX6_233 (c_wholeLength hT hR) (by decide) rfl rfl rfl rfl (Nat.le_of_ble_eq_true rfl) ⟨by decide, by decide⟩ dX6_count_84 ?_
              exact r_iret K hr (⟨by simp (decide := true) [cntS, *], rfl, rfl⟩) dX6_count_87
            · refine r_tableOut K 88 dX6_count_1 (sw_out (n := 5) (fun j hj => by rcases (show j = 0 ∨ j = 1 ∨ j = 2 ∨ j = 3 ∨ j = 4 ∨ j = 5 by omega) with rfl | rfl | rfl | rfl | rfl | rfl <;> assumption)) (by decide) ?_
              refine r_bipush K ((-3)) (by decide) dX6_count_88 ?_
              exact r_iret K hr (⟨by simp (decide := true) [cntS, *], rfl, rfl⟩) dX6_count_90

set_option maxHeartbeats 400000 in
set_option maxRecDepth 10000 in
theorem c_knots {g : Gp} {lau : Launch} {ad : Nat → Nat} {σ : Sg} {T F : Tv} (hT : TOk T) (hR : RepC T σ) (hV : FOk T F) (hF : RepF 12 10 F σ) (b : Int32) : Con g lau yX6_knots cX6_knots 4 (Option.some .int) 3 69 [.ref (ad 61), .int (b)] ad σ (pu (.int (knS T F b)) ad σ) := by
  refine con_mk (by decide) (Nat.le_of_ble_eq_true rfl) (fun x hxl K hr => ?_)
  subst hxl
  refine r_lv (lv' := [(0, .ref (ad 61)), (1, .int (b))]) rfl ?_
  have hn8 := hT.2.1
  have hn9 := hT.2.2.1
  have hh24 := hV.2.2.1
  refine r_aload_n K 0 rfl rfl dX6_knots_0 ?_
  refine get_61_0 K fl_RX6_12 dX6_knots_1 ?_
  refine r_iload_n K 1 rfl rfl dX6_knots_4 ?_
  refine r_callVp K 62 (As := [.int (b)]) mv_X4_hasBarge ml_RX6_105 (c_hasBarge hT hR ((b))) (by decide) rfl rfl rfl rfl (Nat.le_of_ble_eq_true rfl) ⟨by decide, by decide⟩ dX6_knots_5 ?_
  refine b_if_ne K 14 dX6_knots_8 (by decide) (fun h8 => ?_) (fun h8 => ?_)
  · obtain ⟨bN, h_bN, rfl, t_bN⟩ := hasB_t h8
    have e_bN : (nI bN).toInt.toNat = bN := nI_nat (by omega)
    refine r_iconst K ((nI (0))) (by decide) dX6_knots_14 ?_
    refine r_istore_n K (lv' := [(2, .int (nI (0))), (0, .ref (ad 61)), (1, .int (nI (bN)))]) 2 rfl (by decide) rfl dX6_knots_15 ?_
    refine r_iconst K ((nI (0))) (by decide) dX6_knots_16 ?_
    refine r_istore_n K (lv' := [(3, .int (nI (0))), (2, .int (nI (0))), (0, .ref (ad 61)), (1, .int (nI (bN)))]) 3 rfl (by decide) rfl dX6_knots_17 ?_
    refine r_pick [2, 3, 1, 0] (lv' := [(0, .ref (ad 61)), (1, .int (nI (bN))), (2, .int (nI (0))), (3, .int (nI (0)))]) rfl ?_
    have lpA : ∀ (mm_ : Nat) (i : Nat), mm_ = 4 - i → (i ≤ 4) → GJ g x 4 18 [(0, .ref (ad 61)), (1, .int (nI (bN))), (2, .int (nI (bitS (knF T F bN) i))), (3, .int (nI (i)))] [] ad (σ) := by
      intro mm_
      induction mm_ using Nat.strongRecOn with
      | _ mm_ ihA =>
        intro i hmA hi
        refine r_iload_n K 3 rfl rfl dX6_knots_18 ?_
        refine r_iconst K ((nI (4))) (by decide) dX6_knots_19 ?_
        refine n_icmp_ge K 64 (by omega) (by omega) dX6_knots_20 (by decide) (fun h20 => ?_) (fun h20 => ?_)
        · refine r_iload_n K 2 rfl rfl dX6_knots_64 ?_
          exact r_iret K hr (⟨by rw [knS, if_pos h8, e_bN, show i = 4 by omega], rfl, rfl⟩) dX6_knots_65
        · refine r_iload_n K 3 rfl rfl dX6_knots_23 ?_
          refine r_iload_n K 1 rfl rfl dX6_knots_24 ?_
          refine n_icmp_eq K 58 (by omega) (by omega) dX6_knots_25 (by decide) (fun h25 => ?_) (fun h25 => ?_)
          · refine r_lv (lv' := [(0, .ref (ad 61)), (1, .int (nI (bN))), (2, .int (nI (bitS (knF T F bN) (i + 1)))), (3, .int (nI (i)))]) (by rw [bitS_f (f := knF T F bN) (b := i) (by simp [knF, *])]) ?_
            refine r_iinc K ((nI (i + 1))) rfl (nI_1 _) (lv' := [(3, .int (nI (i + 1))), (0, .ref (ad 61)), (1, .int (nI (bN))), (2, .int (nI (bitS (knF T F bN) (i + 1))))]) (by decide) rfl dX6_knots_58 ?_
            refine r_goto K 18 dX6_knots_61 (by decide) ?_
            refine r_pick [1, 2, 3, 0] (lv' := [(0, .ref (ad 61)), (1, .int (nI (bN))), (2, .int (nI (bitS (knF T F bN) (i + 1)))), (3, .int (nI (i + 1)))]) rfl ?_
            exact ihA _ (by omega) (i + 1) rfl (by omega)
          · refine r_aload_n K 0 rfl rfl dX6_knots_28 ?_
            refine get_61_0 K fl_RX6_12 dX6_knots_29 ?_
            refine get_62_7 K fl_RX6_163 dX6_knots_32 ?_
            refine r_iload_n K 3 rfl rfl dX6_knots_35 ?_
            refine r_zald K 5 (n := 4) (by decide) rfl rfl (by decide) (by omega) dX6_knots_36 ?_
            have hq189 : T 5 (i) < 256 := hT.1 5 (i)
            refine r_topi (b := (nI (T 5 (i)))) (hR.2.2 5 (by decide) (i) (show i < 4 by omega)) ?_
            refine n_if_eq K 58 (by omega) dX6_knots_37 (by decide) (fun h37 => ?_) (fun h37 => ?_)
            · refine r_lv (lv' := [(0, .ref (ad 61)), (1, .int (nI (bN))), (2, .int (nI (bitS (knF T F bN) (i + 1)))), (3, .int (nI (i)))]) (by rw [bitS_f (f := knF T F bN) (b := i) (by simp [knF, *])]) ?_
              refine r_iinc K ((nI (i + 1))) rfl (nI_1 _) (lv' := [(3, .int (nI (i + 1))), (0, .ref (ad 61)), (1, .int (nI (bN))), (2, .int (nI (bitS (knF T F bN) (i + 1))))]) (by decide) rfl dX6_knots_58 ?_
              refine r_goto K 18 dX6_knots_61 (by decide) ?_
              refine r_pick [1, 2, 3, 0] (lv' := [(0, .ref (ad 61)), (1, .int (nI (bN))), (2, .int (nI (bitS (knF T F bN) (i + 1)))), (3, .int (nI (i + 1)))]) rfl ?_
              exact ihA _ (by omega) (i + 1) rfl (by omega)
            · refine r_aload_n K 0 rfl rfl dX6_knots_40 ?_
              refine get_61_2 K fl_RX6_26 dX6_knots_41 ?_
              refine r_iload_n K 1 rfl rfl dX6_knots_44 ?_
              refine r_iload_n K 3 rfl rfl dX6_knots_45 ?_
              refine r_callVp K 64 (As := [.int (nI (bN)), .int (nI (i))]) mv_X0_areKnotted ml_RX6_166 (c_areKnotted hT hV hF (b := bN) (c := i) (by omega) (by omega)) (by decide) rfl rfl rfl rfl (Nat.le_of_ble_eq_true rfl) ⟨by decide, by decide⟩ dX6_knots_46 ?_
              refine b_if_eq K 58 dX6_knots_49 (by decide) (fun h49 => ?_) (fun h49 => ?_)
              · refine r_lv (lv' := [(0, .ref (ad 61)), (1, .int (nI (bN))), (2, .int (nI (bitS (knF T F bN) (i + 1)))), (3, .int (nI (i)))]) (by rw [bitS_f (f := knF T F bN) (b := i) (by simp [knF, *])]) ?_
                refine r_iinc K ((nI (i + 1))) rfl (nI_1 _) (lv' := [(3, .int (nI (i + 1))), (0, .ref (ad 61)), (1, .int (nI (bN))), (2, .int (nI (bitS (knF T F bN) (i + 1))))]) (by decide) rfl dX6_knots_58 ?_
                refine r_goto K 18 dX6_knots_61 (by decide) ?_
                refine r_pick [1, 2, 3, 0] (lv' := [(0, .ref (ad 61)), (1, .int (nI (bN))), (2, .int (nI (bitS (knF T F bN) (i + 1)))), (3, .int (nI (i + 1)))]) rfl ?_
                exact ihA _ (by omega) (i + 1) rfl (by omega)
              · refine r_iload_n K 2 rfl rfl dX6_knots_52 ?_
                refine r_iconst K ((nI (1))) (by decide) dX6_knots_53 ?_
                refine r_iload_n K 3 rfl rfl dX6_knots_54 ?_
                refine r_ishl K dX6_knots_55 ?_
                refine r_topi (b := (nI (2 ^ i))) (nI_shl1 (by omega)) ?_
                refine r_ior K dX6_knots_56 ?_
                refine r_topi (b := (nI (bitS (knF T F bN) (i + 1)))) (bitS_t (by omega) (by have := (hT.2.2.2.2.2.2.1 i).1; simp [knF, *]; omega)) ?_
                refine r_istore_n K (lv' := [(2, .int (nI (bitS (knF T F bN) (i + 1)))), (0, .ref (ad 61)), (1, .int (nI (bN))), (3, .int (nI (i)))]) 2 rfl (by decide) rfl dX6_knots_57 ?_
                refine r_iinc K ((nI (i + 1))) rfl (nI_1 _) (lv' := [(3, .int (nI (i + 1))), (2, .int (nI (bitS (knF T F bN) (i + 1)))), (0, .ref (ad 61)), (1, .int (nI (bN)))]) (by decide) rfl dX6_knots_58 ?_
                refine r_goto K 18 dX6_knots_61 (by decide) ?_
                refine r_pick [2, 3, 1, 0] (lv' := [(0, .ref (ad 61)), (1, .int (nI (bN))), (2, .int (nI (bitS (knF T F bN) (i + 1)))), (3, .int (nI (i + 1)))]) rfl ?_
                exact ihA _ (by omega) (i + 1) rfl (by omega)
    exact lpA _ (0) rfl (Nat.zero_le _)
  · refine r_bipush K ((-2)) (by decide) dX6_knots_11 ?_
    exact r_iret K hr (⟨by simp (decide := true) [knS, *], rfl, rfl⟩) dX6_knots_13
