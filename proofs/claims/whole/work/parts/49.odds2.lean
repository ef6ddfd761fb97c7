def rfS (T : Tv) (b n p z most : Int32) : Int32 := if hasB T b = true then (if oddsOk n most p z = true then nI 0 else -3) else -2
def trm (a n : Nat) (z : Nat) : Int64 := lN (gcS a (10 ^ n) (if z = 0 then a else 10 ^ n))
noncomputable def odS (T : Tv) (b n p z : Int32) : Int64 := if hasB T b = true then (if oddsOk n (nI 8) p z = true then (if plS T b.toInt.toNat kn0 0 = none then -4 else trm (rowV T b.toInt.toNat p.toInt.toNat (keptL (oL (plS T b.toInt.toNat kn0 0))) n.toInt.toNat 0 (startS T)) n.toInt.toNat z.toInt.toNat) else -3) else -2
def sgS (T : Tv) (b n p z : Int32) : Int64 := if hasB T b = true then (if oddsOk n (nI 8) p z = true then trm (seeV T b.toInt.toNat p.toInt.toNat n.toInt.toNat 0 (startS T) 0) n.toInt.toNat z.toInt.toNat else -3) else -2
noncomputable def bdS (T : Tv) (b n p z : Int32) : Int64 := if hasB T b = true then (if oddsOk n (nI 4) p z = true then trm (blV T b.toInt.toNat p.toInt.toNat n.toInt.toNat) n.toInt.toNat z.toInt.toNat else -3) else -2
noncomputable def wtS (T : Tv) (b n p z : Int32) : Int64 := if hasB T b = true then (if oddsOk n (nI 4) p z = true then trm (seeV T b.toInt.toNat p.toInt.toNat n.toInt.toNat 0 (startS T) 0 - blV T b.toInt.toNat p.toInt.toNat n.toInt.toNat) n.toInt.toNat z.toInt.toNat else -3) else -2
theorem odds_t {n p z : Int32} {M : Nat} (hM : M < 2 ^ 31) (h : oddsOk n (nI M) p z = true) : ∃ nN pN zN, nN ≤ M ∧ pN ≤ 10 ∧ zN ≤ 1 ∧ n = nI nN ∧ p = nI pN ∧ z = nI zN := by
  unfold oddsOk at h
  rw [Bool.and_eq_true, Bool.and_eq_true] at h
  obtain ⟨h1, h2, h3⟩ := h
  obtain ⟨a, -, ha, rfl⟩ := inS_t (by decide) hM h1
  obtain ⟨b, -, hb, rfl⟩ := inS_t (by decide) (by decide) h2
  obtain ⟨c, -, hc, rfl⟩ := inS_t (by decide) (by decide) h3
  exact ⟨a, b, c, ha, hb, hc, rfl, rfl, rfl⟩
def adC (ad a2 : Nat → Nat) : Prop := ∀ k, k ∉ [35, 36, 37, 38, 41, 42] → a2 k = ad k
def cE (σ s2 : Sg) : Prop := same [28, 29, 33, 34, 35, 36, 37, 38, 39, 41, 42, 43] [] [30, 35, 36, 37, 38, 40, 41, 42, 44, 45] false σ s2
theorem adC_E {ad a2 : Nat → Nat} (h : adE ad a2) : adC ad a2 := fun k hk => h k (fun z => hk (by simp at z ⊢; omega))
theorem adC_X {ad a2 : Nat → Nat} (h : adX ad a2) : adC ad a2 := fun k hk => h k (fun z => hk (by simp at z ⊢; omega))
theorem adC_rf (ad : Nat → Nat) : adC ad ad := fun _ _ => rfl
theorem cE_p {σ s : Sg} (h : plE σ s) : cE σ s := same_w h (by simp) (by simp) (by simp) id
theorem cE_l {σ s : Sg} (h : llE σ s) : cE σ s := same_w h (by simp) (by simp) (by simp) id
theorem llE_P {T : Tv} {σ s : Sg} (h : RepP T σ) (hs : llE σ s) : RepP T s := RepP_same h hs (by simp) (by simp)
theorem inS_01 {z : Int32} (h1 : ¬ z = 0) (h2 : z ≠ nI 1) : inS z (nI 0) (nI 1) = false := by
  cases e : inS z (nI 0) (nI 1) with
  | false => rfl
  | true =>
    obtain ⟨m, h3, h4, rfl⟩ := inS_t (by decide) (by decide) e
    rcases (show m = 0 ∨ m = 1 by omega) with rfl | rfl
    · exact absurd rfl h1
    · exact absurd rfl h2
set_option maxHeartbeats 400000 in
set_option maxRecDepth 10000 in
theorem c_oddsRefused {g : Gp} {lau : Launch} {ad : Nat → Nat} {σ : Sg} {T : Tv} (hT : TOk T) (hR : RepC T σ) (b n p z : Int32) {M : Nat} (hM : M < 2 ^ 31) : Con g lau yX6_oddsRefused cX6_oddsRefused 7 (Option.some .int) 1 21 [.ref (ad 61), .int (b), .int (n), .int (p), .int (z), .int (nI (M))] ad σ (pu (.int (rfS T b n p z (nI M))) ad σ) := by
  refine con_mk (by decide) (Nat.le_of_ble_eq_true rfl) (fun x hxl K hr => ?_)
  subst hxl
  refine r_lv (lv' := [(0, .ref (ad 61)), (1, .int (b)), (2, .int (n)), (3, .int (p)), (4, .int (z)), (5, .int (nI (M)))]) rfl ?_
  have hn8 := hT.2.1
  have hn9 := hT.2.2.1
  refine r_aload_n K 0 rfl rfl dX6_oddsRefused_0 ?_
  refine get_61_0 K fl_RX6_12 dX6_oddsRefused_1 ?_
  refine r_iload_n K 1 rfl rfl dX6_oddsRefused_4 ?_
  refine r_callVp K 62 (As := [.int (b)]) mv_X4_hasBarge ml_RX6_105 (c_hasBarge hT hR ((b))) (by decide) rfl rfl rfl rfl (Nat.le_of_ble_eq_true rfl) ⟨by decide, by decide⟩ dX6_oddsRefused_5 ?_
  refine b_if_ne K 14 dX6_oddsRefused_8 (by decide) (fun h8 => ?_) (fun h8 => ?_)
  · obtain ⟨bN, h_bN, rfl, t_bN⟩ := hasB_t h8
    have e_bN : (nI bN).toInt.toNat = bN := nI_nat (by omega)
    refine r_iload_n K 2 rfl rfl dX6_oddsRefused_14 ?_
    refine r_if_lt K 49 dX6_oddsRefused_15 (by decide) (fun h15 => ?_) (fun h15 => ?_)
    · refine r_iconst K ((nI (0))) (by decide) dX6_oddsRefused_49 ?_
      refine r_istore K (lv' := [(6, .int (nI (0))), (0, .ref (ad 61)), (1, .int (nI (bN))), (2, .int (n)), (3, .int (p)), (4, .int (z)), (5, .int (nI (M)))]) (by decide) rfl dX6_oddsRefused_50 ?_
      refine r_iload K rfl dX6_oddsRefused_52 ?_
      refine n_if_eq K 61 (by omega) dX6_oddsRefused_54 (by decide) (fun _ => ?_) (fun z => absurd z (by decide))
      refine r_bipush K ((-3)) (by decide) dX6_oddsRefused_61 ?_
      exact r_iret K hr (⟨by rw [rfS, if_pos h8, if_neg (by unfold oddsOk; first | (rw [inS_lo (a := 0) h15 (by decide)]; simp; done) | (rw [inS_hi (b := M) h21 (by omega)]; simp; done) | (rw [inS_lo (v := p) (a := 0) h25 (by decide)]; simp; done) | (rw [inS_hi (v := p) (b := 10) h31 (by decide)]; simp; done) | (rw [inS_01 h36 h42]; simp; done))], rfl, rfl⟩) dX6_oddsRefused_63
    · refine r_iload_n K 2 rfl rfl dX6_oddsRefused_18 ?_
      refine r_iload K rfl dX6_oddsRefused_19 ?_
      refine r_icmp_gt K 49 dX6_oddsRefused_21 (by decide) (fun h21 => ?_) (fun h21 => ?_)
      · refine r_iconst K ((nI (0))) (by decide) dX6_oddsRefused_49 ?_
        refine r_istore K (lv' := [(6, .int (nI (0))), (0, .ref (ad 61)), (1, .int (nI (bN))), (2, .int (n)), (3, .int (p)), (4, .int (z)), (5, .int (nI (M)))]) (by decide) rfl dX6_oddsRefused_50 ?_
        refine r_iload K rfl dX6_oddsRefused_52 ?_
        refine n_if_eq K 61 (by omega) dX6_oddsRefused_54 (by decide) (fun _ => ?_) (fun z => absurd z (by decide))
        refine r_bipush K ((-3)) (by decide) dX6_oddsRefused_61 ?_
        exact r_iret K hr (⟨by rw [rfS, if_pos h8, if_neg (by unfold oddsOk; first | (rw [inS_lo (a := 0) h15 (by decide)]; simp; done) | (rw [inS_hi (b := M) h21 (by omega)]; simp; done) | (rw [inS_lo (v := p) (a := 0) h25 (by decide)]; simp; done) | (rw [inS_hi (v := p) (b := 10) h31 (by decide)]; simp; done) | (rw [inS_01 h36 h42]; simp; done))], rfl, rfl⟩) dX6_oddsRefused_63
      · refine r_iload_n K 3 rfl rfl dX6_oddsRefused_24 ?_
        refine r_if_lt K 49 dX6_oddsRefused_25 (by decide) (fun h25 => ?_) (fun h25 => ?_)
        · refine r_iconst K ((nI (0))) (by decide) dX6_oddsRefused_49 ?_
          refine r_istore K (lv' := [(6, .int (nI (0))), (0, .ref (ad 61)), (1, .int (nI (bN))), (2, .int (n)), (3, .int (p)), (4, .int (z)), (5, .int (nI (M)))]) (by decide) rfl dX6_oddsRefused_50 ?_
          refine r_iload K rfl dX6_oddsRefused_52 ?_
          refine n_if_eq K 61 (by omega) dX6_oddsRefused_54 (by decide) (fun _ => ?_) (fun z => absurd z (by decide))
          refine r_bipush K ((-3)) (by decide) dX6_oddsRefused_61 ?_
          exact r_iret K hr (⟨by rw [rfS, if_pos h8, if_neg (by unfold oddsOk; first | (rw [inS_lo (a := 0) h15 (by decide)]; simp; done) | (rw [inS_hi (b := M) h21 (by omega)]; simp; done) | (rw [inS_lo (v := p) (a := 0) h25 (by decide)]; simp; done) | (rw [inS_hi (v := p) (b := 10) h31 (by decide)]; simp; done) | (rw [inS_01 h36 h42]; simp; done))], rfl, rfl⟩) dX6_oddsRefused_63
        · refine r_iload_n K 3 rfl rfl dX6_oddsRefused_28 ?_
          refine r_bipush K ((nI (10))) (by decide) dX6_oddsRefused_29 ?_
          refine r_icmp_gt K 49 dX6_oddsRefused_31 (by decide) (fun h31 => ?_) (fun h31 => ?_)
          · refine r_iconst K ((nI (0))) (by decide) dX6_oddsRefused_49 ?_
            refine r_istore K (lv' := [(6, .int (nI (0))), (0, .ref (ad 61)), (1, .int (nI (bN))), (2, .int (n)), (3, .int (p)), (4, .int (z)), (5, .int (nI (M)))]) (by decide) rfl dX6_oddsRefused_50 ?_
            refine r_iload K rfl dX6_oddsRefused_52 ?_
            refine n_if_eq K 61 (by omega) dX6_oddsRefused_54 (by decide) (fun _ => ?_) (fun z => absurd z (by decide))
            refine r_bipush K ((-3)) (by decide) dX6_oddsRefused_61 ?_
            exact r_iret K hr (⟨by rw [rfS, if_pos h8, if_neg (by unfold oddsOk; first | (rw [inS_lo (a := 0) h15 (by decide)]; simp; done) | (rw [inS_hi (b := M) h21 (by omega)]; simp; done) | (rw [inS_lo (v := p) (a := 0) h25 (by decide)]; simp; done) | (rw [inS_hi (v := p) (b := 10) h31 (by decide)]; simp; done) | (rw [inS_01 h36 h42]; simp; done))], rfl, rfl⟩) dX6_oddsRefused_63
          · refine r_iload K rfl dX6_oddsRefused_34 ?_
            refine r_if_eq K 45 dX6_oddsRefused_36 (by decide) (fun h36 => ?_) (fun h36 => ?_)
            · refine r_iconst K ((nI (1))) (by decide) dX6_oddsRefused_45 ?_
              refine r_goto K 50 dX6_oddsRefused_46 (by decide) ?_
              refine r_istore K (lv' := [(6, .int (nI (1))), (0, .ref (ad 61)), (1, .int (nI (bN))), (2, .int (n)), (3, .int (p)), (4, .int (z)), (5, .int (nI (M)))]) (by decide) rfl dX6_oddsRefused_50 ?_
              refine r_iload K rfl dX6_oddsRefused_52 ?_
              refine n_if_eq K 61 (by omega) dX6_oddsRefused_54 (by decide) (fun z => absurd z (by decide)) (fun _ => ?_)
              refine r_iconst K ((nI (0))) (by decide) dX6_oddsRefused_57 ?_
              refine r_goto K 63 dX6_oddsRefused_58 (by decide) ?_
              exact r_iret K hr (⟨by rw [rfS, if_pos h8, if_pos (show oddsOk n (nI M) p z = true by unfold oddsOk; rw [inS_mid (a := 0) (b := M) h15 h21, inS_mid (a := 0) (b := 10) h25 h31, (show inS z (nI 0) (nI 1) = true by first | (rw [h36]; decide) | (rw [h42]; decide))]; rfl)], rfl, rfl⟩) dX6_oddsRefused_63
            · refine r_iload K rfl dX6_oddsRefused_39 ?_
              refine r_iconst K ((nI (1))) (by decide) dX6_oddsRefused_41 ?_
              refine r_icmp_ne K 49 dX6_oddsRefused_42 (by decide) (fun h42 => ?_) (fun h42 => ?_)
              · refine r_iconst K ((nI (0))) (by decide) dX6_oddsRefused_49 ?_
                refine r_istore K (lv' := [(6, .int (nI (0))), (0, .ref (ad 61)), (1, .int (nI (bN))), (2, .int (n)), (3, .int (p)), (4, .int (z)), (5, .int (nI (M)))]) (by decide) rfl dX6_oddsRefused_50 ?_
                refine r_iload K rfl dX6_oddsRefused_52 ?_
                refine n_if_eq K 61 (by omega) dX6_oddsRefused_54 (by decide) (fun _ => ?_) (fun z => absurd z (by decide))
                refine r_bipush K ((-3)) (by decide) dX6_oddsRefused_61 ?_
                exact r_iret K hr (⟨by rw [rfS, if_pos h8, if_neg (by unfold oddsOk; first | (rw [inS_lo (a := 0) h15 (by decide)]; simp; done) | (rw [inS_hi (b := M) h21 (by omega)]; simp; done) | (rw [inS_lo (v := p) (a := 0) h25 (by decide)]; simp; done) | (rw [inS_hi (v := p) (b := 10) h31 (by decide)]; simp; done) | (rw [inS_01 h36 h42]; simp; done))], rfl, rfl⟩) dX6_oddsRefused_63
              · refine r_iconst K ((nI (1))) (by decide) dX6_oddsRefused_45 ?_
                refine r_goto K 50 dX6_oddsRefused_46 (by decide) ?_
                refine r_istore K (lv' := [(6, .int (nI (1))), (0, .ref (ad 61)), (1, .int (nI (bN))), (2, .int (n)), (3, .int (p)), (4, .int (z)), (5, .int (nI (M)))]) (by decide) rfl dX6_oddsRefused_50 ?_
                refine r_iload K rfl dX6_oddsRefused_52 ?_
                refine n_if_eq K 61 (by omega) dX6_oddsRefused_54 (by decide) (fun z => absurd z (by decide)) (fun _ => ?_)
                refine r_iconst K ((nI (0))) (by decide) dX6_oddsRefused_57 ?_
                refine r_goto K 63 dX6_oddsRefused_58 (by decide) ?_
                exact r_iret K hr (⟨by rw [rfS, if_pos h8, if_pos (show oddsOk n (nI M) p z = true by unfold oddsOk; rw [inS_mid (a := 0) (b := M) h15 h21, inS_mid (a := 0) (b := 10) h25 h31, (show inS z (nI 0) (nI 1) = true by first | (rw [h36]; decide) | (rw [h42]; decide))]; rfl)], rfl, rfl⟩) dX6_oddsRefused_63
  · refine r_bipush K ((-2)) (by decide) dX6_oddsRefused_11 ?_
    exact r_iret K hr (⟨by rw [rfS, if_neg (by rw [h8]; decide)], rfl, rfl⟩) dX6_oddsRefused_13

set_option maxHeartbeats 400000 in
set_option maxRecDepth 10000 in
theorem c_sight {g : Gp} {lau : Launch} {ad : Nat → Nat} {σ : Sg} {T : Tv} (hT : TOk T) (hR : RepC T σ) (hP : RepP T σ) (b n p z : Int32) : Con g lau yX6_sight cX6_sight 6 (Option.some .long) 6 149 [.ref (ad 61), .int (b), .int (n), .int (p), .int (z)] ad σ (fun rr a2 s2 => some (.long (sgS T b n p z)) = rr ∧ adC ad a2 ∧ cE σ s2 ∧ RepP T s2) := by
  refine con_mk (by decide) (Nat.le_of_ble_eq_true rfl) (fun x hxl K hr => ?_)
  subst hxl
  refine r_lv (lv' := [(0, .ref (ad 61)), (1, .int (b)), (2, .int (n)), (3, .int (p)), (4, .int (z))]) rfl ?_
  have hn8 := hT.2.1
  have hn9 := hT.2.2.1
  refine r_aload_n K 0 rfl rfl dX6_sight_0 ?_
  refine r_iload_n K 1 rfl rfl dX6_sight_1 ?_
  refine r_iload_n K 2 rfl rfl dX6_sight_2 ?_
  refine r_iload_n K 3 rfl rfl dX6_sight_3 ?_
  refine r_iload K rfl dX6_sight_4 ?_
  refine r_bipush K ((nI (8))) (by decide) dX6_sight_6 ?_
  refine r_callVp K 61 (As := [.int (b), .int (n), .int (p), .int (z), .int (nI (8))]) mv_X6_oddsRefused ml_RX6_186 (c_oddsRefused hT hR b n p z (M := 8) (by decide)) (by decide) rfl rfl rfl rfl (Nat.le_of_ble_eq_true rfl) ⟨by decide, by decide⟩ dX6_sight_8 ?_
  cases hb1 : hasB T b with
  | false =>
    refine r_topi (b := (-2)) (by rw [rfS, if_neg (by rw [hb1]; decide)]) ?_
    refine r_istore K (lv' := [(5, .int (-2)), (0, .ref (ad 61)), (1, .int (b)), (2, .int (n)), (3, .int (p)), (4, .int (z))]) (by decide) rfl dX6_sight_11 ?_
    refine r_iload K rfl dX6_sight_13 ?_
    refine r_if_eq K 24 dX6_sight_15 (by decide) (fun h15 => absurd h15 (by decide)) (fun h15 => ?_)
    refine r_iload K rfl dX6_sight_18 ?_
    refine r_i2l K dX6_sight_20 ?_
    refine r_goto K 40 dX6_sight_21 (by decide) ?_
    exact r_lret K hr (⟨by rw [sgS, if_neg (by rw [hb1]; decide)]; rfl, adC_rf ad, same_rf _ _ _ _ _, hP⟩) dX6_sight_40
  | true =>
    rcases Bool.eq_false_or_eq_true (oddsOk n (nI 8) p z) with hb2 | hb2
    · refine r_topi (b := (nI (0))) (by rw [rfS, if_pos hb1, if_pos hb2]) ?_
      obtain ⟨bN, hbN, rfl, t_bN⟩ := hasB_t hb1
      obtain ⟨nN, pN, zN, hnN, hpN, hzN, rfl, rfl, rfl⟩ := odds_t (by decide) hb2
      have e_bN : (nI bN).toInt.toNat = bN := nI_nat (by omega)
      have e_nN : (nI nN).toInt.toNat = nN := nI_nat (by omega)
      have e_pN : (nI pN).toInt.toNat = pN := nI_nat (by omega)
      have e_zN : (nI zN).toInt.toNat = zN := nI_nat (by omega)
      refine r_istore K (lv' := [(5, .int (nI (0))), (0, .ref (ad 61)), (1, .int (nI (bN))), (2, .int (nI (nN))), (3, .int (nI (pN))), (4, .int (nI (zN)))]) (by decide) rfl dX6_sight_11 ?_
      refine r_iload K rfl dX6_sight_13 ?_
      refine n_if_eq K 24 (by omega) dX6_sight_15 (by decide) (fun _ => ?_) (fun z => absurd z (by decide))
      refine r_aload_n K 0 rfl rfl dX6_sight_24 ?_
      refine get_61_6 K fl_RX6_50 dX6_sight_25 ?_
      refine r_iload_n K 1 rfl rfl dX6_sight_28 ?_
      refine r_iload_n K 2 rfl rfl dX6_sight_29 ?_
      refine r_iload_n K 3 rfl rfl dX6_sight_30 ?_
      refine r_callV K 70 (As := [.int (nI (bN)), .int (nI (nN)), .int (nI (pN))]) (rest := []) mv_X2_bestSeeing ml_RX6_211 (c_bestSeeing hT hR (b := bN) (n := nN) (p := pN) hbN (by omega) hpN) (by decide) rfl rfl rfl rfl (Nat.le_of_ble_eq_true rfl) ⟨by decide, by decide⟩ dX6_sight_31 (fun r_x ad_x s_x h_x => ?_)
      obtain ⟨rfl, hax, hsx⟩ := h_x
      refine r_st (st' := [.long (lN (seeV T bN pN nN 0 (startS T) 0))]) rfl ?_
      rw [show ad 61 = ad_x 61 from (hax 61 (by decide)).symm]
      refine r_iload_n K 2 rfl rfl dX6_sight_34 ?_
      refine r_iload K rfl dX6_sight_35 ?_
      refine r_callSp K (As := [.long (lN (seeV T bN pN nN 0 (startS T) 0)), .int (nI (nN)), .int (nI (zN))]) ms_X6_lowestTerms ml_RX6_207 (c_lowestTerms (a := seeV T bN pN nN 0 (startS T) 0) (n := nN) (z := zN) (Nat.le_trans (seeV_le hpN _ _ _ _) (pow8 (by omega))) (by omega) (by omega)) rfl rfl (Nat.le_of_ble_eq_true rfl) ⟨by decide, by decide⟩ dX6_sight_37 ?_
      exact r_lret K hr (⟨by rw [sgS, if_pos hb1, if_pos hb2, e_bN, e_nN, e_pN, e_zN]; rfl, adC_X hax, cE_l hsx, llE_P hP hsx⟩) dX6_sight_40
    · refine r_topi (b := (-3)) (by rw [rfS, if_pos hb1, if_neg (by rw [hb2]; decide)]) ?_
      refine r_istore K (lv' := [(5, .int (-3)), (0, .ref (ad 61)), (1, .int (b)), (2, .int (n)), (3, .int (p)), (4, .int (z))]) (by decide) rfl dX6_sight_11 ?_
      refine r_iload K rfl dX6_sight_13 ?_
      refine r_if_eq K 24 dX6_sight_15 (by decide) (fun h15 => absurd h15 (by decide)) (fun h15 => ?_)
      refine r_iload K rfl dX6_sight_18 ?_
      refine r_i2l K dX6_sight_20 ?_
      refine r_goto K 40 dX6_sight_21 (by decide) ?_
      exact r_lret K hr (⟨by rw [sgS, if_pos hb1, if_neg (by rw [hb2]; decide)]; rfl, adC_rf ad, same_rf _ _ _ _ _, hP⟩) dX6_sight_40

theorem llE_39 {σ s : Sg} (h : same [39] [] [40] false σ s) : llE σ s := same_w h (by simp) (by simp) (by simp) id
set_option maxHeartbeats 400000 in
set_option maxRecDepth 10000 in
theorem c_blind {g : Gp} {lau : Launch} {ad : Nat → Nat} {σ : Sg} {T : Tv} (hT : TOk T) (hR : RepC T σ) (hP : RepP T σ) (b n p z : Int32) : Con g lau yX6_blind cX6_blind 6 (Option.some .long) 10 267 [.ref (ad 61), .int (b), .int (n), .int (p), .int (z)] ad σ (fun rr a2 s2 => some (.long (bdS T b n p z)) = rr ∧ adC ad a2 ∧ cE σ s2 ∧ RepP T s2) := by
  refine con_mk (by decide) (Nat.le_of_ble_eq_true rfl) (fun x hxl K hr => ?_)
  subst hxl
  refine r_lv (lv' := [(0, .ref (ad 61)), (1, .int (b)), (2, .int (n)), (3, .int (p)), (4, .int (z))]) rfl ?_
  have hn8 := hT.2.1
  have hn9 := hT.2.2.1
  refine r_aload_n K 0 rfl rfl dX6_blind_0 ?_
  refine r_iload_n K 1 rfl rfl dX6_blind_1 ?_
  refine r_iload_n K 2 rfl rfl dX6_blind_2 ?_
  refine r_iload_n K 3 rfl rfl dX6_blind_3 ?_
  refine r_iload K rfl dX6_blind_4 ?_
  refine r_iconst K ((nI (4))) (by decide) dX6_blind_6 ?_
  refine r_callVp K 61 (As := [.int (b), .int (n), .int (p), .int (z), .int (nI (4))]) mv_X6_oddsRefused ml_RX6_186 (c_oddsRefused hT hR b n p z (M := 4) (by decide)) (by decide) rfl rfl rfl rfl (Nat.le_of_ble_eq_true rfl) ⟨by decide, by decide⟩ dX6_blind_7 ?_
  cases hb1 : hasB T b with
  | false =>
    refine r_topi (b := (-2)) (by rw [rfS, if_neg (by rw [hb1]; decide)]) ?_
    refine r_istore K (lv' := [(5, .int (-2)), (0, .ref (ad 61)), (1, .int (b)), (2, .int (n)), (3, .int (p)), (4, .int (z))]) (by decide) rfl dX6_blind_10 ?_
    refine r_iload K rfl dX6_blind_12 ?_
    refine r_if_eq K 23 dX6_blind_14 (by decide) (fun h14 => absurd h14 (by decide)) (fun h14 => ?_)
    refine r_iload K rfl dX6_blind_17 ?_
    refine r_i2l K dX6_blind_19 ?_
    refine r_goto K 39 dX6_blind_20 (by decide) ?_
    exact r_lret K hr (⟨by rw [bdS, if_neg (by rw [hb1]; decide)]; rfl, adC_rf ad, same_rf _ _ _ _ _, hP⟩) dX6_blind_39
  | true =>
    rcases Bool.eq_false_or_eq_true (oddsOk n (nI 4) p z) with hb2 | hb2
    · refine r_topi (b := (nI (0))) (by rw [rfS, if_pos hb1, if_pos hb2]) ?_
      obtain ⟨bN, hbN, rfl, t_bN⟩ := hasB_t hb1
      obtain ⟨nN, pN, zN, hnN, hpN, hzN, rfl, rfl, rfl⟩ := odds_t (by decide) hb2
      have e_bN : (nI bN).toInt.toNat = bN := nI_nat (by omega)
      have e_nN : (nI nN).toInt.toNat = nN := nI_nat (by omega)
      have e_pN : (nI pN).toInt.toNat = pN := nI_nat (by omega)
      have e_zN : (nI zN).toInt.toNat = zN := nI_nat (by omega)
      refine r_istore K (lv' := [(5, .int (nI (0))), (0, .ref (ad 61)), (1, .int (nI (bN))), (2, .int (nI (nN))), (3, .int (nI (pN))), (4, .int (nI (zN)))]) (by decide) rfl dX6_blind_10 ?_
      refine r_iload K rfl dX6_blind_12 ?_
      refine n_if_eq K 23 (by omega) dX6_blind_14 (by decide) (fun _ => ?_) (fun z => absurd z (by decide))
      refine r_aload_n K 0 rfl rfl dX6_blind_23 ?_
      refine get_61_6 K fl_RX6_50 dX6_blind_24 ?_
      refine r_iload_n K 1 rfl rfl dX6_blind_27 ?_
      refine r_iload_n K 2 rfl rfl dX6_blind_28 ?_
      refine r_iload_n K 3 rfl rfl dX6_blind_29 ?_
      refine r_callV K 70 (As := [.int (nI (bN)), .int (nI (nN)), .int (nI (pN))]) (rest := []) mv_X2_bestBlind ml_RX6_215 (c_bestBlind hT hR (b := bN) (n := nN) (p := pN) hbN hnN hpN) (by decide) rfl rfl rfl rfl (Nat.le_of_ble_eq_true rfl) ⟨by decide, by decide⟩ dX6_blind_30 (fun r_y ad_y s_y h_y => ?_)
      obtain ⟨rfl, rfl, hsy, hbl⟩ := h_y
      refine r_st (st' := [.long (lN (blV T bN pN nN))]) rfl ?_
      refine r_iload_n K 2 rfl rfl dX6_blind_33 ?_
      refine r_iload K rfl dX6_blind_34 ?_
      refine r_callSp K (As := [.long (lN (blV T bN pN nN)), .int (nI (nN)), .int (nI (zN))]) ms_X6_lowestTerms ml_RX6_207 (c_lowestTerms (a := blV T bN pN nN) (n := nN) (z := zN) (Nat.le_trans (blS_le hpN hbl) (pow8 (by omega))) (by omega) (by omega)) rfl rfl (Nat.le_of_ble_eq_true rfl) ⟨by decide, by decide⟩ dX6_blind_36 ?_
      exact r_lret K hr (⟨by rw [bdS, if_pos hb1, if_pos hb2, e_bN, e_nN, e_pN, e_zN]; rfl, adC_rf ad, cE_l (llE_39 hsy), llE_P hP (llE_39 hsy)⟩) dX6_blind_39
    · refine r_topi (b := (-3)) (by rw [rfS, if_pos hb1, if_neg (by rw [hb2]; decide)]) ?_
      refine r_istore K (lv' := [(5, .int (-3)), (0, .ref (ad 61)), (1, .int (b)), (2, .int (n)), (3, .int (p)), (4, .int (z))]) (by decide) rfl dX6_blind_10 ?_
      refine r_iload K rfl dX6_blind_12 ?_
      refine r_if_eq K 23 dX6_blind_14 (by decide) (fun h14 => absurd h14 (by decide)) (fun h14 => ?_)
      refine r_iload K rfl dX6_blind_17 ?_
      refine r_i2l K dX6_blind_19 ?_
      refine r_goto K 39 dX6_blind_20 (by decide) ?_
      exact r_lret K hr (⟨by rw [bdS, if_pos hb1, if_neg (by rw [hb2]; decide)]; rfl, adC_rf ad, same_rf _ _ _ _ _, hP⟩) dX6_blind_39

set_option maxHeartbeats 400000 in
set_option maxRecDepth 10000 in
theorem c_worth {g : Gp} {lau : Launch} {ad : Nat → Nat} {σ : Sg} {T : Tv} (hT : TOk T) (hR : RepC T σ) (hP : RepP T σ) (b n p z : Int32) : Con g lau yX6_worth cX6_worth 6 (Option.some .long) 10 267 [.ref (ad 61), .int (b), .int (n), .int (p), .int (z)] ad σ (fun rr a2 s2 => some (.long (wtS T b n p z)) = rr ∧ adC ad a2 ∧ cE σ s2 ∧ RepP T s2) := by
  refine con_mk (by decide) (Nat.le_of_ble_eq_true rfl) (fun x hxl K hr => ?_)
  subst hxl
  refine r_lv (lv' := [(0, .ref (ad 61)), (1, .int (b)), (2, .int (n)), (3, .int (p)), (4, .int (z))]) rfl ?_
  have hn8 := hT.2.1
  have hn9 := hT.2.2.1
  refine r_aload_n K 0 rfl rfl dX6_worth_0 ?_
  refine r_iload_n K 1 rfl rfl dX6_worth_1 ?_
  refine r_iload_n K 2 rfl rfl dX6_worth_2 ?_
  refine r_iload_n K 3 rfl rfl dX6_worth_3 ?_
  refine r_iload K rfl dX6_worth_4 ?_
  refine r_iconst K ((nI (4))) (by decide) dX6_worth_6 ?_
  refine r_callVp K 61 (As := [.int (b), .int (n), .int (p), .int (z), .int (nI (4))]) mv_X6_oddsRefused ml_RX6_186 (c_oddsRefused hT hR b n p z (M := 4) (by decide)) (by decide) rfl rfl rfl rfl (Nat.le_of_ble_eq_true rfl) ⟨by decide, by decide⟩ dX6_worth_7 ?_
  cases hb1 : hasB T b with
  | false =>
    refine r_topi (b := (-2)) (by rw [rfS, if_neg (by rw [hb1]; decide)]) ?_
    refine r_istore K (lv' := [(5, .int (-2)), (0, .ref (ad 61)), (1, .int (b)), (2, .int (n)), (3, .int (p)), (4, .int (z))]) (by decide) rfl dX6_worth_10 ?_
    refine r_iload K rfl dX6_worth_12 ?_
    refine r_if_eq K 21 dX6_worth_14 (by decide) (fun h14 => absurd h14 (by decide)) (fun h14 => ?_)
    refine r_iload K rfl dX6_worth_17 ?_
    refine r_i2l K dX6_worth_19 ?_
    exact r_lret K hr (⟨by rw [wtS, if_neg (by rw [hb1]; decide)]; rfl, adC_rf ad, same_rf _ _ _ _ _, hP⟩) dX6_worth_20
  | true =>
    rcases Bool.eq_false_or_eq_true (oddsOk n (nI 4) p z) with hb2 | hb2
    · refine r_topi (b := (nI (0))) (by rw [rfS, if_pos hb1, if_pos hb2]) ?_
      obtain ⟨bN, hbN, rfl, t_bN⟩ := hasB_t hb1
      obtain ⟨nN, pN, zN, hnN, hpN, hzN, rfl, rfl, rfl⟩ := odds_t (by decide) hb2
      have e_bN : (nI bN).toInt.toNat = bN := nI_nat (by omega)
      have e_nN : (nI nN).toInt.toNat = nN := nI_nat (by omega)
      have e_pN : (nI pN).toInt.toNat = pN := nI_nat (by omega)
      have e_zN : (nI zN).toInt.toNat = zN := nI_nat (by omega)
      refine r_istore K (lv' := [(5, .int (nI (0))), (0, .ref (ad 61)), (1, .int (nI (bN))), (2, .int (nI (nN))), (3, .int (nI (pN))), (4, .int (nI (zN)))]) (by decide) rfl dX6_worth_10 ?_
      refine r_iload K rfl dX6_worth_12 ?_
      refine n_if_eq K 21 (by omega) dX6_worth_14 (by decide) (fun _ => ?_) (fun z => absurd z (by decide))
      refine r_aload_n K 0 rfl rfl dX6_worth_21 ?_
      refine get_61_6 K fl_RX6_50 dX6_worth_22 ?_
      refine r_iload_n K 1 rfl rfl dX6_worth_25 ?_
      refine r_iload_n K 2 rfl rfl dX6_worth_26 ?_
      refine r_iload_n K 3 rfl rfl dX6_worth_27 ?_
      refine r_callV K 70 (As := [.int (nI (bN)), .int (nI (nN)), .int (nI (pN))]) (rest := []) mv_X2_bestSeeing ml_RX6_211 (c_bestSeeing hT hR (b := bN) (n := nN) (p := pN) hbN (by omega) hpN) (by decide) rfl rfl rfl rfl (Nat.le_of_ble_eq_true rfl) ⟨by decide, by decide⟩ dX6_worth_28 (fun r_x ad_x s_x h_x => ?_)
      obtain ⟨rfl, hax, hsx⟩ := h_x
      refine r_st (st' := [.long (lN (seeV T bN pN nN 0 (startS T) 0))]) rfl ?_
      rw [show ad 61 = ad_x 61 from (hax 61 (by decide)).symm]
      refine r_aload_n K 0 rfl rfl dX6_worth_31 ?_
      refine get_61_6 K fl_RX6_50 dX6_worth_32 ?_
      refine r_iload_n K 1 rfl rfl dX6_worth_35 ?_
      refine r_iload_n K 2 rfl rfl dX6_worth_36 ?_
      refine r_iload_n K 3 rfl rfl dX6_worth_37 ?_
      refine r_callV K 70 (As := [.int (nI (bN)), .int (nI (nN)), .int (nI (pN))]) (rest := [.long (lN (seeV T bN pN nN 0 (startS T) 0))]) mv_X2_bestBlind ml_RX6_215 (c_bestBlind hT (llE_C hR hsx) (b := bN) (n := nN) (p := pN) hbN hnN hpN) (by decide) rfl rfl rfl rfl (Nat.le_of_ble_eq_true rfl) ⟨by decide, by decide⟩ dX6_worth_38 (fun r_y ad_y s_y h_y => ?_)
      obtain ⟨rfl, rfl, hsy, hbl⟩ := h_y
      refine r_st (st' := [.long (lN (blV T bN pN nN)), .long (lN (seeV T bN pN nN 0 (startS T) 0))]) rfl ?_
      refine r_lsub K dX6_worth_41 ?_
      refine r_topl (b := (lN (seeV T bN pN nN 0 (startS T) 0 - blV T bN pN nN))) (lN_sub (blS_see hbl)) ?_
      refine r_iload_n K 2 rfl rfl dX6_worth_42 ?_
      refine r_iload K rfl dX6_worth_43 ?_
      refine r_callSp K (As := [.long (lN (seeV T bN pN nN 0 (startS T) 0 - blV T bN pN nN)), .int (nI (nN)), .int (nI (zN))]) ms_X6_lowestTerms ml_RX6_207 (c_lowestTerms (a := seeV T bN pN nN 0 (startS T) 0 - blV T bN pN nN) (n := nN) (z := zN) (Nat.le_trans (Nat.sub_le _ _) (Nat.le_trans (seeV_le hpN _ _ _ _) (pow8 (by omega)))) (by omega) (by omega)) rfl rfl (Nat.le_of_ble_eq_true rfl) ⟨by decide, by decide⟩ dX6_worth_45 ?_
      exact r_lret K hr (⟨by rw [wtS, if_pos hb1, if_pos hb2, e_bN, e_nN, e_pN, e_zN]; rfl, adC_X hax, cE_l (same_tr hsx (llE_39 hsy)), llE_P hP (same_tr hsx (llE_39 hsy))⟩) dX6_worth_48
    · refine r_topi (b := (-3)) (by rw [rfS, if_pos hb1, if_neg (by rw [hb2]; decide)]) ?_
      refine r_istore K (lv' := [(5, .int (-3)), (0, .ref (ad 61)), (1, .int (b)), (2, .int (n)), (3, .int (p)), (4, .int (z))]) (by decide) rfl dX6_worth_10 ?_
      refine r_iload K rfl dX6_worth_12 ?_
      refine r_if_eq K 21 dX6_worth_14 (by decide) (fun h14 => absurd h14 (by decide)) (fun h14 => ?_)
      refine r_iload K rfl dX6_worth_17 ?_
      refine r_i2l K dX6_worth_19 ?_
      exact r_lret K hr (⟨by rw [wtS, if_pos hb1, if_neg (by rw [hb2]; decide)]; rfl, adC_rf ad, same_rf _ _ _ _ _, hP⟩) dX6_worth_20

theorem keptL_lt {ms : List Nat} (h6 : sixL ms) (h : Nat) : keptL ms h < 6 := by
  unfold keptL
  split
  · omega
  · exact six_at h6 _
theorem cE_odds {σ s1 s2 s3 : Sg} (h1 : plE σ s1) (h2 : same [39] [] [40] false s1 s2) (h3 : same [39] [] [] false s2 s3) : cE σ s3 := same_tr (cE_p h1) (same_w (same_tr h2 (same_w h3 (by simp) (by simp) (by simp) id)) (by simp) (by simp) (by simp) id)
set_option maxHeartbeats 1000000 in
set_option maxRecDepth 10000 in
theorem c_odds {g : Gp} {lau : Launch} {ad : Nat → Nat} {σ : Sg} {T : Tv} (hT : TOk T) (hR : RepC T σ) (hP : RepP T σ) (b n p z : Int32) : Con g lau yX6_odds cX6_odds 8 (Option.some .long) 6 155 [.ref (ad 61), .int (b), .int (n), .int (p), .int (z)] ad σ (fun rr a2 s2 => some (.long (odS T b n p z)) = rr ∧ adC ad a2 ∧ cE σ s2 ∧ RepP T s2) := by
  refine con_mk (by decide) (Nat.le_of_ble_eq_true rfl) (fun x hxl K hr => ?_)
  subst hxl
  refine r_lv (lv' := [(0, .ref (ad 61)), (1, .int (b)), (2, .int (n)), (3, .int (p)), (4, .int (z))]) rfl ?_
  have hn8 := hT.2.1
  have hn9 := hT.2.2.1
  refine r_aload_n K 0 rfl rfl dX6_odds_0 ?_
  refine r_iload_n K 1 rfl rfl dX6_odds_1 ?_
  refine r_iload_n K 2 rfl rfl dX6_odds_2 ?_
  refine r_iload_n K 3 rfl rfl dX6_odds_3 ?_
  refine r_iload K rfl dX6_odds_4 ?_
  refine r_bipush K ((nI (8))) (by decide) dX6_odds_6 ?_
  refine r_callVp K 61 (As := [.int (b), .int (n), .int (p), .int (z), .int (nI (8))]) mv_X6_oddsRefused ml_RX6_186 (c_oddsRefused hT hR b n p z (M := 8) (by decide)) (by decide) rfl rfl rfl rfl (Nat.le_of_ble_eq_true rfl) ⟨by decide, by decide⟩ dX6_odds_8 ?_
  cases hb1 : hasB T b with
  | false =>
    refine r_topi (b := (-2)) (by rw [rfS, if_neg (by rw [hb1]; decide)]) ?_
    refine r_istore K (lv' := [(5, .int (-2)), (0, .ref (ad 61)), (1, .int (b)), (2, .int (n)), (3, .int (p)), (4, .int (z))]) (by decide) rfl dX6_odds_11 ?_
    refine r_iload K rfl dX6_odds_13 ?_
    refine r_if_eq K 22 dX6_odds_15 (by decide) (fun h15 => absurd h15 (by decide)) (fun h15 => ?_)
    refine r_iload K rfl dX6_odds_18 ?_
    refine r_i2l K dX6_odds_20 ?_
    exact r_lret K hr (⟨by rw [odS, if_neg (by rw [hb1]; decide)]; rfl, adC_rf ad, same_rf _ _ _ _ _, hP⟩) dX6_odds_21
  | true =>
    rcases Bool.eq_false_or_eq_true (oddsOk n (nI 8) p z) with hb2 | hb2
    · refine r_topi (b := (nI (0))) (by rw [rfS, if_pos hb1, if_pos hb2]) ?_
      obtain ⟨bN, hbN, rfl, t_bN⟩ := hasB_t hb1
      obtain ⟨nN, pN, zN, hnN, hpN, hzN, rfl, rfl, rfl⟩ := odds_t (by decide) hb2
      have e_bN : (nI bN).toInt.toNat = bN := nI_nat (by omega)
      have e_nN : (nI nN).toInt.toNat = nN := nI_nat (by omega)
      have e_pN : (nI pN).toInt.toNat = pN := nI_nat (by omega)
      have e_zN : (nI zN).toInt.toNat = zN := nI_nat (by omega)
      refine r_istore K (lv' := [(5, .int (nI (0))), (0, .ref (ad 61)), (1, .int (nI (bN))), (2, .int (nI (nN))), (3, .int (nI (pN))), (4, .int (nI (zN)))]) (by decide) rfl dX6_odds_11 ?_
      refine r_iload K rfl dX6_odds_13 ?_
      refine n_if_eq K 22 (by omega) dX6_odds_15 (by decide) (fun _ => ?_) (fun z => absurd z (by decide))
      refine r_aload_n K 0 rfl rfl dX6_odds_22 ?_
      refine get_61_5 K fl_RX6_43 dX6_odds_23 ?_
      refine r_iload_n K 1 rfl rfl dX6_odds_26 ?_
      refine r_iconst K ((nI (0))) (by decide) dX6_odds_27 ?_
      refine r_callV K 69 (As := [.int (nI (bN)), .int (nI (0))]) (rest := []) mv_X3_soonestOf ml_RX6_174 (c_soonestOf hT hR hP (b := bN) (h := 0) (by omega) (by omega)) (by decide) rfl rfl rfl rfl (Nat.le_of_ble_eq_true rfl) ⟨by decide, by decide⟩ dX6_odds_28 (fun r_q ad_q s_q h_q => ?_)
      obtain ⟨rfl, haq, hsq, hPq, hlq⟩ := h_q
      refine r_st (st' := [.int (nI (bN * 24 + 0))]) rfl ?_
      rw [show ad 61 = ad_q 61 from (haq 61 (by decide)).symm]
      refine r_istore K (lv' := [(6, .int (nI (bN * 24 + 0))), (5, .int (nI (0))), (0, .ref (ad_q 61)), (1, .int (nI (bN))), (2, .int (nI (nN))), (3, .int (nI (pN))), (4, .int (nI (zN)))]) (by decide) rfl dX6_odds_31 ?_
      rcases hq : plS T bN kn0 0 with _ | ms
      · rw [hq] at hlq
        refine r_aload_n K 0 rfl rfl dX6_odds_33 ?_
        refine get_61_5 K fl_RX6_43 dX6_odds_34 ?_
        refine get_69_0 K fl_RX6_180 dX6_odds_37 ?_
        refine r_iload K rfl dX6_odds_40 ?_
        refine r_iald K 28 (n := 112) (by decide) rfl rfl (by decide) (by omega) dX6_odds_42 ?_
        refine r_topi (b := (-1)) (hlq) ?_
        refine r_iconst K ((-1)) (by decide) dX6_odds_43 ?_
        refine r_icmp_ne K 51 dX6_odds_44 (by decide) (fun z => absurd z (by decide)) (fun _ => ?_)
        refine r_ldc2 K (v := (-4)) kl_RX6_190 dX6_odds_47 ?_
        exact r_lret K hr (⟨by rw [odS, if_pos hb1, if_pos hb2, e_bN, if_pos hq], adC_E haq, cE_p hsq, hPq⟩) dX6_odds_50
      · have hlq2 := hlq
        rw [hq] at hlq2
        have hms := pl_six (by omega) ms hq
        have hol : oL (plS T bN kn0 0) = ms := by rw [hq]; rfl
        refine r_aload_n K 0 rfl rfl dX6_odds_33 ?_
        refine get_61_5 K fl_RX6_43 dX6_odds_34 ?_
        refine get_69_0 K fl_RX6_180 dX6_odds_37 ?_
        refine r_iload K rfl dX6_odds_40 ?_
        refine r_iald K 28 (n := 112) (by decide) rfl rfl (by decide) (by omega) dX6_odds_42 ?_
        refine r_topi (b := (nI (ms.length))) (hlq2.1) ?_
        refine r_iconst K ((-1)) (by decide) dX6_odds_43 ?_
        refine r_icmp_ne K 51 dX6_odds_44 (by decide) (fun h44 => ?_) (fun h44 => absurd h44 (fun z => nI_m1 (by omega) z))
        refine r_aload_n K 0 rfl rfl dX6_odds_51 ?_
        refine get_61_6 K fl_RX6_50 dX6_odds_52 ?_
        refine r_iload_n K 2 rfl rfl dX6_odds_55 ?_
        refine r_iload_n K 3 rfl rfl dX6_odds_56 ?_
        refine r_callV K 70 (As := [.int (nI (nN)), .int (nI (pN))]) (rest := []) mv_X2_start ml_RX6_192 (c_start hT (plE_C hR hsq) (n := nN) (p := pN) (by omega) hpN) (by decide) rfl rfl rfl rfl (Nat.le_of_ble_eq_true rfl) ⟨by decide, by decide⟩ dX6_odds_57 (fun r_s ad_s s_s h_s => ?_)
        obtain ⟨rfl, rfl, hss, hsa, hsc⟩ := h_s
        refine r_st (st' := []) rfl ?_
        refine r_iconst K ((nI (0))) (by decide) dX6_odds_60 ?_
        refine r_istore K (lv' := [(7, .int (nI (0))), (6, .int (nI (bN * 24 + 0))), (5, .int (nI (0))), (0, .ref (ad_q 61)), (1, .int (nI (bN))), (2, .int (nI (nN))), (3, .int (nI (pN))), (4, .int (nI (zN)))]) (by decide) rfl dX6_odds_61 ?_
        refine r_pick [3, 4, 5, 6, 7, 1, 0] (lv' := [(0, .ref (ad_q 61)), (1, .int (nI (bN))), (2, .int (nI (nN))), (3, .int (nI (pN))), (4, .int (nI (zN))), (6, .int (nI (bN * 24 + 0))), (7, .int (nI (0)))]) rfl ?_
        have lpA : ∀ (mm_ : Nat) (h : Nat) (s1 : Sg), mm_ = nN - h → (h ≤ nN) → (same [39] [] [] false s_s s1) → (TreeP T bN (keptL ms) h s1) → GJ g x 8 63 [(0, .ref (ad_q 61)), (1, .int (nI (bN))), (2, .int (nI (nN))), (3, .int (nI (pN))), (4, .int (nI (zN))), (6, .int (nI (bN * 24 + 0))), (7, .int (nI (h)))] [] ad_q (s1) := by
          intro mm_
          induction mm_ using Nat.strongRecOn with
          | _ mm_ ihA =>
            intro h s1 hmA hh hs1 htr
            refine r_iload K rfl dX6_odds_63 ?_
            refine r_iload_n K 2 rfl rfl dX6_odds_65 ?_
            refine n_icmp_ge K 96 (by omega) (by omega) dX6_odds_66 (by decide) (fun h66 => ?_) (fun h66 => ?_)
            · refine r_aload_n K 0 rfl rfl dX6_odds_96 ?_
              refine get_61_6 K fl_RX6_50 dX6_odds_97 ?_
              refine r_iload_n K 2 rfl rfl dX6_odds_100 ?_
              refine r_callVp K 70 (As := [.int (nI (nN))]) mv_X2_thereAfter ml_RX6_203 (c_thereAfter hT (b := bN) (n := nN) (p := pN) (ls := keptL ms) (by omega) (by have hz := htr; rw [show h = nN by omega] at hz; exact hz) (fun e he j hj => by rw [hs1.2.2.1 40 (by simp)]; exact hsc e he j hj)) (by decide) rfl rfl rfl rfl (Nat.le_of_ble_eq_true rfl) ⟨by decide, by decide⟩ dX6_odds_101 ?_
              refine r_iload_n K 2 rfl rfl dX6_odds_104 ?_
              refine r_iload K rfl dX6_odds_105 ?_
              refine r_callSp K (As := [.long (lN (rowV T bN pN (keptL ms) nN 0 (startS T))), .int (nI (nN)), .int (nI (zN))]) ms_X6_lowestTerms ml_RX6_207 (c_lowestTerms (a := rowV T bN pN (keptL ms) nN 0 (startS T)) (n := nN) (z := zN) (Nat.le_trans (rowV_le hpN _ _ _) (pow8 (by omega))) (by omega) (by omega)) rfl rfl (Nat.le_of_ble_eq_true rfl) ⟨by decide, by decide⟩ dX6_odds_107 ?_
              exact r_lret K hr (⟨by rw [odS, if_pos hb1, if_pos hb2, e_bN, e_nN, e_pN, e_zN, if_neg (by rw [hq]; exact fun z => by cases z), hol]; rfl, adC_E haq, cE_odds hsq hss hs1, RepP_same hPq (same_tr hss (same_w hs1 (by simp) (by simp) (by simp) id)) (by simp) (by simp)⟩) dX6_odds_110
            · refine r_aload_n K 0 rfl rfl dX6_odds_69 ?_
              refine get_61_6 K fl_RX6_50 dX6_odds_70 ?_
              refine r_iload_n K 1 rfl rfl dX6_odds_73 ?_
              refine r_iload K rfl dX6_odds_74 ?_
              refine r_aload_n K 0 rfl rfl dX6_odds_76 ?_
              refine get_61_5 K fl_RX6_43 dX6_odds_77 ?_
              refine r_iload K rfl dX6_odds_80 ?_
              refine r_iload K rfl dX6_odds_82 ?_
              refine r_callVp K 69 (As := [.int (nI (bN * 24 + 0)), .int (nI (h))]) mv_X3_layerKept ml_RX6_196 (c_layerKept (ms := ms) (n := bN * 24 + 0) (h := h) (by omega) (slotR_eq hlq2 (by rw [hs1.1 28 (by simp), hss.1 28 (by simp)]) (by rw [hs1.1 29 (by simp), hss.1 29 (by simp)]) (by rw [hs1.2.2.1 30 (by simp), hss.2.2.1 30 (by simp)])) hms.1 hms.2 (by omega)) (by decide) rfl rfl rfl rfl (Nat.le_of_ble_eq_true rfl) ⟨by decide, by decide⟩ dX6_odds_84 ?_
              refine r_callV K 70 (As := [.int (nI (bN)), .int (nI (h)), .int (nI (keptL ms h))]) (rest := []) mv_X2_branch ml_RX6_199 (c_branch hT ((plE_C hR hsq).same (same_tr hss (same_w hs1 (by simp) (by simp) (by simp) id)) (by intro k hk; simp; omega) (by simp)) (b := bN) (h := h) (l := keptL ms h) (ls := keptL ms) hbN (by omega) (keptL_lt hms.1 h) rfl htr) (by decide) rfl rfl rfl rfl (Nat.le_of_ble_eq_true rfl) ⟨by decide, by decide⟩ dX6_odds_87 (fun r_b ad_b s_b h_b => ?_)
              obtain ⟨rfl, rfl, hbs, hbt⟩ := h_b
              refine r_st (st' := []) rfl ?_
              refine r_iinc K ((nI (h + 1))) rfl (nI_1 _) (lv' := [(7, .int (nI (h + 1))), (0, .ref (ad_q 61)), (1, .int (nI (bN))), (2, .int (nI (nN))), (3, .int (nI (pN))), (4, .int (nI (zN))), (6, .int (nI (bN * 24 + 0)))]) (by decide) rfl dX6_odds_90 ?_
              refine r_goto K 63 dX6_odds_93 (by decide) ?_
              refine r_pick [1, 2, 3, 4, 5, 6, 0] (lv' := [(0, .ref (ad_q 61)), (1, .int (nI (bN))), (2, .int (nI (nN))), (3, .int (nI (pN))), (4, .int (nI (zN))), (6, .int (nI (bN * 24 + 0))), (7, .int (nI (h + 1)))]) rfl ?_
              exact ihA _ (by omega) (h + 1) (s_b) rfl (by omega) (same_tr hs1 hbs) (hbt)
        exact lpA _ (0) (s_s) rfl (by omega) (same_rf _ _ _ _ _) (fun e he j hj => by have he0 : e = 0 := (by omega); subst he0; have hj0 : j = 0 := (by rw [Nat.pow_zero] at hj; omega); subst hj0; exact hsa)
    · refine r_topi (b := (-3)) (by rw [rfS, if_pos hb1, if_neg (by rw [hb2]; decide)]) ?_
      refine r_istore K (lv' := [(5, .int (-3)), (0, .ref (ad 61)), (1, .int (b)), (2, .int (n)), (3, .int (p)), (4, .int (z))]) (by decide) rfl dX6_odds_11 ?_
      refine r_iload K rfl dX6_odds_13 ?_
      refine r_if_eq K 22 dX6_odds_15 (by decide) (fun h15 => absurd h15 (by decide)) (fun h15 => ?_)
      refine r_iload K rfl dX6_odds_18 ?_
      refine r_i2l K dX6_odds_20 ?_
      exact r_lret K hr (⟨by rw [odS, if_pos hb1, if_neg (by rw [hb2]; decide)]; rfl, adC_rf ad, same_rf _ _ _ _ _, hP⟩) dX6_odds_21

