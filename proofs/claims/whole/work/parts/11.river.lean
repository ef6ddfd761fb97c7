set_option maxHeartbeats 400000 in
set_option maxRecDepth 10000 in
theorem c_hasReach {g : Gp} {lau : Launch} {ad : Nat → Nat} {σ : Sg} {T : Tv} (hT : TOk T) (hR : RepC T σ) (v : Int32) : Con g lau yX4_hasReach cX4_hasReach 2 (Option.some .boolean) 0 0 [.ref (ad 62), .int (v)] ad σ (pu (.int (bI (hasR T v))) ad σ) := by
  refine con_mk (by decide) (Nat.le_of_ble_eq_true rfl) (fun x hxl K hr => ?_)
  subst hxl
  refine r_lv (lv' := [(0, .ref (ad 62)), (1, .int (v))]) rfl ?_
  have hn8 := hT.2.1
  have hn9 := hT.2.2.1
  refine r_iload_n K 1 rfl rfl dX4_hasReach_0 ?_
  refine r_if_lt K 16 dX4_hasReach_1 (by decide) (fun h1 => ?_) (fun h1 => ?_)
  · refine r_iconst K ((nI (0))) (by decide) dX4_hasReach_16 ?_
    exact r_zret K (b := false) hr (⟨by rw [show hasR T v = false from decide_eq_false (fun z => by have := neg_toInt h1; omega)], rfl, rfl⟩) dX4_hasReach_17
  · refine r_iload_n K 1 rfl rfl dX4_hasReach_4 ?_
    refine r_aload_n K 0 rfl rfl dX4_hasReach_5 ?_
    refine get_62_0 K fl_RX4_9 dX4_hasReach_6 ?_
    refine r_topi (b := (nI (T 10 0))) (hR.1) ?_
    refine r_icmp_ge K 16 dX4_hasReach_9 (by decide) (fun h9 => ?_) (fun h9 => ?_)
    · refine r_iconst K ((nI (0))) (by decide) dX4_hasReach_16 ?_
      exact r_zret K (b := false) hr (⟨by rw [show hasR T v = false from decide_eq_false (fun z => by have := ge_toInt h9 (by omega); omega)], rfl, rfl⟩) dX4_hasReach_17
    · refine r_iconst K ((nI (1))) (by decide) dX4_hasReach_12 ?_
      refine r_goto K 17 dX4_hasReach_13 (by decide) ?_
      exact r_zret K (b := true) hr (⟨by obtain ⟨b, hb, rfl⟩ := ix_of h1 h9 (by omega); rw [hasR_nI (by omega), decide_eq_true hb], rfl, rfl⟩) dX4_hasReach_17

set_option maxHeartbeats 400000 in
set_option maxRecDepth 10000 in
theorem c_hasBarge {g : Gp} {lau : Launch} {ad : Nat → Nat} {σ : Sg} {T : Tv} (hT : TOk T) (hR : RepC T σ) (v : Int32) : Con g lau yX4_hasBarge cX4_hasBarge 2 (Option.some .boolean) 0 0 [.ref (ad 62), .int (v)] ad σ (pu (.int (bI (hasB T v))) ad σ) := by
  refine con_mk (by decide) (Nat.le_of_ble_eq_true rfl) (fun x hxl K hr => ?_)
  subst hxl
  refine r_lv (lv' := [(0, .ref (ad 62)), (1, .int (v))]) rfl ?_
  have hn8 := hT.2.1
  have hn9 := hT.2.2.1
  refine r_iload_n K 1 rfl rfl dX4_hasBarge_0 ?_
  refine r_if_lt K 22 dX4_hasBarge_1 (by decide) (fun h1 => ?_) (fun h1 => ?_)
  · refine r_iconst K ((nI (0))) (by decide) dX4_hasBarge_22 ?_
    exact r_zret K (b := false) hr (⟨by rw [show hasB T v = false from decide_eq_false (fun z => by have := neg_toInt h1; omega)], rfl, rfl⟩) dX4_hasBarge_23
  · refine r_iload_n K 1 rfl rfl dX4_hasBarge_4 ?_
    refine r_iconst K ((nI (4))) (by decide) dX4_hasBarge_5 ?_
    refine r_icmp_ge K 22 dX4_hasBarge_6 (by decide) (fun h6 => ?_) (fun h6 => ?_)
    · refine r_iconst K ((nI (0))) (by decide) dX4_hasBarge_22 ?_
      exact r_zret K (b := false) hr (⟨by rw [show hasB T v = false from decide_eq_false (fun z => by have := ge_toInt h6 (by omega); omega)], rfl, rfl⟩) dX4_hasBarge_23
    · obtain ⟨b, hb, rfl⟩ := ix_of h1 h6 (by decide)
      refine r_aload_n K 0 rfl rfl dX4_hasBarge_9 ?_
      refine get_62_7 K fl_RX4_34 dX4_hasBarge_10 ?_
      refine r_iload_n K 1 rfl rfl dX4_hasBarge_13 ?_
      refine r_zald K 5 (n := 4) (by decide) rfl rfl (by decide) (by omega) dX4_hasBarge_14 ?_
      have hq5 : T 5 (b) < 256 := hT.1 5 (b)
      refine r_topi (b := (nI (T 5 (b)))) (hR.2.2 5 (by decide) (b) (show b < 4 by omega)) ?_
      refine n_if_eq K 22 (by omega) dX4_hasBarge_15 (by decide) (fun h15 => ?_) (fun h15 => ?_)
      · refine r_iconst K ((nI (0))) (by decide) dX4_hasBarge_22 ?_
        exact r_zret K (b := false) hr (⟨by rw [hasB_nI hb, decide_eq_false (by omega)], rfl, rfl⟩) dX4_hasBarge_23
      · refine r_iconst K ((nI (1))) (by decide) dX4_hasBarge_18 ?_
        refine r_goto K 23 dX4_hasBarge_19 (by decide) ?_
        exact r_zret K (b := true) hr (⟨by rw [hasB_nI hb, decide_eq_true (by have := (hT.2.2.2.2.2.2.1 b).1; omega)], rfl, rfl⟩) dX4_hasBarge_23

set_option maxHeartbeats 400000 in
set_option maxRecDepth 10000 in
theorem c_cordOf {g : Gp} {lau : Launch} {ad : Nat → Nat} {σ : Sg} {T : Tv} (hT : TOk T) (hR : RepC T σ) {b : Nat} (hb : b < 4) : Con g lau yX4_cordOf cX4_cordOf 2 (Option.some .int) 0 0 [.ref (ad 62), .int (nI (b))] ad σ (pu (.int (nI (cordS T b))) ad σ) := by
  refine con_mk (by decide) (Nat.le_of_ble_eq_true rfl) (fun x hxl K hr => ?_)
  subst hxl
  refine r_lv (lv' := [(0, .ref (ad 62)), (1, .int (nI (b)))]) rfl ?_
  have hn8 := hT.2.1
  have hn9 := hT.2.2.1
  refine r_aload_n K 0 rfl rfl dX4_cordOf_0 ?_
  refine get_62_10 K fl_RX4_44 dX4_cordOf_1 ?_
  refine r_iload_n K 1 rfl rfl dX4_cordOf_4 ?_
  refine r_iald K 8 (n := 4) (by decide) rfl rfl (by decide) (by omega) dX4_cordOf_5 ?_
  have hq7 : T 8 (b) < 256 := hT.1 8 (b)
  refine r_topi (b := (nI (T 8 (b)))) (hR.2.2 8 (by decide) (b) (show b < 4 by omega)) ?_
  refine r_iconst K ((nI (2))) (by decide) dX4_cordOf_6 ?_
  refine n_icmp_ne K 14 (by omega) (by omega) dX4_cordOf_7 (by decide) (fun h7 => ?_) (fun h7 => ?_)
  · refine r_aload_n K 0 rfl rfl dX4_cordOf_14 ?_
    refine get_62_9 K fl_RX4_41 dX4_cordOf_15 ?_
    refine r_iload_n K 1 rfl rfl dX4_cordOf_18 ?_
    refine r_iald K 7 (n := 4) (by decide) rfl rfl (by decide) (by omega) dX4_cordOf_19 ?_
    have hq9 : T 7 (b) < 256 := hT.1 7 (b)
    refine r_topi (b := (nI (T 7 (b)))) (hR.2.2 7 (by decide) (b) (show b < 4 by omega)) ?_
    exact r_iret K hr (⟨by rw [cordS, if_neg h7], rfl, rfl⟩) dX4_cordOf_20
  · refine r_iconst K ((nI (1))) (by decide) dX4_cordOf_10 ?_
    refine r_goto K 20 dX4_cordOf_11 (by decide) ?_
    exact r_iret K hr (⟨by rw [cordS, if_pos h7], rfl, rfl⟩) dX4_cordOf_20

set_option maxHeartbeats 400000 in
set_option maxRecDepth 10000 in
theorem c_begin {g : Gp} {lau : Launch} {ad : Nat → Nat} {σ : Sg} {T : Tv} (hT : TOk T) (hR : RepC T σ) : Con g lau yX4_begin cX4_begin 1 (Option.some .int) 0 0 [.ref (ad 62)] ad σ (pu (.int (nI (startS T))) ad σ) := by
  refine con_mk (by decide) (Nat.le_of_ble_eq_true rfl) (fun x hxl K hr => ?_)
  subst hxl
  refine r_lv (lv' := [(0, .ref (ad 62))]) rfl ?_
  have hn8 := hT.2.1
  have hn9 := hT.2.2.1
  refine r_aload_n K 0 rfl rfl dX4_begin_0 ?_
  refine get_62_0 K fl_RX4_9 dX4_begin_1 ?_
  refine r_topi (b := (nI (T 10 0))) (hR.1) ?_
  refine n_if_ne K 13 (by omega) dX4_begin_4 (by decide) (fun h4 => ?_) (fun h4 => ?_)
  · refine r_iconst K ((nI (0))) (by decide) dX4_begin_13 ?_
    exact r_iret K hr (⟨by rw [startS, if_neg h4], rfl, rfl⟩) dX4_begin_14
  · refine r_sipush K ((nI (160))) (by decide) dX4_begin_7 ?_
    refine r_goto K 14 dX4_begin_10 (by decide) ?_
    exact r_iret K hr (⟨by rw [startS, if_pos h4], rfl, rfl⟩) dX4_begin_14

set_option maxHeartbeats 400000 in
set_option maxRecDepth 10000 in
theorem c_wholeLength {g : Gp} {lau : Launch} {ad : Nat → Nat} {σ : Sg} {T : Tv} (hT : TOk T) (hR : RepC T σ) : Con g lau yX4_wholeLength cX4_wholeLength 3 (Option.some .int) 0 0 [.ref (ad 62)] ad σ (pu (.int (nI (sumS (T 1) (T 10 0)))) ad σ) := by
  refine con_mk (by decide) (Nat.le_of_ble_eq_true rfl) (fun x hxl K hr => ?_)
  subst hxl
  refine r_lv (lv' := [(0, .ref (ad 62))]) rfl ?_
  have hn8 := hT.2.1
  have hn9 := hT.2.2.1
  refine r_iconst K ((nI (0))) (by decide) dX4_wholeLength_0 ?_
  refine r_istore_n K (lv' := [(1, .int (nI (0))), (0, .ref (ad 62))]) 1 rfl (by decide) rfl dX4_wholeLength_1 ?_
  refine r_iconst K ((nI (0))) (by decide) dX4_wholeLength_2 ?_
  refine r_istore_n K (lv' := [(2, .int (nI (0))), (1, .int (nI (0))), (0, .ref (ad 62))]) 2 rfl (by decide) rfl dX4_wholeLength_3 ?_
  refine r_pick [2, 1, 0] (lv' := [(0, .ref (ad 62)), (1, .int (nI (0))), (2, .int (nI (0)))]) rfl ?_
  have lpA : ∀ (mm_ : Nat) (i : Nat) (a : Nat), mm_ = T 10 0 - i → (i ≤ T 10 0) → (a = sumS (T 1) i) → GJ g x 3 4 [(0, .ref (ad 62)), (1, .int (nI (a))), (2, .int (nI (i)))] [] ad (σ) := by
    intro mm_
    induction mm_ using Nat.strongRecOn with
    | _ mm_ ihA =>
      intro i a hmA h1 h2
      refine r_iload_n K 2 rfl rfl dX4_wholeLength_4 ?_
      refine r_aload_n K 0 rfl rfl dX4_wholeLength_5 ?_
      refine get_62_0 K fl_RX4_9 dX4_wholeLength_6 ?_
      refine r_topi (b := (nI (T 10 0))) (hR.1) ?_
      refine n_icmp_ge K 27 (by omega) (by omega) dX4_wholeLength_9 (by decide) (fun h9 => ?_) (fun h9 => ?_)
      · refine r_iload_n K 1 rfl rfl dX4_wholeLength_27 ?_
        exact r_iret K hr (⟨by rw [h2, show i = T 10 0 by omega], rfl, rfl⟩) dX4_wholeLength_28
      · refine r_iload_n K 1 rfl rfl dX4_wholeLength_12 ?_
        refine r_aload_n K 0 rfl rfl dX4_wholeLength_13 ?_
        refine get_62_3 K fl_RX4_22 dX4_wholeLength_14 ?_
        refine r_iload_n K 2 rfl rfl dX4_wholeLength_17 ?_
        refine r_iald K 1 (n := 8) (by decide) rfl rfl (by decide) (by omega) dX4_wholeLength_18 ?_
        have hq12 : T 1 (i) < 256 := hT.1 1 (i)
        refine r_topi (b := (nI (T 1 (i)))) (hR.2.2 1 (by decide) (i) (show i < 8 by omega)) ?_
        refine r_iadd K dX4_wholeLength_19 ?_
        refine r_topi (nI_add _ _) ?_
        refine r_istore_n K (lv' := [(1, .int (nI (a + (T 1 (i))))), (0, .ref (ad 62)), (2, .int (nI (i)))]) 1 rfl (by decide) rfl dX4_wholeLength_20 ?_
        refine r_iinc K ((nI (i + 1))) rfl (nI_1 _) (lv' := [(2, .int (nI (i + 1))), (1, .int (nI (a + (T 1 (i))))), (0, .ref (ad 62))]) (by decide) rfl dX4_wholeLength_21 ?_
        refine r_goto K 4 dX4_wholeLength_24 (by decide) ?_
        refine r_pick [2, 1, 0] (lv' := [(0, .ref (ad 62)), (1, .int (nI (a + (T 1 (i))))), (2, .int (nI (i + 1)))]) rfl ?_
        exact ihA _ (by omega) (i + 1) (_) rfl (by omega) (by rw [h2]; rfl)
  exact lpA _ (0) (0) rfl (Nat.zero_le _) (rfl)

set_option maxHeartbeats 400000 in
set_option maxRecDepth 10000 in
theorem c_pulled {g : Gp} {lau : Launch} {ad : Nat → Nat} {σ : Sg} {k t s : Nat} {u : Int32} (hk : k ≤ 4) (hs : s ≤ 9) (ht8 : t < 8) (ht : u &&& nI 7 = nI t) : Con g lau yX4_pulled cX4_pulled 5 (Option.some .int) 0 0 [.int (nI (k)), .int (u), .int (nI (s))] ad σ (pu (.int (nI (pullT k t s))) ad σ) := by
  refine con_mk (by decide) (Nat.le_of_ble_eq_true rfl) (fun x hxl K hr => ?_)
  subst hxl
  refine r_lv (lv' := [(0, .int (nI (k))), (1, .int (u)), (2, .int (nI (s)))]) rfl ?_
  refine r_iload_n K 0 rfl rfl dX4_pulled_0 ?_
  refine r_iconst K ((nI (3))) (by decide) dX4_pulled_1 ?_
  refine n_icmp_eq K 10 (by omega) (by omega) dX4_pulled_2 (by decide) (fun h2 => ?_) (fun h2 => ?_)
  · refine r_iconst K ((nI (1))) (by decide) dX4_pulled_10 ?_
    refine r_goto K 15 dX4_pulled_11 (by decide) ?_
    refine r_istore_n K (lv' := [(3, .int (nI (1))), (0, .int (nI (k))), (1, .int (u)), (2, .int (nI (s)))]) 3 rfl (by decide) rfl dX4_pulled_15 ?_
    refine r_iload_n K 2 rfl rfl dX4_pulled_16 ?_
    refine r_iload_n K 3 rfl rfl dX4_pulled_17 ?_
    refine n_if_eq K 32 (by omega) dX4_pulled_18 (by decide) (fun z => absurd z (by decide)) (fun _ => ?_)
    refine r_getsS K fl_RX4_61 dX4_pulled_21 ?_
    refine r_iload_n K 1 rfl rfl dX4_pulled_24 ?_
    refine r_bipush K ((nI (7))) (by decide) dX4_pulled_25 ?_
    refine r_iand K dX4_pulled_27 ?_
    refine r_topi (b := (nI (t))) (ht) ?_
    refine r_tald2 K (ht8) dX4_pulled_28 ?_
    refine r_topi (b := (nI (slN.getD t 0))) ((sail_nat t ht8).1) ?_
    have hsl := (sail_nat t ht8).2
    have hmm : s * slN.getD t 0 ≤ 90 := Nat.le_trans (Nat.mul_le_mul hs hsl) (by decide)
    refine r_goto K 40 dX4_pulled_29 (by decide) ?_
    refine r_imul K dX4_pulled_40 ?_
    refine r_topi (pk_mul _ _) ?_
    refine r_istore K (lv' := [(4, .int (nI (s * (slN.getD t 0)))), (3, .int (nI (1))), (0, .int (nI (k))), (1, .int (u)), (2, .int (nI (s)))]) (by decide) rfl dX4_pulled_41 ?_
    refine r_iload_n K 0 rfl rfl dX4_pulled_43 ?_
    refine r_iconst K ((nI (1))) (by decide) dX4_pulled_44 ?_
    refine n_icmp_ne K 53 (by omega) (by omega) dX4_pulled_45 (by decide) (fun h45 => ?_) (fun h45 => ?_)
    · refine r_iload_n K 0 rfl rfl dX4_pulled_53 ?_
      refine r_iconst K ((nI (4))) (by decide) dX4_pulled_54 ?_
      refine n_icmp_ne K 65 (by omega) (by omega) dX4_pulled_55 (by decide) (fun h55 => ?_) (fun h55 => ?_)
      · refine r_iload K rfl dX4_pulled_65 ?_
        exact r_iret K hr (⟨by first | (exfalso; omega) | (simp only [pullT, pullM]; simp [*]), rfl, rfl⟩) dX4_pulled_67
      · refine r_iload K rfl dX4_pulled_58 ?_
        refine r_iconst K ((nI (2))) (by decide) dX4_pulled_60 ?_
        refine r_idiv K (nI_ne0 (by omega) (by omega)) dX4_pulled_61 ?_
        refine r_topi (pk_div (by omega) (by omega) (by omega)) ?_
        refine r_goto K 67 dX4_pulled_62 (by decide) ?_
        exact r_iret K hr (⟨by first | (exfalso; omega) | (simp only [pullT, pullM]; simp [*]), rfl, rfl⟩) dX4_pulled_67
    · refine r_iconst K ((nI (2))) (by decide) dX4_pulled_48 ?_
      refine r_iload K rfl dX4_pulled_49 ?_
      refine r_imul K dX4_pulled_51 ?_
      refine r_topi (pk_mul _ _) ?_
      exact r_iret K hr (⟨by first | (exfalso; omega) | (simp only [pullT, pullM]; simp [*]), rfl, rfl⟩) dX4_pulled_52
  · refine r_iload_n K 0 rfl rfl dX4_pulled_5 ?_
    refine r_iconst K ((nI (4))) (by decide) dX4_pulled_6 ?_
    refine n_icmp_ne K 14 (by omega) (by omega) dX4_pulled_7 (by decide) (fun h7 => ?_) (fun h7 => ?_)
    · refine r_iconst K ((nI (0))) (by decide) dX4_pulled_14 ?_
      refine r_istore_n K (lv' := [(3, .int (nI (0))), (0, .int (nI (k))), (1, .int (u)), (2, .int (nI (s)))]) 3 rfl (by decide) rfl dX4_pulled_15 ?_
      refine r_iload_n K 2 rfl rfl dX4_pulled_16 ?_
      refine r_iload_n K 3 rfl rfl dX4_pulled_17 ?_
      refine n_if_eq K 32 (by omega) dX4_pulled_18 (by decide) (fun _ => ?_) (fun z => absurd z (by decide))
      refine r_getsT K fl_RX4_64 dX4_pulled_32 ?_
      refine r_iload_n K 1 rfl rfl dX4_pulled_35 ?_
      refine r_bipush K ((nI (7))) (by decide) dX4_pulled_36 ?_
      refine r_iand K dX4_pulled_38 ?_
      refine r_topi (b := (nI (t))) (ht) ?_
      refine r_tald1 K (ht8) dX4_pulled_39 ?_
      refine r_topi (b := (nI (tmN.getD t 0))) ((tms_nat t ht8).1) ?_
      have hsl := (tms_nat t ht8).2
      have hmm : s * tmN.getD t 0 ≤ 90 := Nat.le_trans (Nat.mul_le_mul hs hsl) (by decide)
      refine r_imul K dX4_pulled_40 ?_
      refine r_topi (pk_mul _ _) ?_
      refine r_istore K (lv' := [(4, .int (nI (s * (tmN.getD t 0)))), (3, .int (nI (0))), (0, .int (nI (k))), (1, .int (u)), (2, .int (nI (s)))]) (by decide) rfl dX4_pulled_41 ?_
      refine r_iload_n K 0 rfl rfl dX4_pulled_43 ?_
      refine r_iconst K ((nI (1))) (by decide) dX4_pulled_44 ?_
      refine n_icmp_ne K 53 (by omega) (by omega) dX4_pulled_45 (by decide) (fun h45 => ?_) (fun h45 => ?_)
      · refine r_iload_n K 0 rfl rfl dX4_pulled_53 ?_
        refine r_iconst K ((nI (4))) (by decide) dX4_pulled_54 ?_
        refine n_icmp_ne K 65 (by omega) (by omega) dX4_pulled_55 (by decide) (fun h55 => ?_) (fun h55 => ?_)
        · refine r_iload K rfl dX4_pulled_65 ?_
          exact r_iret K hr (⟨by first | (exfalso; omega) | (simp only [pullT, pullM]; simp [*]), rfl, rfl⟩) dX4_pulled_67
        · refine r_iload K rfl dX4_pulled_58 ?_
          refine r_iconst K ((nI (2))) (by decide) dX4_pulled_60 ?_
          refine r_idiv K (nI_ne0 (by omega) (by omega)) dX4_pulled_61 ?_
          refine r_topi (pk_div (by omega) (by omega) (by omega)) ?_
          refine r_goto K 67 dX4_pulled_62 (by decide) ?_
          exact r_iret K hr (⟨by first | (exfalso; omega) | (simp only [pullT, pullM]; simp [*]), rfl, rfl⟩) dX4_pulled_67
      · refine r_iconst K ((nI (2))) (by decide) dX4_pulled_48 ?_
        refine r_iload K rfl dX4_pulled_49 ?_
        refine r_imul K dX4_pulled_51 ?_
        refine r_topi (pk_mul _ _) ?_
        exact r_iret K hr (⟨by first | (exfalso; omega) | (simp only [pullT, pullM]; simp [*]), rfl, rfl⟩) dX4_pulled_52
    · refine r_iconst K ((nI (1))) (by decide) dX4_pulled_10 ?_
      refine r_goto K 15 dX4_pulled_11 (by decide) ?_
      refine r_istore_n K (lv' := [(3, .int (nI (1))), (0, .int (nI (k))), (1, .int (u)), (2, .int (nI (s)))]) 3 rfl (by decide) rfl dX4_pulled_15 ?_
      refine r_iload_n K 2 rfl rfl dX4_pulled_16 ?_
      refine r_iload_n K 3 rfl rfl dX4_pulled_17 ?_
      refine n_if_eq K 32 (by omega) dX4_pulled_18 (by decide) (fun z => absurd z (by decide)) (fun _ => ?_)
      refine r_getsS K fl_RX4_61 dX4_pulled_21 ?_
      refine r_iload_n K 1 rfl rfl dX4_pulled_24 ?_
      refine r_bipush K ((nI (7))) (by decide) dX4_pulled_25 ?_
      refine r_iand K dX4_pulled_27 ?_
      refine r_topi (b := (nI (t))) (ht) ?_
      refine r_tald2 K (ht8) dX4_pulled_28 ?_
      refine r_topi (b := (nI (slN.getD t 0))) ((sail_nat t ht8).1) ?_
      have hsl := (sail_nat t ht8).2
      have hmm : s * slN.getD t 0 ≤ 90 := Nat.le_trans (Nat.mul_le_mul hs hsl) (by decide)
      refine r_goto K 40 dX4_pulled_29 (by decide) ?_
      refine r_imul K dX4_pulled_40 ?_
      refine r_topi (pk_mul _ _) ?_
      refine r_istore K (lv' := [(4, .int (nI (s * (slN.getD t 0)))), (3, .int (nI (1))), (0, .int (nI (k))), (1, .int (u)), (2, .int (nI (s)))]) (by decide) rfl dX4_pulled_41 ?_
      refine r_iload_n K 0 rfl rfl dX4_pulled_43 ?_
      refine r_iconst K ((nI (1))) (by decide) dX4_pulled_44 ?_
      refine n_icmp_ne K 53 (by omega) (by omega) dX4_pulled_45 (by decide) (fun h45 => ?_) (fun h45 => ?_)
      · refine r_iload_n K 0 rfl rfl dX4_pulled_53 ?_
        refine r_iconst K ((nI (4))) (by decide) dX4_pulled_54 ?_
        refine n_icmp_ne K 65 (by omega) (by omega) dX4_pulled_55 (by decide) (fun h55 => ?_) (fun h55 => ?_)
        · refine r_iload K rfl dX4_pulled_65 ?_
          exact r_iret K hr (⟨by first | (exfalso; omega) | (simp only [pullT, pullM]; simp [*]), rfl, rfl⟩) dX4_pulled_67
        · refine r_iload K rfl dX4_pulled_58 ?_
          refine r_iconst K ((nI (2))) (by decide) dX4_pulled_60 ?_
          refine r_idiv K (nI_ne0 (by omega) (by omega)) dX4_pulled_61 ?_
          refine r_topi (pk_div (by omega) (by omega) (by omega)) ?_
          refine r_goto K 67 dX4_pulled_62 (by decide) ?_
          exact r_iret K hr (⟨by first | (exfalso; omega) | (simp only [pullT, pullM]; simp [*]), rfl, rfl⟩) dX4_pulled_67
      · refine r_iconst K ((nI (2))) (by decide) dX4_pulled_48 ?_
        refine r_iload K rfl dX4_pulled_49 ?_
        refine r_imul K dX4_pulled_51 ?_
        refine r_topi (pk_mul _ _) ?_
        exact r_iret K hr (⟨by first | (exfalso; omega) | (simp only [pullT, pullM]; simp [*]), rfl, rfl⟩) dX4_pulled_52

set_option maxHeartbeats 400000 in
set_option maxRecDepth 10000 in
theorem c_stepOf {g : Gp} {lau : Launch} {ad : Nat → Nat} {σ : Sg} {T : Tv} (hT : TOk T) (hR : RepC T σ) {b r l h : Nat} (hb : b < 4) (hr8 : r < 8) (hl6 : l < 6) (hh : h < 24) : Con g lau yX4_stepOf cX4_stepOf 6 (Option.some .int) 1 24 [.ref (ad 62), .int (nI (b)), .int (nI (r)), .int (nI (l)), .int (nI (h))] ad σ (pu (.int (nI (stepS T b r l h))) ad σ) := by
  refine con_mk (by decide) (Nat.le_of_ble_eq_true rfl) (fun x hxl K hr => ?_)
  subst hxl
  refine r_lv (lv' := [(0, .ref (ad 62)), (1, .int (nI (b))), (2, .int (nI (r))), (3, .int (nI (l))), (4, .int (nI (h)))]) rfl ?_
  have hn8 := hT.2.1
  have hn9 := hT.2.2.1
  refine r_aload_n K 0 rfl rfl dX4_stepOf_0 ?_
  refine get_62_4 K fl_RX4_25 dX4_stepOf_1 ?_
  refine r_iload_n K 2 rfl rfl dX4_stepOf_4 ?_
  refine r_iald K 2 (n := 8) (by decide) rfl rfl (by decide) (by omega) dX4_stepOf_5 ?_
  have hq24 : T 2 (r) < 256 := hT.1 2 (r)
  refine r_topi (b := (nI (T 2 (r)))) (hR.2.2 2 (by decide) (r) (show r < 8 by omega)) ?_
  refine r_iconst K ((nI (1))) (by decide) dX4_stepOf_6 ?_
  refine n_icmp_ne K 15 (by omega) (by omega) dX4_stepOf_7 (by decide) (fun h7 => ?_) (fun h7 => ?_)
  · refine r_aload_n K 0 rfl rfl dX4_stepOf_15 ?_
    refine get_62_8 K fl_RX4_38 dX4_stepOf_16 ?_
    refine r_iload_n K 1 rfl rfl dX4_stepOf_19 ?_
    refine r_iald K 6 (n := 4) (by decide) rfl rfl (by decide) (by omega) dX4_stepOf_20 ?_
    have hq26 : T 6 (b) < 256 := hT.1 6 (b)
    refine r_topi (b := (nI (T 6 (b)))) (hR.2.2 6 (by decide) (b) (show b < 4 by omega)) ?_
    refine r_iconst K ((nI (1))) (by decide) dX4_stepOf_21 ?_
    refine n_icmp_ge K 27 (by omega) (by omega) dX4_stepOf_22 (by decide) (fun h22 => ?_) (fun h22 => ?_)
    · refine r_iload_n K 3 rfl rfl dX4_stepOf_27 ?_
      refine r_bipush K ((nI (24))) (by decide) dX4_stepOf_28 ?_
      refine r_imul K dX4_stepOf_30 ?_
      refine r_topi (pk_mul _ _) ?_
      refine r_iload K rfl dX4_stepOf_31 ?_
      refine r_iadd K dX4_stepOf_33 ?_
      refine r_topi (nI_add _ _) ?_
      refine r_istore K (lv' := [(5, .int (nI ((l * 24) + h))), (0, .ref (ad 62)), (1, .int (nI (b))), (2, .int (nI (r))), (3, .int (nI (l))), (4, .int (nI (h)))]) (by decide) rfl dX4_stepOf_34 ?_
      refine r_aload_n K 0 rfl rfl dX4_stepOf_36 ?_
      refine get_62_10 K fl_RX4_44 dX4_stepOf_37 ?_
      refine r_iload_n K 1 rfl rfl dX4_stepOf_40 ?_
      refine r_iald K 8 (n := 4) (by decide) rfl rfl (by decide) (by omega) dX4_stepOf_41 ?_
      have hq28 : T 8 (b) < 256 := hT.1 8 (b)
      refine r_topi (b := (nI (T 8 (b)))) (hR.2.2 8 (by decide) (b) (show b < 4 by omega)) ?_
      refine r_aload_n K 0 rfl rfl dX4_stepOf_42 ?_
      refine get_62_5 K fl_RX4_28 dX4_stepOf_43 ?_
      refine r_iload K rfl dX4_stepOf_46 ?_
      refine r_iald K 3 (n := 144) (by decide) rfl rfl (by decide) (by omega) dX4_stepOf_48 ?_
      have hq29 : T 3 ((l * 24) + h) < 256 := hT.1 3 ((l * 24) + h)
      refine r_topi (b := (nI (T 3 ((l * 24) + h)))) (hR.2.2 3 (by decide) ((l * 24) + h) (show (l * 24) + h < 144 by omega)) ?_
      refine r_aload_n K 0 rfl rfl dX4_stepOf_49 ?_
      refine get_62_2 K fl_RX4_18 dX4_stepOf_50 ?_
      refine r_iload_n K 2 rfl rfl dX4_stepOf_53 ?_
      refine r_iald K 0 (n := 8) (by decide) rfl rfl (by decide) (by omega) dX4_stepOf_54 ?_
      have hq30 : T 0 (r) < 256 := hT.1 0 (r)
      refine r_topi (b := (nI (T 0 (r)))) (hR.2.2 0 (by decide) (r) (show r < 8 by omega)) ?_
      refine r_isub K dX4_stepOf_55 ?_
      refine r_aload_n K 0 rfl rfl dX4_stepOf_56 ?_
      refine get_62_6 K fl_RX4_31 dX4_stepOf_57 ?_
      refine r_iload K rfl dX4_stepOf_60 ?_
      refine r_iald K 4 (n := 144) (by decide) rfl rfl (by decide) (by omega) dX4_stepOf_62 ?_
      have hq31 : T 4 ((l * 24) + h) < 256 := hT.1 4 ((l * 24) + h)
      refine r_topi (b := (nI (T 4 ((l * 24) + h)))) (hR.2.2 4 (by decide) ((l * 24) + h) (show (l * 24) + h < 144 by omega)) ?_
      refine r_callSp K (As := [.int (nI (T 8 (b))), .int ((nI (T 3 ((l * 24) + h))) - (nI (T 0 (r)))), .int (nI (T 4 ((l * 24) + h)))]) ms_X4_pulled ml_RX4_67 (c_pulled (k := T 8 (b)) (s := T 4 ((l * 24) + h)) (t := (T 3 (l * 24 + h) + 8 - T 0 r) % 8) (hT.2.2.2.2.2.2.1 _).2.2.2.1 (hT.2.2.2.2.2.1 _).2 (Nat.mod_lt _ (by decide)) (turn_and (Nat.lt_succ_of_le (hT.2.2.2.2.2.1 _).1) (Nat.lt_succ_of_le (hT.2.2.2.1 _).1))) rfl rfl (Nat.le_of_ble_eq_true rfl) ⟨by decide, by decide⟩ dX4_stepOf_63 ?_
      refine r_topi (b := (nI (pullS (T 8 b) (awayS (T 3 (l * 24 + h)) (T 0 r)) (T 4 (l * 24 + h))))) (by rw [pullT_S (Nat.lt_succ_of_le (hT.2.2.2.2.2.1 _).1) (Nat.lt_succ_of_le (hT.2.2.2.1 _).1) (hT.2.2.2.2.2.2.1 _).2.2.2.1]) ?_
      have hps : pullS (T 8 b) (awayS (T 3 (l * 24 + h)) (T 0 r)) (T 4 (l * 24 + h)) ≤ 180 := pullS_le (hT.2.2.2.2.2.1 _).2
      refine r_aload_n K 0 rfl rfl dX4_stepOf_66 ?_
      refine get_62_8 K fl_RX4_38 dX4_stepOf_67 ?_
      refine r_iload_n K 1 rfl rfl dX4_stepOf_70 ?_
      refine r_iald K 6 (n := 4) (by decide) rfl rfl (by decide) (by omega) dX4_stepOf_71 ?_
      have hq32 : T 6 (b) < 256 := hT.1 6 (b)
      refine r_topi (b := (nI (T 6 (b)))) (hR.2.2 6 (by decide) (b) (show b < 4 by omega)) ?_
      refine r_idiv K (nI_ne0 (by omega) (by omega)) dX4_stepOf_72 ?_
      refine r_topi (pk_div (by omega) (by omega) (by omega)) ?_
      exact r_iret K hr (⟨by simp only [stepS]; rw [if_neg (fun z => by omega), Nat.mul_comm 24 l], rfl, rfl⟩) dX4_stepOf_73
    · refine r_iconst K ((nI (0))) (by decide) dX4_stepOf_25 ?_
      exact r_iret K hr (⟨by simp only [stepS]; first | (rw [if_pos (show T 2 r = 1 ∧ 1 < l by omega)]; done) | (rw [show T 6 b = 0 by omega, Nat.div_zero]; simp; done), rfl, rfl⟩) dX4_stepOf_26
  · refine r_iload_n K 3 rfl rfl dX4_stepOf_10 ?_
    refine r_iconst K ((nI (1))) (by decide) dX4_stepOf_11 ?_
    refine n_icmp_gt K 25 (by omega) (by omega) dX4_stepOf_12 (by decide) (fun h12 => ?_) (fun h12 => ?_)
    · refine r_iconst K ((nI (0))) (by decide) dX4_stepOf_25 ?_
      exact r_iret K hr (⟨by simp only [stepS]; first | (rw [if_pos (show T 2 r = 1 ∧ 1 < l by omega)]; done) | (rw [show T 6 b = 0 by omega, Nat.div_zero]; simp; done), rfl, rfl⟩) dX4_stepOf_26
    · refine r_aload_n K 0 rfl rfl dX4_stepOf_15 ?_
      refine get_62_8 K fl_RX4_38 dX4_stepOf_16 ?_
      refine r_iload_n K 1 rfl rfl dX4_stepOf_19 ?_
      refine r_iald K 6 (n := 4) (by decide) rfl rfl (by decide) (by omega) dX4_stepOf_20 ?_
      have hq34 : T 6 (b) < 256 := hT.1 6 (b)
      refine r_topi (b := (nI (T 6 (b)))) (hR.2.2 6 (by decide) (b) (show b < 4 by omega)) ?_
      refine r_iconst K ((nI (1))) (by decide) dX4_stepOf_21 ?_
      refine n_icmp_ge K 27 (by omega) (by omega) dX4_stepOf_22 (by decide) (fun h22 => ?_) (fun h22 => ?_)
      · refine r_iload_n K 3 rfl rfl dX4_stepOf_27 ?_
        refine r_bipush K ((nI (24))) (by decide) dX4_stepOf_28 ?_
        refine r_imul K dX4_stepOf_30 ?_
        refine r_topi (pk_mul _ _) ?_
        refine r_iload K rfl dX4_stepOf_31 ?_
        refine r_iadd K dX4_stepOf_33 ?_
        refine r_topi (nI_add _ _) ?_
        refine r_istore K (lv' := [(5, .int (nI ((l * 24) + h))), (0, .ref (ad 62)), (1, .int (nI (b))), (2, .int (nI (r))), (3, .int (nI (l))), (4, .int (nI (h)))]) (by decide) rfl dX4_stepOf_34 ?_
        refine r_aload_n K 0 rfl rfl dX4_stepOf_36 ?_
        refine get_62_10 K fl_RX4_44 dX4_stepOf_37 ?_
        refine r_iload_n K 1 rfl rfl dX4_stepOf_40 ?_
        refine r_iald K 8 (n := 4) (by decide) rfl rfl (by decide) (by omega) dX4_stepOf_41 ?_
        have hq36 : T 8 (b) < 256 := hT.1 8 (b)
        refine r_topi (b := (nI (T 8 (b)))) (hR.2.2 8 (by decide) (b) (show b < 4 by omega)) ?_
        refine r_aload_n K 0 rfl rfl dX4_stepOf_42 ?_
        refine get_62_5 K fl_RX4_28 dX4_stepOf_43 ?_
        refine r_iload K rfl dX4_stepOf_46 ?_
        refine r_iald K 3 (n := 144) (by decide) rfl rfl (by decide) (by omega) dX4_stepOf_48 ?_
        have hq37 : T 3 ((l * 24) + h) < 256 := hT.1 3 ((l * 24) + h)
        refine r_topi (b := (nI (T 3 ((l * 24) + h)))) (hR.2.2 3 (by decide) ((l * 24) + h) (show (l * 24) + h < 144 by omega)) ?_
        refine r_aload_n K 0 rfl rfl dX4_stepOf_49 ?_
        refine get_62_2 K fl_RX4_18 dX4_stepOf_50 ?_
        refine r_iload_n K 2 rfl rfl dX4_stepOf_53 ?_
        refine r_iald K 0 (n := 8) (by decide) rfl rfl (by decide) (by omega) dX4_stepOf_54 ?_
        have hq38 : T 0 (r) < 256 := hT.1 0 (r)
        refine r_topi (b := (nI (T 0 (r)))) (hR.2.2 0 (by decide) (r) (show r < 8 by omega)) ?_
        refine r_isub K dX4_stepOf_55 ?_
        refine r_aload_n K 0 rfl rfl dX4_stepOf_56 ?_
        refine get_62_6 K fl_RX4_31 dX4_stepOf_57 ?_
        refine r_iload K rfl dX4_stepOf_60 ?_
        refine r_iald K 4 (n := 144) (by decide) rfl rfl (by decide) (by omega) dX4_stepOf_62 ?_
        have hq39 : T 4 ((l * 24) + h) < 256 := hT.1 4 ((l * 24) + h)
        refine r_topi (b := (nI (T 4 ((l * 24) + h)))) (hR.2.2 4 (by decide) ((l * 24) + h) (show (l * 24) + h < 144 by omega)) ?_
        refine r_callSp K (As := [.int (nI (T 8 (b))), .int ((nI (T 3 ((l * 24) + h))) - (nI (T 0 (r)))), .int (nI (T 4 ((l * 24) + h)))]) ms_X4_pulled ml_RX4_67 (c_pulled (k := T 8 (b)) (s := T 4 ((l * 24) + h)) (t := (T 3 (l * 24 + h) + 8 - T 0 r) % 8) (hT.2.2.2.2.2.2.1 _).2.2.2.1 (hT.2.2.2.2.2.1 _).2 (Nat.mod_lt _ (by decide)) (turn_and (Nat.lt_succ_of_le (hT.2.2.2.2.2.1 _).1) (Nat.lt_succ_of_le (hT.2.2.2.1 _).1))) rfl rfl (Nat.le_of_ble_eq_true rfl) ⟨by decide, by decide⟩ dX4_stepOf_63 ?_
        refine r_topi (b := (nI (pullS (T 8 b) (awayS (T 3 (l * 24 + h)) (T 0 r)) (T 4 (l * 24 + h))))) (by rw [pullT_S (Nat.lt_succ_of_le (hT.2.2.2.2.2.1 _).1) (Nat.lt_succ_of_le (hT.2.2.2.1 _).1) (hT.2.2.2.2.2.2.1 _).2.2.2.1]) ?_
        have hps : pullS (T 8 b) (awayS (T 3 (l * 24 + h)) (T 0 r)) (T 4 (l * 24 + h)) ≤ 180 := pullS_le (hT.2.2.2.2.2.1 _).2
        refine r_aload_n K 0 rfl rfl dX4_stepOf_66 ?_
        refine get_62_8 K fl_RX4_38 dX4_stepOf_67 ?_
        refine r_iload_n K 1 rfl rfl dX4_stepOf_70 ?_
        refine r_iald K 6 (n := 4) (by decide) rfl rfl (by decide) (by omega) dX4_stepOf_71 ?_
        have hq40 : T 6 (b) < 256 := hT.1 6 (b)
        refine r_topi (b := (nI (T 6 (b)))) (hR.2.2 6 (by decide) (b) (show b < 4 by omega)) ?_
        refine r_idiv K (nI_ne0 (by omega) (by omega)) dX4_stepOf_72 ?_
        refine r_topi (pk_div (by omega) (by omega) (by omega)) ?_
        exact r_iret K hr (⟨by simp only [stepS]; rw [if_neg (fun z => by omega), Nat.mul_comm 24 l], rfl, rfl⟩) dX4_stepOf_73
      · refine r_iconst K ((nI (0))) (by decide) dX4_stepOf_25 ?_
        exact r_iret K hr (⟨by simp only [stepS]; first | (rw [if_pos (show T 2 r = 1 ∧ 1 < l by omega)]; done) | (rw [show T 6 b = 0 by omega, Nat.div_zero]; simp; done), rfl, rfl⟩) dX4_stepOf_26

set_option maxHeartbeats 400000 in
set_option maxRecDepth 10000 in
theorem c_moved {g : Gp} {lau : Launch} {ad : Nat → Nat} {σ : Sg} {T : Tv} (hT : TOk T) (hR : RepC T σ) {b p l h : Nat} (hb : b < 4) (hl6 : l < 6) (hh : h < 24) (hp : p = 160 ∨ p / 20 < T 10 0) : Con g lau yX4_moved cX4_moved 7 (Option.some .int) 2 49 [.ref (ad 62), .int (nI (b)), .int (nI (p)), .int (nI (l)), .int (nI (h))] ad σ (pu (.int (nI (goS T b p l h))) ad σ) := by
  refine con_mk (by decide) (Nat.le_of_ble_eq_true rfl) (fun x hxl K hr => ?_)
  subst hxl
  refine r_lv (lv' := [(0, .ref (ad 62)), (1, .int (nI (b))), (2, .int (nI (p))), (3, .int (nI (l))), (4, .int (nI (h)))]) rfl ?_
  have hn8 := hT.2.1
  have hn9 := hT.2.2.1
  have hp160 : p ≤ 160 := by omega
  have hpn : ¬ p = 160 → p / 20 < T 10 0 := fun z => by omega
  refine r_iload_n K 2 rfl rfl dX4_moved_0 ?_
  refine r_sipush K ((nI (160))) (by decide) dX4_moved_1 ?_
  refine n_icmp_lt K 11 (by omega) (by omega) dX4_moved_4 (by decide) (fun h4 => ?_) (fun h4 => ?_)
  · refine r_iload_n K 2 rfl rfl dX4_moved_11 ?_
    refine r_bipush K ((nI (20))) (by decide) dX4_moved_12 ?_
    refine r_idiv K (nI_ne0 (by omega) (by omega)) dX4_moved_14 ?_
    refine r_topi (pk_div (by omega) (by omega) (by omega)) ?_
    refine r_istore K (lv' := [(5, .int (nI (p / 20))), (0, .ref (ad 62)), (1, .int (nI (b))), (2, .int (nI (p))), (3, .int (nI (l))), (4, .int (nI (h)))]) (by decide) rfl dX4_moved_15 ?_
    refine r_iload_n K 2 rfl rfl dX4_moved_17 ?_
    refine r_bipush K ((nI (20))) (by decide) dX4_moved_18 ?_
    refine r_irem K (nI_ne0 (by omega) (by omega)) dX4_moved_20 ?_
    refine r_topi (pk_rem (by omega) (by omega) (by omega)) ?_
    refine r_aload_n K 0 rfl rfl dX4_moved_21 ?_
    refine r_iload_n K 1 rfl rfl dX4_moved_22 ?_
    refine r_iload K rfl dX4_moved_23 ?_
    refine r_iload_n K 3 rfl rfl dX4_moved_25 ?_
    refine r_iload K rfl dX4_moved_26 ?_
    refine r_callVp K 62 (As := [.int (nI (b)), .int (nI (p / 20)), .int (nI (l)), .int (nI (h))]) mv_X4_stepOf ml_RX4_71 (c_stepOf hT hR (b := b) (r := p / 20) (l := l) (h := h) (by omega) (by omega) (by omega) (by omega)) (by decide) rfl rfl rfl rfl (Nat.le_of_ble_eq_true rfl) ⟨by decide, by decide⟩ dX4_moved_28 ?_
    have hst := stepS_le hT b (p / 20) l h
    refine r_iadd K dX4_moved_31 ?_
    refine r_topi (nI_add _ _) ?_
    refine r_istore K (lv' := [(6, .int (nI ((p % 20) + (stepS T b (p / 20) l h)))), (5, .int (nI (p / 20))), (0, .ref (ad 62)), (1, .int (nI (b))), (2, .int (nI (p))), (3, .int (nI (l))), (4, .int (nI (h)))]) (by decide) rfl dX4_moved_32 ?_
    refine r_iload K rfl dX4_moved_34 ?_
    refine r_aload_n K 0 rfl rfl dX4_moved_36 ?_
    refine get_62_3 K fl_RX4_22 dX4_moved_37 ?_
    refine r_iload K rfl dX4_moved_40 ?_
    refine r_iald K 1 (n := 8) (by decide) rfl rfl (by decide) (by omega) dX4_moved_42 ?_
    have hq42 : T 1 (p / 20) < 256 := hT.1 1 (p / 20)
    refine r_topi (b := (nI (T 1 (p / 20)))) (hR.2.2 1 (by decide) (p / 20) (show p / 20 < 8 by omega)) ?_
    refine n_icmp_ge K 55 (by omega) (by omega) dX4_moved_43 (by decide) (fun h43 => ?_) (fun h43 => ?_)
    · refine r_aload_n K 0 rfl rfl dX4_moved_55 ?_
      refine get_62_4 K fl_RX4_25 dX4_moved_56 ?_
      refine r_iload K rfl dX4_moved_59 ?_
      refine r_iald K 2 (n := 8) (by decide) rfl rfl (by decide) (by omega) dX4_moved_61 ?_
      have hq44 : T 2 (p / 20) < 256 := hT.1 2 (p / 20)
      refine r_topi (b := (nI (T 2 (p / 20)))) (hR.2.2 2 (by decide) (p / 20) (show p / 20 < 8 by omega)) ?_
      refine r_iconst K ((nI (2))) (by decide) dX4_moved_62 ?_
      refine n_icmp_ne K 96 (by omega) (by omega) dX4_moved_63 (by decide) (fun h63 => ?_) (fun h63 => ?_)
      · refine r_iload K rfl dX4_moved_96 ?_
        refine r_iconst K ((nI (1))) (by decide) dX4_moved_98 ?_
        refine r_iadd K dX4_moved_99 ?_
        refine r_topi (nI_add _ _) ?_
        refine r_aload_n K 0 rfl rfl dX4_moved_100 ?_
        refine get_62_0 K fl_RX4_9 dX4_moved_101 ?_
        refine r_topi (b := (nI (T 10 0))) (hR.1) ?_
        refine n_icmp_ge K 117 (by omega) (by omega) dX4_moved_104 (by decide) (fun h104 => ?_) (fun h104 => ?_)
        · refine r_sipush K ((nI (160))) (by decide) dX4_moved_117 ?_
          exact r_iret K hr (⟨by simp only [goS]; rw [if_neg (by omega)]; first | (rw [if_pos h43]; done) | (rw [if_neg (by omega), if_pos ⟨h63, h77⟩]; done) | (rw [if_neg (by omega), if_neg (fun z => by omega), if_pos (by omega)]; done) | (rw [if_neg (by omega), if_neg (fun z => by omega), if_neg (by omega)]; done), rfl, rfl⟩) dX4_moved_120
        · refine r_iload K rfl dX4_moved_107 ?_
          refine r_iconst K ((nI (1))) (by decide) dX4_moved_109 ?_
          refine r_iadd K dX4_moved_110 ?_
          refine r_topi (nI_add _ _) ?_
          refine r_bipush K ((nI (20))) (by decide) dX4_moved_111 ?_
          refine r_imul K dX4_moved_113 ?_
          refine r_topi (pk_mul _ _) ?_
          refine r_topi (b := (nI (20 * (p / 20) + 20))) (by rw [Nat.add_mul, Nat.mul_comm 20]) ?_
          refine r_goto K 120 dX4_moved_114 (by decide) ?_
          exact r_iret K hr (⟨by simp only [goS]; rw [if_neg (by omega)]; first | (rw [if_pos h43]; done) | (rw [if_neg (by omega), if_pos ⟨h63, h77⟩]; done) | (rw [if_neg (by omega), if_neg (fun z => by omega), if_pos (by omega)]; done) | (rw [if_neg (by omega), if_neg (fun z => by omega), if_neg (by omega)]; done), rfl, rfl⟩) dX4_moved_120
      · refine r_aload_n K 0 rfl rfl dX4_moved_66 ?_
        refine get_62_6 K fl_RX4_31 dX4_moved_67 ?_
        refine r_iload K rfl dX4_moved_70 ?_
        refine r_iald K 4 (n := 144) (by decide) rfl rfl (by decide) (by omega) dX4_moved_72 ?_
        have hq47 : T 4 (h) < 256 := hT.1 4 (h)
        refine r_topi (b := (nI (T 4 (h)))) (hR.2.2 4 (by decide) (h) (show h < 144 by omega)) ?_
        refine r_aload_n K 0 rfl rfl dX4_moved_73 ?_
        refine get_62_1 K fl_RX4_15 dX4_moved_74 ?_
        refine r_topi (b := (nI (T 11 0))) (hR.2.1) ?_
        refine n_icmp_le K 96 (by omega) (by omega) dX4_moved_77 (by decide) (fun h77 => ?_) (fun h77 => ?_)
        · refine r_iload K rfl dX4_moved_96 ?_
          refine r_iconst K ((nI (1))) (by decide) dX4_moved_98 ?_
          refine r_iadd K dX4_moved_99 ?_
          refine r_topi (nI_add _ _) ?_
          refine r_aload_n K 0 rfl rfl dX4_moved_100 ?_
          refine get_62_0 K fl_RX4_9 dX4_moved_101 ?_
          refine r_topi (b := (nI (T 10 0))) (hR.1) ?_
          refine n_icmp_ge K 117 (by omega) (by omega) dX4_moved_104 (by decide) (fun h104 => ?_) (fun h104 => ?_)
          · refine r_sipush K ((nI (160))) (by decide) dX4_moved_117 ?_
            exact r_iret K hr (⟨by simp only [goS]; rw [if_neg (by omega)]; first | (rw [if_pos h43]; done) | (rw [if_neg (by omega), if_pos ⟨h63, h77⟩]; done) | (rw [if_neg (by omega), if_neg (fun z => by omega), if_pos (by omega)]; done) | (rw [if_neg (by omega), if_neg (fun z => by omega), if_neg (by omega)]; done), rfl, rfl⟩) dX4_moved_120
          · refine r_iload K rfl dX4_moved_107 ?_
            refine r_iconst K ((nI (1))) (by decide) dX4_moved_109 ?_
            refine r_iadd K dX4_moved_110 ?_
            refine r_topi (nI_add _ _) ?_
            refine r_bipush K ((nI (20))) (by decide) dX4_moved_111 ?_
            refine r_imul K dX4_moved_113 ?_
            refine r_topi (pk_mul _ _) ?_
            refine r_topi (b := (nI (20 * (p / 20) + 20))) (by rw [Nat.add_mul, Nat.mul_comm 20]) ?_
            refine r_goto K 120 dX4_moved_114 (by decide) ?_
            exact r_iret K hr (⟨by simp only [goS]; rw [if_neg (by omega)]; first | (rw [if_pos h43]; done) | (rw [if_neg (by omega), if_pos ⟨h63, h77⟩]; done) | (rw [if_neg (by omega), if_neg (fun z => by omega), if_pos (by omega)]; done) | (rw [if_neg (by omega), if_neg (fun z => by omega), if_neg (by omega)]; done), rfl, rfl⟩) dX4_moved_120
        · refine r_iload K rfl dX4_moved_80 ?_
          refine r_bipush K ((nI (20))) (by decide) dX4_moved_82 ?_
          refine r_imul K dX4_moved_84 ?_
          refine r_topi (pk_mul _ _) ?_
          refine r_aload_n K 0 rfl rfl dX4_moved_85 ?_
          refine get_62_3 K fl_RX4_22 dX4_moved_86 ?_
          refine r_iload K rfl dX4_moved_89 ?_
          refine r_iald K 1 (n := 8) (by decide) rfl rfl (by decide) (by omega) dX4_moved_91 ?_
          have hq50 : T 1 (p / 20) < 256 := hT.1 1 (p / 20)
          refine r_topi (b := (nI (T 1 (p / 20)))) (hR.2.2 1 (by decide) (p / 20) (show p / 20 < 8 by omega)) ?_
          refine r_iadd K dX4_moved_92 ?_
          refine r_topi (nI_add _ _) ?_
          refine r_iconst K ((nI (1))) (by decide) dX4_moved_93 ?_
          refine r_isub K dX4_moved_94 ?_
          refine r_topi (b := (nI (20 * (p / 20) + T 1 (p / 20) - 1))) (by rw [pk_sub (by have := hT.2.2.2.2.1 (p / 20) (hpn (by omega)); omega), Nat.mul_comm 20]) ?_
          exact r_iret K hr (⟨by simp only [goS]; rw [if_neg (by omega)]; first | (rw [if_pos h43]; done) | (rw [if_neg (by omega), if_pos ⟨h63, h77⟩]; done) | (rw [if_neg (by omega), if_neg (fun z => by omega), if_pos (by omega)]; done) | (rw [if_neg (by omega), if_neg (fun z => by omega), if_neg (by omega)]; done), rfl, rfl⟩) dX4_moved_95
    · refine r_iload K rfl dX4_moved_46 ?_
      refine r_bipush K ((nI (20))) (by decide) dX4_moved_48 ?_
      refine r_imul K dX4_moved_50 ?_
      refine r_topi (pk_mul _ _) ?_
      refine r_iload K rfl dX4_moved_51 ?_
      refine r_iadd K dX4_moved_53 ?_
      refine r_topi (nI_add _ _) ?_
      refine r_topi (b := (nI (20 * (p / 20) + (p % 20 + stepS T b (p / 20) l h)))) (by rw [Nat.mul_comm 20]) ?_
      exact r_iret K hr (⟨by simp only [goS]; rw [if_neg (by omega)]; first | (rw [if_pos h43]; done) | (rw [if_neg (by omega), if_pos ⟨h63, h77⟩]; done) | (rw [if_neg (by omega), if_neg (fun z => by omega), if_pos (by omega)]; done) | (rw [if_neg (by omega), if_neg (fun z => by omega), if_neg (by omega)]; done), rfl, rfl⟩) dX4_moved_54
  · refine r_sipush K ((nI (160))) (by decide) dX4_moved_7 ?_
    exact r_iret K hr (⟨by rw [goS, if_pos h4], rfl, rfl⟩) dX4_moved_10
