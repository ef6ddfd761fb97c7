set_option maxHeartbeats 400000 in
set_option maxRecDepth 10000 in
theorem m_in {g : Gp} {lau : Launch} {ad : Nat → Nat} {σ : Sg} (v a b : Int32) : Con g lau yX7_in cX7_in 3 (Option.some .boolean) 0 0 [.int (v), .int (a), .int (b)] ad σ (pu (.int (bI (inS v a b))) ad σ) := by
  refine con_mk (by decide) (Nat.le_of_ble_eq_true rfl) (fun x hxl K hr => ?_)
  subst hxl
  refine r_lv (lv' := [(0, .int (v)), (1, .int (a)), (2, .int (b))]) rfl ?_
  refine r_iload_n K 0 rfl rfl dX7_in_0 ?_
  refine r_iload_n K 1 rfl rfl dX7_in_1 ?_
  refine r_icmp_lt K 14 dX7_in_2 (by decide) (fun h2 => ?_) (fun h2 => ?_)
  · refine r_iconst K ((nI (0))) (by decide) dX7_in_14 ?_
    exact r_zret K (b := false) hr (⟨by rw [show inS v a b = false from decide_eq_false (fun z => by have := Int32.lt_iff_toInt_lt.mp h2; omega)], rfl, rfl⟩) dX7_in_15
  · refine r_iload_n K 0 rfl rfl dX7_in_5 ?_
    refine r_iload_n K 2 rfl rfl dX7_in_6 ?_
    refine r_icmp_gt K 14 dX7_in_7 (by decide) (fun h7 => ?_) (fun h7 => ?_)
    · refine r_iconst K ((nI (0))) (by decide) dX7_in_14 ?_
      exact r_zret K (b := false) hr (⟨by rw [show inS v a b = false from decide_eq_false (fun z => by have := Int32.lt_iff_toInt_lt.mp h7; omega)], rfl, rfl⟩) dX7_in_15
    · refine r_iconst K ((nI (1))) (by decide) dX7_in_10 ?_
      refine r_goto K 15 dX7_in_11 (by decide) ?_
      exact r_zret K (b := true) hr (⟨by rw [show inS v a b = true from decide_eq_true (by rw [Int32.lt_iff_toInt_lt] at h2 h7; omega)], rfl, rfl⟩) dX7_in_15

set_option maxHeartbeats 400000 in
set_option maxRecDepth 10000 in
theorem m_has {g : Gp} {lau : Launch} {ad : Nat → Nat} {σ : Sg} {s k : Nat} (hs : s < 2 ^ 31) (hk : k < 31) : Con g lau yX7_has cX7_has 2 (Option.some .boolean) 0 0 [.int (nI (s)), .int (nI (k))] ad σ (pu (.int (bI (decide (s / 2 ^ k % 2 = 1)))) ad σ) := by
  refine con_mk (by decide) (Nat.le_of_ble_eq_true rfl) (fun x hxl K hr => ?_)
  subst hxl
  refine r_lv (lv' := [(0, .int (nI (s))), (1, .int (nI (k)))]) rfl ?_
  refine r_iload_n K 0 rfl rfl dX7_has_0 ?_
  refine r_iload_n K 1 rfl rfl dX7_has_1 ?_
  refine r_ishr K dX7_has_2 ?_
  refine r_topi (b := (nI (s / 2 ^ k))) (nI_shr hs (by omega)) ?_
  have hdv : s / 2 ^ k ≤ s := Nat.div_le_self _ _
  refine r_iconst K ((nI (1))) (by decide) dX7_has_3 ?_
  refine r_iand K dX7_has_4 ?_
  refine r_topi (b := (nI (s / 2 ^ k % 2))) (nI_and1 (by omega)) ?_
  refine r_iconst K ((nI (1))) (by decide) dX7_has_5 ?_
  refine n_icmp_ne K 13 (by omega) (by omega) dX7_has_6 (by decide) (fun h6 => ?_) (fun h6 => ?_)
  · refine r_iconst K ((nI (0))) (by decide) dX7_has_13 ?_
    exact r_zret K (b := false) hr (⟨by rw [decide_eq_false h6], rfl, rfl⟩) dX7_has_14
  · refine r_iconst K ((nI (1))) (by decide) dX7_has_9 ?_
    refine r_goto K 14 dX7_has_10 (by decide) ?_
    exact r_zret K (b := true) hr (⟨by rw [decide_eq_true h6], rfl, rfl⟩) dX7_has_14

set_option maxHeartbeats 400000 in
set_option maxRecDepth 10000 in
theorem m_off {g : Gp} {lau : Launch} {ad : Nat → Nat} {σ : Sg} {a b : Nat} (ha : a < 2 ^ 31) (hb : b < 2 ^ 31) : Con g lau yX7_off cX7_off 2 (Option.some .int) 0 0 [.int (nI (a)), .int (nI (b))] ad σ (pu (.int (nI (offS a b))) ad σ) := by
  refine con_mk (by decide) (Nat.le_of_ble_eq_true rfl) (fun x hxl K hr => ?_)
  subst hxl
  refine r_lv (lv' := [(0, .int (nI (a))), (1, .int (nI (b)))]) rfl ?_
  refine r_iload_n K 0 rfl rfl dX7_off_0 ?_
  refine r_iload_n K 1 rfl rfl dX7_off_1 ?_
  refine n_icmp_le K 11 (by omega) (by omega) dX7_off_2 (by decide) (fun h2 => ?_) (fun h2 => ?_)
  · refine r_iload_n K 1 rfl rfl dX7_off_11 ?_
    refine r_iload_n K 0 rfl rfl dX7_off_12 ?_
    refine r_isub K dX7_off_13 ?_
    refine r_topi (b := (nI (b - a))) (pk_sub (by omega)) ?_
    exact r_iret K hr (⟨by rw [offS]; first | rw [if_pos h2] | rw [if_neg (by omega)], rfl, rfl⟩) dX7_off_14
  · refine r_iload_n K 0 rfl rfl dX7_off_5 ?_
    refine r_iload_n K 1 rfl rfl dX7_off_6 ?_
    refine r_isub K dX7_off_7 ?_
    refine r_topi (b := (nI (a - b))) (pk_sub (by omega)) ?_
    refine r_goto K 14 dX7_off_8 (by decide) ?_
    exact r_iret K hr (⟨by rw [offS]; first | rw [if_pos h2] | rw [if_neg (by omega)], rfl, rfl⟩) dX7_off_14

set_option maxHeartbeats 400000 in
set_option maxRecDepth 10000 in
theorem m_isBarge {g : Gp} {lau : Launch} {ad : Nat → Nat} {σ : Sg} {T : Tv} (hT : TOk T) (hR : RepM T σ) (v : Int32) : Con g lau yX7_isBarge cX7_isBarge 2 (Option.some .boolean) 1 22 [.ref (ad 71), .int (v)] ad σ (pu (.int (bI (hasB T v))) ad σ) := by
  refine con_mk (by decide) (Nat.le_of_ble_eq_true rfl) (fun x hxl K hr => ?_)
  subst hxl
  refine r_lv (lv' := [(0, .ref (ad 71)), (1, .int (v))]) rfl ?_
  have hn8 := hT.2.1
  have hn9 := hT.2.2.1
  have htb := tbits_lt hT
  refine r_iload_n K 1 rfl rfl dX7_isBarge_0 ?_
  refine r_iconst K ((nI (0))) (by decide) dX7_isBarge_1 ?_
  refine r_iconst K ((nI (3))) (by decide) dX7_isBarge_2 ?_
  refine r_callSp K (As := [.int (v), .int (nI (0)), .int (nI (3))]) ms_X7_in ml_RX7_61 (m_in ((v)) ((nI (0))) ((nI (3)))) rfl rfl (Nat.le_of_ble_eq_true rfl) ⟨by decide, by decide⟩ dX7_isBarge_3 ?_
  refine b_if_eq K 24 dX7_isBarge_6 (by decide) (fun h6 => ?_) (fun h6 => ?_)
  · refine r_iconst K ((nI (0))) (by decide) dX7_isBarge_24 ?_
    exact r_zret K (b := false) hr (⟨by rw [show hasB T v = false from decide_eq_false (fun z => of_decide_eq_false h6 (by rw [nI_toInt (by decide), nI_toInt (by decide)]; omega))], rfl, rfl⟩) dX7_isBarge_25
  · obtain ⟨b, hb, rfl⟩ : ∃ b, b < 4 ∧ v = nI b := by
      obtain ⟨z1, z2⟩ := of_decide_eq_true h6
      rw [nI_toInt (by decide)] at z1 z2
      obtain ⟨j, hj, rfl⟩ := nI_of (x := v) (fun z => by have := neg_toInt z; omega)
      rw [nI_toInt hj] at z2
      exact ⟨j, by omega, rfl⟩
    refine r_aload_n K 0 rfl rfl dX7_isBarge_9 ?_
    refine get_71_4 K fl_RX7_65 dX7_isBarge_10 ?_
    refine r_topi (b := (nI (tbits T))) (hR.2.2.1) ?_
    refine r_iload_n K 1 rfl rfl dX7_isBarge_13 ?_
    refine r_callSp K (As := [.int (nI (tbits T)), .int (nI (b))]) ms_X7_has ml_RX7_68 (m_has (s := tbits T) (k := b) (by omega) (by omega)) rfl rfl (Nat.le_of_ble_eq_true rfl) ⟨by decide, by decide⟩ dX7_isBarge_14 ?_
    refine b_if_eq K 24 dX7_isBarge_17 (by decide) (fun h17 => ?_) (fun h17 => ?_)
    · refine r_iconst K ((nI (0))) (by decide) dX7_isBarge_24 ?_
      exact r_zret K (b := false) hr (⟨by rw [hasB_nI hb, decide_eq_false (by rw [tbits_at hT hb] at h17; exact of_decide_eq_false h17)], rfl, rfl⟩) dX7_isBarge_25
    · refine r_iconst K ((nI (1))) (by decide) dX7_isBarge_20 ?_
      refine r_goto K 25 dX7_isBarge_21 (by decide) ?_
      exact r_zret K (b := true) hr (⟨by rw [hasB_nI hb, decide_eq_true (by rw [tbits_at hT hb] at h17; exact of_decide_eq_true h17)], rfl, rfl⟩) dX7_isBarge_25

set_option maxHeartbeats 400000 in
set_option maxRecDepth 10000 in
theorem m_start {g : Gp} {lau : Launch} {ad : Nat → Nat} {σ : Sg} {T : Tv} (hT : TOk T) (hR : RepM T σ) : Con g lau yX7_start cX7_start 1 (Option.some .int) 0 0 [.ref (ad 71)] ad σ (pu (.int (nI (startS T))) ad σ) := by
  refine con_mk (by decide) (Nat.le_of_ble_eq_true rfl) (fun x hxl K hr => ?_)
  subst hxl
  refine r_lv (lv' := [(0, .ref (ad 71))]) rfl ?_
  have hn8 := hT.2.1
  have hn9 := hT.2.2.1
  have htb := tbits_lt hT
  refine r_aload_n K 0 rfl rfl dX7_start_0 ?_
  refine get_71_0 K fl_RX7_160 dX7_start_1 ?_
  refine r_topi (b := (nI (T 10 0))) (hR.1) ?_
  refine n_if_ne K 13 (by omega) dX7_start_4 (by decide) (fun h4 => ?_) (fun h4 => ?_)
  · refine r_iconst K ((nI (0))) (by decide) dX7_start_13 ?_
    exact r_iret K hr (⟨by rw [startS, if_neg h4], rfl, rfl⟩) dX7_start_14
  · refine r_sipush K ((nI (160))) (by decide) dX7_start_7 ?_
    refine r_goto K 14 dX7_start_10 (by decide) ?_
    exact r_iret K hr (⟨by rw [startS, if_pos h4], rfl, rfl⟩) dX7_start_14

set_option maxHeartbeats 400000 in
set_option maxRecDepth 10000 in
theorem m_isReach {g : Gp} {lau : Launch} {ad : Nat → Nat} {σ : Sg} {T : Tv} (hT : TOk T) (hR : RepM T σ) (v : Int32) : Con g lau yX7_isReach cX7_isReach 2 (Option.some .boolean) 1 22 [.ref (ad 71), .int (v)] ad σ (pu (.int (bI (hasR T v))) ad σ) := by
  refine con_mk (by decide) (Nat.le_of_ble_eq_true rfl) (fun x hxl K hr => ?_)
  subst hxl
  refine r_lv (lv' := [(0, .ref (ad 71)), (1, .int (v))]) rfl ?_
  have hn8 := hT.2.1
  have hn9 := hT.2.2.1
  have htb := tbits_lt hT
  refine r_iload_n K 1 rfl rfl dX7_isReach_0 ?_
  refine r_iconst K ((nI (0))) (by decide) dX7_isReach_1 ?_
  refine r_aload_n K 0 rfl rfl dX7_isReach_2 ?_
  refine get_71_0 K fl_RX7_160 dX7_isReach_3 ?_
  refine r_topi (b := (nI (T 10 0))) (hR.1) ?_
  refine r_iconst K ((nI (1))) (by decide) dX7_isReach_6 ?_
  refine r_isub K dX7_isReach_7 ?_
  refine r_callSp K (As := [.int (v), .int (nI (0)), .int ((nI (T 10 0)) - (nI (1)))]) ms_X7_in ml_RX7_61 (m_in ((v)) ((nI (0))) (((nI (T 10 0)) - (nI (1))))) rfl rfl (Nat.le_of_ble_eq_true rfl) ⟨by decide, by decide⟩ dX7_isReach_8 ?_
  exact r_zret K (b := inS ((v)) ((nI (0))) (((nI (T 10 0)) - (nI (1))))) hr (⟨by rw [hasR_in hT], rfl, rfl⟩) dX7_isReach_11

set_option maxHeartbeats 400000 in
set_option maxRecDepth 10000 in
theorem m_isLayer {g : Gp} {lau : Launch} {ad : Nat → Nat} {σ : Sg} (v : Int32) : Con g lau yX7_isLayer cX7_isLayer 1 (Option.some .boolean) 1 22 [.int (v)] ad σ (pu (.int (bI (isL v))) ad σ) := by
  refine con_mk (by decide) (Nat.le_of_ble_eq_true rfl) (fun x hxl K hr => ?_)
  subst hxl
  refine r_lv (lv' := [(0, .int (v))]) rfl ?_
  refine r_iload_n K 0 rfl rfl dX7_isLayer_0 ?_
  refine r_iconst K ((nI (0))) (by decide) dX7_isLayer_1 ?_
  refine r_iconst K ((nI (5))) (by decide) dX7_isLayer_2 ?_
  refine r_callSp K (As := [.int (v), .int (nI (0)), .int (nI (5))]) ms_X7_in ml_RX7_61 (m_in ((v)) ((nI (0))) ((nI (5)))) rfl rfl (Nat.le_of_ble_eq_true rfl) ⟨by decide, by decide⟩ dX7_isLayer_3 ?_
  exact r_zret K (b := inS ((v)) ((nI (0))) ((nI (5)))) hr (⟨by rw [isL_in], rfl, rfl⟩) dX7_isLayer_6

set_option maxHeartbeats 400000 in
set_option maxRecDepth 10000 in
theorem m_isHour {g : Gp} {lau : Launch} {ad : Nat → Nat} {σ : Sg} (v : Int32) : Con g lau yX7_isHour cX7_isHour 1 (Option.some .boolean) 1 22 [.int (v)] ad σ (pu (.int (bI (isH v))) ad σ) := by
  refine con_mk (by decide) (Nat.le_of_ble_eq_true rfl) (fun x hxl K hr => ?_)
  subst hxl
  refine r_lv (lv' := [(0, .int (v))]) rfl ?_
  refine r_iload_n K 0 rfl rfl dX7_isHour_0 ?_
  refine r_iconst K ((nI (0))) (by decide) dX7_isHour_1 ?_
  refine r_bipush K ((nI (23))) (by decide) dX7_isHour_2 ?_
  refine r_callSp K (As := [.int (v), .int (nI (0)), .int (nI (23))]) ms_X7_in ml_RX7_61 (m_in ((v)) ((nI (0))) ((nI (23)))) rfl rfl (Nat.le_of_ble_eq_true rfl) ⟨by decide, by decide⟩ dX7_isHour_4 ?_
  exact r_zret K (b := inS ((v)) ((nI (0))) ((nI (23)))) hr (⟨by rw [isH_in], rfl, rfl⟩) dX7_isHour_7

set_option maxHeartbeats 400000 in
set_option maxRecDepth 10000 in
theorem m_cordOf {g : Gp} {lau : Launch} {ad : Nat → Nat} {σ : Sg} {T : Tv} (hT : TOk T) (hR : RepM T σ) {b : Nat} (hb : b < 4) : Con g lau yX7_cordOf cX7_cordOf 2 (Option.some .int) 0 0 [.ref (ad 71), .int (nI (b))] ad σ (pu (.int (nI (cordS T b))) ad σ) := by
  refine con_mk (by decide) (Nat.le_of_ble_eq_true rfl) (fun x hxl K hr => ?_)
  subst hxl
  refine r_lv (lv' := [(0, .ref (ad 71)), (1, .int (nI (b)))]) rfl ?_
  refine r_aload_n K 0 rfl rfl dX7_cordOf_0 ?_
  refine get_71_5 K fl_RX7_20 dX7_cordOf_1 ?_
  refine r_iconst K ((nI (4))) (by decide) dX7_cordOf_4 ?_
  refine r_iload_n K 1 rfl rfl dX7_cordOf_5 ?_
  refine r_imul K dX7_cordOf_6 ?_
  refine r_topi (pk_mul _ _) ?_
  refine r_iconst K ((nI (2))) (by decide) dX7_cordOf_7 ?_
  refine r_iadd K dX7_cordOf_8 ?_
  refine r_topi (nI_add _ _) ?_
  refine r_iald K 48 (n := 16) (by decide) rfl rfl (by decide) (by omega) dX7_cordOf_9 ?_
  have hq81 : T 8 (b) < 256 := hT.1 8 (b)
  refine r_topi (b := (nI (T 8 b))) (by rw [show (4 * b) + 2 = 4 * b + 2 by omega]; exact hR.2.2.2.2.2 _ (by omega) 2 (by decide)) ?_
  refine r_iconst K ((nI (2))) (by decide) dX7_cordOf_10 ?_
  refine n_icmp_ne K 18 (by omega) (by omega) dX7_cordOf_11 (by decide) (fun h11 => ?_) (fun h11 => ?_)
  · refine r_aload_n K 0 rfl rfl dX7_cordOf_18 ?_
    refine get_71_5 K fl_RX7_20 dX7_cordOf_19 ?_
    refine r_iconst K ((nI (4))) (by decide) dX7_cordOf_22 ?_
    refine r_iload_n K 1 rfl rfl dX7_cordOf_23 ?_
    refine r_imul K dX7_cordOf_24 ?_
    refine r_topi (pk_mul _ _) ?_
    refine r_iconst K ((nI (1))) (by decide) dX7_cordOf_25 ?_
    refine r_iadd K dX7_cordOf_26 ?_
    refine r_topi (nI_add _ _) ?_
    refine r_iald K 48 (n := 16) (by decide) rfl rfl (by decide) (by omega) dX7_cordOf_27 ?_
    have hq83 : T 7 (b) < 256 := hT.1 7 (b)
    refine r_topi (b := (nI (T 7 b))) (by rw [show (4 * b) + 1 = 4 * b + 1 by omega]; exact hR.2.2.2.2.2 _ (by omega) 1 (by decide)) ?_
    exact r_iret K hr (⟨by rw [cordS, if_neg h11], rfl, rfl⟩) dX7_cordOf_28
  · refine r_iconst K ((nI (1))) (by decide) dX7_cordOf_14 ?_
    refine r_goto K 28 dX7_cordOf_15 (by decide) ?_
    exact r_iret K hr (⟨by rw [cordS, if_pos h11], rfl, rfl⟩) dX7_cordOf_28

set_option maxHeartbeats 400000 in
set_option maxRecDepth 10000 in
theorem m_pull {g : Gp} {lau : Launch} {ad : Nat → Nat} {σ : Sg} {k w s : Nat} (hk : k ≤ 4) (hw : w ≤ 8) (hs : s ≤ 9) : Con g lau yX7_pull cX7_pull 4 (Option.some .int) 0 0 [.int (nI (k)), .int (nI (w)), .int (nI (s))] ad σ (pu (.int (nI (pullS k w s))) ad σ) := by
  refine con_mk (by decide) (Nat.le_of_ble_eq_true rfl) (fun x hxl K hr => ?_)
  subst hxl
  refine r_lv (lv' := [(0, .int (nI (k))), (1, .int (nI (w))), (2, .int (nI (s)))]) rfl ?_
  refine r_iload_n K 1 rfl rfl dX7_pull_0 ?_
  refine n_if_ne K 11 (by omega) dX7_pull_1 (by decide) (fun h1 => ?_) (fun h1 => ?_)
  · refine r_iload_n K 1 rfl rfl dX7_pull_11 ?_
    refine r_iconst K ((nI (1))) (by decide) dX7_pull_12 ?_
    refine n_icmp_ne K 23 (by omega) (by omega) dX7_pull_13 (by decide) (fun h13 => ?_) (fun h13 => ?_)
    · refine r_iload_n K 1 rfl rfl dX7_pull_23 ?_
      refine r_iconst K ((nI (2))) (by decide) dX7_pull_24 ?_
      refine n_icmp_ne K 39 (by omega) (by omega) dX7_pull_25 (by decide) (fun h25 => ?_) (fun h25 => ?_)
      · refine r_iconst K ((nI (0))) (by decide) dX7_pull_39 ?_
        refine r_istore_n K (lv' := [(3, .int (nI (0))), (0, .int (nI (k))), (1, .int (nI (w))), (2, .int (nI (s)))]) 3 rfl (by decide) rfl dX7_pull_40 ?_
        refine r_iload_n K 0 rfl rfl dX7_pull_41 ?_
        refine r_iconst K ((nI (1))) (by decide) dX7_pull_42 ?_
        refine n_icmp_ne K 52 (by omega) (by omega) dX7_pull_43 (by decide) (fun h43 => ?_) (fun h43 => ?_)
        · refine r_iload_n K 0 rfl rfl dX7_pull_52 ?_
          refine r_iconst K ((nI (4))) (by decide) dX7_pull_53 ?_
          refine n_icmp_ne K 63 (by omega) (by omega) dX7_pull_54 (by decide) (fun h54 => ?_) (fun h54 => ?_)
          · refine r_iload_n K 3 rfl rfl dX7_pull_63 ?_
            exact r_iret K hr (⟨by first | (exfalso; omega) | (simp only [pullS, pull0]; simp [*]; done) | (simp only [pullS, pull0]; rw [if_neg (show ¬ w = 0 by omega), if_neg (show ¬ w = 1 by omega), if_neg (show ¬ (w = 2 ∧ 2 < k) by omega)]; simp [*]; done), rfl, rfl⟩) dX7_pull_64
          · refine r_iload_n K 3 rfl rfl dX7_pull_57 ?_
            refine r_iconst K ((nI (2))) (by decide) dX7_pull_58 ?_
            refine r_idiv K (nI_ne0 (by omega) (by omega)) dX7_pull_59 ?_
            refine r_topi (pk_div (by omega) (by omega) (by omega)) ?_
            refine r_goto K 64 dX7_pull_60 (by decide) ?_
            exact r_iret K hr (⟨by first | (exfalso; omega) | (simp only [pullS, pull0]; simp [*]; done) | (simp only [pullS, pull0]; rw [if_neg (show ¬ w = 0 by omega), if_neg (show ¬ w = 1 by omega), if_neg (show ¬ (w = 2 ∧ 2 < k) by omega)]; simp [*]; done), rfl, rfl⟩) dX7_pull_64
        · refine r_iconst K ((nI (2))) (by decide) dX7_pull_46 ?_
          refine r_iload_n K 3 rfl rfl dX7_pull_47 ?_
          refine r_imul K dX7_pull_48 ?_
          refine r_topi (pk_mul _ _) ?_
          refine r_goto K 64 dX7_pull_49 (by decide) ?_
          exact r_iret K hr (⟨by first | (exfalso; omega) | (simp only [pullS, pull0]; simp [*]; done) | (simp only [pullS, pull0]; rw [if_neg (show ¬ w = 0 by omega), if_neg (show ¬ w = 1 by omega), if_neg (show ¬ (w = 2 ∧ 2 < k) by omega)]; simp [*]; done), rfl, rfl⟩) dX7_pull_64
      · refine r_iload_n K 0 rfl rfl dX7_pull_28 ?_
        refine r_iconst K ((nI (2))) (by decide) dX7_pull_29 ?_
        refine n_icmp_le K 39 (by omega) (by omega) dX7_pull_30 (by decide) (fun h30 => ?_) (fun h30 => ?_)
        · refine r_iconst K ((nI (0))) (by decide) dX7_pull_39 ?_
          refine r_istore_n K (lv' := [(3, .int (nI (0))), (0, .int (nI (k))), (1, .int (nI (w))), (2, .int (nI (s)))]) 3 rfl (by decide) rfl dX7_pull_40 ?_
          refine r_iload_n K 0 rfl rfl dX7_pull_41 ?_
          refine r_iconst K ((nI (1))) (by decide) dX7_pull_42 ?_
          refine n_icmp_ne K 52 (by omega) (by omega) dX7_pull_43 (by decide) (fun h43 => ?_) (fun h43 => ?_)
          · refine r_iload_n K 0 rfl rfl dX7_pull_52 ?_
            refine r_iconst K ((nI (4))) (by decide) dX7_pull_53 ?_
            refine n_icmp_ne K 63 (by omega) (by omega) dX7_pull_54 (by decide) (fun h54 => ?_) (fun h54 => ?_)
            · refine r_iload_n K 3 rfl rfl dX7_pull_63 ?_
              exact r_iret K hr (⟨by first | (exfalso; omega) | (simp only [pullS, pull0]; simp [*]; done) | (simp only [pullS, pull0]; rw [if_neg (show ¬ w = 0 by omega), if_neg (show ¬ w = 1 by omega), if_neg (show ¬ (w = 2 ∧ 2 < k) by omega)]; simp [*]; done), rfl, rfl⟩) dX7_pull_64
            · refine r_iload_n K 3 rfl rfl dX7_pull_57 ?_
              refine r_iconst K ((nI (2))) (by decide) dX7_pull_58 ?_
              refine r_idiv K (nI_ne0 (by omega) (by omega)) dX7_pull_59 ?_
              refine r_topi (pk_div (by omega) (by omega) (by omega)) ?_
              refine r_goto K 64 dX7_pull_60 (by decide) ?_
              exact r_iret K hr (⟨by first | (exfalso; omega) | (simp only [pullS, pull0]; simp [*]; done) | (simp only [pullS, pull0]; rw [if_neg (show ¬ w = 0 by omega), if_neg (show ¬ w = 1 by omega), if_neg (show ¬ (w = 2 ∧ 2 < k) by omega)]; simp [*]; done), rfl, rfl⟩) dX7_pull_64
          · refine r_iconst K ((nI (2))) (by decide) dX7_pull_46 ?_
            refine r_iload_n K 3 rfl rfl dX7_pull_47 ?_
            refine r_imul K dX7_pull_48 ?_
            refine r_topi (pk_mul _ _) ?_
            refine r_goto K 64 dX7_pull_49 (by decide) ?_
            exact r_iret K hr (⟨by first | (exfalso; omega) | (simp only [pullS, pull0]; simp [*]; done) | (simp only [pullS, pull0]; rw [if_neg (show ¬ w = 0 by omega), if_neg (show ¬ w = 1 by omega), if_neg (show ¬ (w = 2 ∧ 2 < k) by omega)]; simp [*]; done), rfl, rfl⟩) dX7_pull_64
        · refine r_iconst K ((nI (5))) (by decide) dX7_pull_33 ?_
          refine r_iload_n K 2 rfl rfl dX7_pull_34 ?_
          refine r_imul K dX7_pull_35 ?_
          refine r_topi (pk_mul _ _) ?_
          refine r_goto K 40 dX7_pull_36 (by decide) ?_
          refine r_istore_n K (lv' := [(3, .int (nI (5 * s))), (0, .int (nI (k))), (1, .int (nI (w))), (2, .int (nI (s)))]) 3 rfl (by decide) rfl dX7_pull_40 ?_
          refine r_iload_n K 0 rfl rfl dX7_pull_41 ?_
          refine r_iconst K ((nI (1))) (by decide) dX7_pull_42 ?_
          refine n_icmp_ne K 52 (by omega) (by omega) dX7_pull_43 (by decide) (fun h43 => ?_) (fun h43 => ?_)
          · refine r_iload_n K 0 rfl rfl dX7_pull_52 ?_
            refine r_iconst K ((nI (4))) (by decide) dX7_pull_53 ?_
            refine n_icmp_ne K 63 (by omega) (by omega) dX7_pull_54 (by decide) (fun h54 => ?_) (fun h54 => ?_)
            · refine r_iload_n K 3 rfl rfl dX7_pull_63 ?_
              exact r_iret K hr (⟨by first | (exfalso; omega) | (simp only [pullS, pull0]; simp [*]; done) | (simp only [pullS, pull0]; rw [if_neg (show ¬ w = 0 by omega), if_neg (show ¬ w = 1 by omega), if_neg (show ¬ (w = 2 ∧ 2 < k) by omega)]; simp [*]; done), rfl, rfl⟩) dX7_pull_64
            · refine r_iload_n K 3 rfl rfl dX7_pull_57 ?_
              refine r_iconst K ((nI (2))) (by decide) dX7_pull_58 ?_
              refine r_idiv K (nI_ne0 (by omega) (by omega)) dX7_pull_59 ?_
              refine r_topi (pk_div (by omega) (by omega) (by omega)) ?_
              refine r_goto K 64 dX7_pull_60 (by decide) ?_
              exact r_iret K hr (⟨by first | (exfalso; omega) | (simp only [pullS, pull0]; simp [*]; done) | (simp only [pullS, pull0]; rw [if_neg (show ¬ w = 0 by omega), if_neg (show ¬ w = 1 by omega), if_neg (show ¬ (w = 2 ∧ 2 < k) by omega)]; simp [*]; done), rfl, rfl⟩) dX7_pull_64
          · refine r_iconst K ((nI (2))) (by decide) dX7_pull_46 ?_
            refine r_iload_n K 3 rfl rfl dX7_pull_47 ?_
            refine r_imul K dX7_pull_48 ?_
            refine r_topi (pk_mul _ _) ?_
            refine r_goto K 64 dX7_pull_49 (by decide) ?_
            exact r_iret K hr (⟨by first | (exfalso; omega) | (simp only [pullS, pull0]; simp [*]; done) | (simp only [pullS, pull0]; rw [if_neg (show ¬ w = 0 by omega), if_neg (show ¬ w = 1 by omega), if_neg (show ¬ (w = 2 ∧ 2 < k) by omega)]; simp [*]; done), rfl, rfl⟩) dX7_pull_64
    · refine r_bipush K ((nI (7))) (by decide) dX7_pull_16 ?_
      refine r_iload_n K 2 rfl rfl dX7_pull_18 ?_
      refine r_imul K dX7_pull_19 ?_
      refine r_topi (pk_mul _ _) ?_
      refine r_goto K 40 dX7_pull_20 (by decide) ?_
      refine r_istore_n K (lv' := [(3, .int (nI (7 * s))), (0, .int (nI (k))), (1, .int (nI (w))), (2, .int (nI (s)))]) 3 rfl (by decide) rfl dX7_pull_40 ?_
      refine r_iload_n K 0 rfl rfl dX7_pull_41 ?_
      refine r_iconst K ((nI (1))) (by decide) dX7_pull_42 ?_
      refine n_icmp_ne K 52 (by omega) (by omega) dX7_pull_43 (by decide) (fun h43 => ?_) (fun h43 => ?_)
      · refine r_iload_n K 0 rfl rfl dX7_pull_52 ?_
        refine r_iconst K ((nI (4))) (by decide) dX7_pull_53 ?_
        refine n_icmp_ne K 63 (by omega) (by omega) dX7_pull_54 (by decide) (fun h54 => ?_) (fun h54 => ?_)
        · refine r_iload_n K 3 rfl rfl dX7_pull_63 ?_
          exact r_iret K hr (⟨by first | (exfalso; omega) | (simp only [pullS, pull0]; simp [*]; done) | (simp only [pullS, pull0]; rw [if_neg (show ¬ w = 0 by omega), if_neg (show ¬ w = 1 by omega), if_neg (show ¬ (w = 2 ∧ 2 < k) by omega)]; simp [*]; done), rfl, rfl⟩) dX7_pull_64
        · refine r_iload_n K 3 rfl rfl dX7_pull_57 ?_
          refine r_iconst K ((nI (2))) (by decide) dX7_pull_58 ?_
          refine r_idiv K (nI_ne0 (by omega) (by omega)) dX7_pull_59 ?_
          refine r_topi (pk_div (by omega) (by omega) (by omega)) ?_
          refine r_goto K 64 dX7_pull_60 (by decide) ?_
          exact r_iret K hr (⟨by first | (exfalso; omega) | (simp only [pullS, pull0]; simp [*]; done) | (simp only [pullS, pull0]; rw [if_neg (show ¬ w = 0 by omega), if_neg (show ¬ w = 1 by omega), if_neg (show ¬ (w = 2 ∧ 2 < k) by omega)]; simp [*]; done), rfl, rfl⟩) dX7_pull_64
      · refine r_iconst K ((nI (2))) (by decide) dX7_pull_46 ?_
        refine r_iload_n K 3 rfl rfl dX7_pull_47 ?_
        refine r_imul K dX7_pull_48 ?_
        refine r_topi (pk_mul _ _) ?_
        refine r_goto K 64 dX7_pull_49 (by decide) ?_
        exact r_iret K hr (⟨by first | (exfalso; omega) | (simp only [pullS, pull0]; simp [*]; done) | (simp only [pullS, pull0]; rw [if_neg (show ¬ w = 0 by omega), if_neg (show ¬ w = 1 by omega), if_neg (show ¬ (w = 2 ∧ 2 < k) by omega)]; simp [*]; done), rfl, rfl⟩) dX7_pull_64
  · refine r_bipush K ((nI (10))) (by decide) dX7_pull_4 ?_
    refine r_iload_n K 2 rfl rfl dX7_pull_6 ?_
    refine r_imul K dX7_pull_7 ?_
    refine r_topi (pk_mul _ _) ?_
    refine r_goto K 40 dX7_pull_8 (by decide) ?_
    refine r_istore_n K (lv' := [(3, .int (nI (10 * s))), (0, .int (nI (k))), (1, .int (nI (w))), (2, .int (nI (s)))]) 3 rfl (by decide) rfl dX7_pull_40 ?_
    refine r_iload_n K 0 rfl rfl dX7_pull_41 ?_
    refine r_iconst K ((nI (1))) (by decide) dX7_pull_42 ?_
    refine n_icmp_ne K 52 (by omega) (by omega) dX7_pull_43 (by decide) (fun h43 => ?_) (fun h43 => ?_)
    · refine r_iload_n K 0 rfl rfl dX7_pull_52 ?_
      refine r_iconst K ((nI (4))) (by decide) dX7_pull_53 ?_
      refine n_icmp_ne K 63 (by omega) (by omega) dX7_pull_54 (by decide) (fun h54 => ?_) (fun h54 => ?_)
      · refine r_iload_n K 3 rfl rfl dX7_pull_63 ?_
        exact r_iret K hr (⟨by first | (exfalso; omega) | (simp only [pullS, pull0]; simp [*]; done) | (simp only [pullS, pull0]; rw [if_neg (show ¬ w = 0 by omega), if_neg (show ¬ w = 1 by omega), if_neg (show ¬ (w = 2 ∧ 2 < k) by omega)]; simp [*]; done), rfl, rfl⟩) dX7_pull_64
      · refine r_iload_n K 3 rfl rfl dX7_pull_57 ?_
        refine r_iconst K ((nI (2))) (by decide) dX7_pull_58 ?_
        refine r_idiv K (nI_ne0 (by omega) (by omega)) dX7_pull_59 ?_
        refine r_topi (pk_div (by omega) (by omega) (by omega)) ?_
        refine r_goto K 64 dX7_pull_60 (by decide) ?_
        exact r_iret K hr (⟨by first | (exfalso; omega) | (simp only [pullS, pull0]; simp [*]; done) | (simp only [pullS, pull0]; rw [if_neg (show ¬ w = 0 by omega), if_neg (show ¬ w = 1 by omega), if_neg (show ¬ (w = 2 ∧ 2 < k) by omega)]; simp [*]; done), rfl, rfl⟩) dX7_pull_64
    · refine r_iconst K ((nI (2))) (by decide) dX7_pull_46 ?_
      refine r_iload_n K 3 rfl rfl dX7_pull_47 ?_
      refine r_imul K dX7_pull_48 ?_
      refine r_topi (pk_mul _ _) ?_
      refine r_goto K 64 dX7_pull_49 (by decide) ?_
      exact r_iret K hr (⟨by first | (exfalso; omega) | (simp only [pullS, pull0]; simp [*]; done) | (simp only [pullS, pull0]; rw [if_neg (show ¬ w = 0 by omega), if_neg (show ¬ w = 1 by omega), if_neg (show ¬ (w = 2 ∧ 2 < k) by omega)]; simp [*]; done), rfl, rfl⟩) dX7_pull_64

set_option maxHeartbeats 400000 in
set_option maxRecDepth 10000 in
theorem m_yardsOf {g : Gp} {lau : Launch} {ad : Nat → Nat} {σ : Sg} {T : Tv} (hT : TOk T) (hR : RepM T σ) {b r l h : Nat} (hb : b < 4) (hw1 : 1 ≤ T 6 b) (hr8 : r < 8) (hl6 : l < 6) (hh : h < 24) : Con g lau yX7_yardsOf cX7_yardsOf 6 (Option.some .int) 1 23 [.ref (ad 71), .int (nI (b)), .int (nI (r)), .int (nI (l)), .int (nI (h))] ad σ (pu (.int (nI (stepS T b r l h))) ad σ) := by
  refine con_mk (by decide) (Nat.le_of_ble_eq_true rfl) (fun x hxl K hr => ?_)
  subst hxl
  refine r_lv (lv' := [(0, .ref (ad 71)), (1, .int (nI (b))), (2, .int (nI (r))), (3, .int (nI (l))), (4, .int (nI (h)))]) rfl ?_
  have hn8 := hT.2.1
  have hn9 := hT.2.2.1
  have htb := tbits_lt hT
  refine r_aload_n K 0 rfl rfl dX7_yardsOf_0 ?_
  refine get_71_2 K fl_RX7_13 dX7_yardsOf_1 ?_
  refine r_bipush K ((nI (48))) (by decide) dX7_yardsOf_4 ?_
  refine r_iload_n K 3 rfl rfl dX7_yardsOf_6 ?_
  refine r_imul K dX7_yardsOf_7 ?_
  refine r_topi (pk_mul _ _) ?_
  refine r_iconst K ((nI (2))) (by decide) dX7_yardsOf_8 ?_
  refine r_iload K rfl dX7_yardsOf_9 ?_
  refine r_imul K dX7_yardsOf_11 ?_
  refine r_topi (pk_mul _ _) ?_
  refine r_iadd K dX7_yardsOf_12 ?_
  refine r_topi (nI_add _ _) ?_
  refine r_iald K 47 (n := 288) (by decide) rfl rfl (by decide) (by omega) dX7_yardsOf_13 ?_
  have hq98 : T 3 (24 * l + h) < 256 := hT.1 3 (24 * l + h)
  refine r_topi (b := (nI (T 3 (24 * l + h)))) (by rw [show (48 * l) + (2 * h) = 2 * (24 * l + h) by omega]; exact (hR.2.2.2.2.1 _ (by omega)).1) ?_
  refine r_aload_n K 0 rfl rfl dX7_yardsOf_14 ?_
  refine get_71_1 K fl_RX7_7 dX7_yardsOf_15 ?_
  refine r_iconst K ((nI (3))) (by decide) dX7_yardsOf_18 ?_
  refine r_iload_n K 2 rfl rfl dX7_yardsOf_19 ?_
  refine r_imul K dX7_yardsOf_20 ?_
  refine r_topi (pk_mul _ _) ?_
  refine r_iald K 46 (n := 24) (by decide) rfl rfl (by decide) (by omega) dX7_yardsOf_21 ?_
  have hq99 : T 0 (r) < 256 := hT.1 0 (r)
  refine r_topi (b := (nI (T 0 r))) (by rw [show 3 * r = 3 * r + 0 by omega]; exact hR.2.2.2.1 _ (by omega) 0 (by decide)) ?_
  refine r_callSp K (As := [.int (nI (T 3 (24 * l + h))), .int (nI (T 0 r))]) ms_X7_off ml_RX7_197 (m_off (a := T 3 (24 * l + h)) (b := T 0 r) (by omega) (by omega)) rfl rfl (Nat.le_of_ble_eq_true rfl) ⟨by decide, by decide⟩ dX7_yardsOf_22 ?_
  have hof := offS_lt (n := 8) (Nat.lt_succ_of_le (hT.2.2.2.2.2.1 (24 * l + h)).1) (Nat.lt_succ_of_le (hT.2.2.2.1 r).1)
  refine r_istore K (lv' := [(5, .int (nI (offS (T 3 (24 * l + h)) (T 0 r)))), (0, .ref (ad 71)), (1, .int (nI (b))), (2, .int (nI (r))), (3, .int (nI (l))), (4, .int (nI (h)))]) (by decide) rfl dX7_yardsOf_25 ?_
  refine r_iload K rfl dX7_yardsOf_27 ?_
  refine r_iconst K ((nI (4))) (by decide) dX7_yardsOf_29 ?_
  refine n_icmp_le K 41 (by omega) (by omega) dX7_yardsOf_30 (by decide) (fun h30 => ?_) (fun h30 => ?_)
  · refine r_iload K rfl dX7_yardsOf_41 ?_
    refine r_istore K (lv' := [(5, .int (nI (offS (T 3 (24 * l + h)) (T 0 r)))), (0, .ref (ad 71)), (1, .int (nI (b))), (2, .int (nI (r))), (3, .int (nI (l))), (4, .int (nI (h)))]) (by decide) rfl dX7_yardsOf_43 ?_
    have hw101 : offS (T 3 (24 * l + h)) (T 0 r) = awayS (T 3 (24 * l + h)) (T 0 r) := by rw [awayS, if_neg (by omega)]
    rw [hw101]
    have haw : awayS (T 3 (24 * l + h)) (T 0 r) ≤ 8 := by rw [← hw101]; omega
    refine r_aload_n K 0 rfl rfl dX7_yardsOf_45 ?_
    refine get_71_1 K fl_RX7_7 dX7_yardsOf_46 ?_
    refine r_iconst K ((nI (3))) (by decide) dX7_yardsOf_49 ?_
    refine r_iload_n K 2 rfl rfl dX7_yardsOf_50 ?_
    refine r_imul K dX7_yardsOf_51 ?_
    refine r_topi (pk_mul _ _) ?_
    refine r_iconst K ((nI (2))) (by decide) dX7_yardsOf_52 ?_
    refine r_iadd K dX7_yardsOf_53 ?_
    refine r_topi (nI_add _ _) ?_
    refine r_iald K 46 (n := 24) (by decide) rfl rfl (by decide) (by omega) dX7_yardsOf_54 ?_
    have hq102 : T 2 (r) < 256 := hT.1 2 (r)
    refine r_topi (b := (nI (T 2 r))) (by rw [show (3 * r) + 2 = 3 * r + 2 by omega]; exact hR.2.2.2.1 _ (by omega) 2 (by decide)) ?_
    refine r_iconst K ((nI (1))) (by decide) dX7_yardsOf_55 ?_
    refine n_icmp_ne K 68 (by omega) (by omega) dX7_yardsOf_56 (by decide) (fun h56 => ?_) (fun h56 => ?_)
    · refine r_aload_n K 0 rfl rfl dX7_yardsOf_68 ?_
      refine get_71_5 K fl_RX7_20 dX7_yardsOf_69 ?_
      refine r_iconst K ((nI (4))) (by decide) dX7_yardsOf_72 ?_
      refine r_iload_n K 1 rfl rfl dX7_yardsOf_73 ?_
      refine r_imul K dX7_yardsOf_74 ?_
      refine r_topi (pk_mul _ _) ?_
      refine r_iconst K ((nI (2))) (by decide) dX7_yardsOf_75 ?_
      refine r_iadd K dX7_yardsOf_76 ?_
      refine r_topi (nI_add _ _) ?_
      refine r_iald K 48 (n := 16) (by decide) rfl rfl (by decide) (by omega) dX7_yardsOf_77 ?_
      have hq104 : T 8 (b) < 256 := hT.1 8 (b)
      refine r_topi (b := (nI (T 8 b))) (by rw [show (4 * b) + 2 = 4 * b + 2 by omega]; exact hR.2.2.2.2.2 _ (by omega) 2 (by decide)) ?_
      refine r_iload K rfl dX7_yardsOf_78 ?_
      refine r_aload_n K 0 rfl rfl dX7_yardsOf_80 ?_
      refine get_71_2 K fl_RX7_13 dX7_yardsOf_81 ?_
      refine r_bipush K ((nI (48))) (by decide) dX7_yardsOf_84 ?_
      refine r_iload_n K 3 rfl rfl dX7_yardsOf_86 ?_
      refine r_imul K dX7_yardsOf_87 ?_
      refine r_topi (pk_mul _ _) ?_
      refine r_iconst K ((nI (2))) (by decide) dX7_yardsOf_88 ?_
      refine r_iload K rfl dX7_yardsOf_89 ?_
      refine r_imul K dX7_yardsOf_91 ?_
      refine r_topi (pk_mul _ _) ?_
      refine r_iadd K dX7_yardsOf_92 ?_
      refine r_topi (nI_add _ _) ?_
      refine r_iconst K ((nI (1))) (by decide) dX7_yardsOf_93 ?_
      refine r_iadd K dX7_yardsOf_94 ?_
      refine r_topi (nI_add _ _) ?_
      refine r_iald K 47 (n := 288) (by decide) rfl rfl (by decide) (by omega) dX7_yardsOf_95 ?_
      have hq105 : T 4 (24 * l + h) < 256 := hT.1 4 (24 * l + h)
      refine r_topi (b := (nI (T 4 (24 * l + h)))) (by rw [show ((48 * l) + (2 * h)) + 1 = 2 * (24 * l + h) + 1 by omega]; exact (hR.2.2.2.2.1 _ (by omega)).2) ?_
      refine r_callSp K (As := [.int (nI (T 8 b)), .int (nI (awayS (T 3 (24 * l + h)) (T 0 r))), .int (nI (T 4 (24 * l + h)))]) ms_X7_pull ml_RX7_193 (m_pull (k := T 8 b) (w := awayS (T 3 (24 * l + h)) (T 0 r)) (s := T 4 (24 * l + h)) (hT.2.2.2.2.2.2.1 _).2.2.2.1 haw (hT.2.2.2.2.2.1 _).2) rfl rfl (Nat.le_of_ble_eq_true rfl) ⟨by decide, by decide⟩ dX7_yardsOf_96 ?_
      have hps := pullS_le (k := T 8 b) (w := awayS (T 3 (24 * l + h)) (T 0 r)) (hT.2.2.2.2.2.1 (24 * l + h)).2
      refine r_aload_n K 0 rfl rfl dX7_yardsOf_99 ?_
      refine get_71_5 K fl_RX7_20 dX7_yardsOf_100 ?_
      refine r_iconst K ((nI (4))) (by decide) dX7_yardsOf_103 ?_
      refine r_iload_n K 1 rfl rfl dX7_yardsOf_104 ?_
      refine r_imul K dX7_yardsOf_105 ?_
      refine r_topi (pk_mul _ _) ?_
      refine r_iald K 48 (n := 16) (by decide) rfl rfl (by decide) (by omega) dX7_yardsOf_106 ?_
      have hq106 : T 6 (b) < 256 := hT.1 6 (b)
      refine r_topi (b := (nI (T 6 b))) (by rw [show 4 * b = 4 * b + 0 by omega]; exact hR.2.2.2.2.2 _ (by omega) 0 (by decide)) ?_
      refine r_idiv K (nI_ne0 (by omega) (by omega)) dX7_yardsOf_107 ?_
      refine r_topi (pk_div (by omega) (by omega) (by omega)) ?_
      exact r_iret K hr (⟨by rw [stepS]; first | (rw [if_pos (show T 2 r = 1 ∧ 1 < l by omega)]; done) | (rw [if_neg (show ¬ (T 2 r = 1 ∧ 1 < l) by omega)]; done), rfl, rfl⟩) dX7_yardsOf_108
    · refine r_iload_n K 3 rfl rfl dX7_yardsOf_59 ?_
      refine r_iconst K ((nI (1))) (by decide) dX7_yardsOf_60 ?_
      refine n_icmp_le K 68 (by omega) (by omega) dX7_yardsOf_61 (by decide) (fun h61 => ?_) (fun h61 => ?_)
      · refine r_aload_n K 0 rfl rfl dX7_yardsOf_68 ?_
        refine get_71_5 K fl_RX7_20 dX7_yardsOf_69 ?_
        refine r_iconst K ((nI (4))) (by decide) dX7_yardsOf_72 ?_
        refine r_iload_n K 1 rfl rfl dX7_yardsOf_73 ?_
        refine r_imul K dX7_yardsOf_74 ?_
        refine r_topi (pk_mul _ _) ?_
        refine r_iconst K ((nI (2))) (by decide) dX7_yardsOf_75 ?_
        refine r_iadd K dX7_yardsOf_76 ?_
        refine r_topi (nI_add _ _) ?_
        refine r_iald K 48 (n := 16) (by decide) rfl rfl (by decide) (by omega) dX7_yardsOf_77 ?_
        have hq108 : T 8 (b) < 256 := hT.1 8 (b)
        refine r_topi (b := (nI (T 8 b))) (by rw [show (4 * b) + 2 = 4 * b + 2 by omega]; exact hR.2.2.2.2.2 _ (by omega) 2 (by decide)) ?_
        refine r_iload K rfl dX7_yardsOf_78 ?_
        refine r_aload_n K 0 rfl rfl dX7_yardsOf_80 ?_
        refine get_71_2 K fl_RX7_13 dX7_yardsOf_81 ?_
        refine r_bipush K ((nI (48))) (by decide) dX7_yardsOf_84 ?_
        refine r_iload_n K 3 rfl rfl dX7_yardsOf_86 ?_
        refine r_imul K dX7_yardsOf_87 ?_
        refine r_topi (pk_mul _ _) ?_
        refine r_iconst K ((nI (2))) (by decide) dX7_yardsOf_88 ?_
        refine r_iload K rfl dX7_yardsOf_89 ?_
        refine r_imul K dX7_yardsOf_91 ?_
        refine r_topi (pk_mul _ _) ?_
        refine r_iadd K dX7_yardsOf_92 ?_
        refine r_topi (nI_add _ _) ?_
        refine r_iconst K ((nI (1))) (by decide) dX7_yardsOf_93 ?_
        refine r_iadd K dX7_yardsOf_94 ?_
        refine r_topi (nI_add _ _) ?_
        refine r_iald K 47 (n := 288) (by decide) rfl rfl (by decide) (by omega) dX7_yardsOf_95 ?_
        have hq109 : T 4 (24 * l + h) < 256 := hT.1 4 (24 * l + h)
        refine r_topi (b := (nI (T 4 (24 * l + h)))) (by rw [show ((48 * l) + (2 * h)) + 1 = 2 * (24 * l + h) + 1 by omega]; exact (hR.2.2.2.2.1 _ (by omega)).2) ?_
        refine r_callSp K (As := [.int (nI (T 8 b)), .int (nI (awayS (T 3 (24 * l + h)) (T 0 r))), .int (nI (T 4 (24 * l + h)))]) ms_X7_pull ml_RX7_193 (m_pull (k := T 8 b) (w := awayS (T 3 (24 * l + h)) (T 0 r)) (s := T 4 (24 * l + h)) (hT.2.2.2.2.2.2.1 _).2.2.2.1 haw (hT.2.2.2.2.2.1 _).2) rfl rfl (Nat.le_of_ble_eq_true rfl) ⟨by decide, by decide⟩ dX7_yardsOf_96 ?_
        have hps := pullS_le (k := T 8 b) (w := awayS (T 3 (24 * l + h)) (T 0 r)) (hT.2.2.2.2.2.1 (24 * l + h)).2
        refine r_aload_n K 0 rfl rfl dX7_yardsOf_99 ?_
        refine get_71_5 K fl_RX7_20 dX7_yardsOf_100 ?_
        refine r_iconst K ((nI (4))) (by decide) dX7_yardsOf_103 ?_
        refine r_iload_n K 1 rfl rfl dX7_yardsOf_104 ?_
        refine r_imul K dX7_yardsOf_105 ?_
        refine r_topi (pk_mul _ _) ?_
        refine r_iald K 48 (n := 16) (by decide) rfl rfl (by decide) (by omega) dX7_yardsOf_106 ?_
        have hq110 : T 6 (b) < 256 := hT.1 6 (b)
        refine r_topi (b := (nI (T 6 b))) (by rw [show 4 * b = 4 * b + 0 by omega]; exact hR.2.2.2.2.2 _ (by omega) 0 (by decide)) ?_
        refine r_idiv K (nI_ne0 (by omega) (by omega)) dX7_yardsOf_107 ?_
        refine r_topi (pk_div (by omega) (by omega) (by omega)) ?_
        exact r_iret K hr (⟨by rw [stepS]; first | (rw [if_pos (show T 2 r = 1 ∧ 1 < l by omega)]; done) | (rw [if_neg (show ¬ (T 2 r = 1 ∧ 1 < l) by omega)]; done), rfl, rfl⟩) dX7_yardsOf_108
      · refine r_iconst K ((nI (0))) (by decide) dX7_yardsOf_64 ?_
        refine r_goto K 108 dX7_yardsOf_65 (by decide) ?_
        exact r_iret K hr (⟨by rw [stepS]; first | (rw [if_pos (show T 2 r = 1 ∧ 1 < l by omega)]; done) | (rw [if_neg (show ¬ (T 2 r = 1 ∧ 1 < l) by omega)]; done), rfl, rfl⟩) dX7_yardsOf_108
  · refine r_bipush K ((nI (8))) (by decide) dX7_yardsOf_33 ?_
    refine r_iload K rfl dX7_yardsOf_35 ?_
    refine r_isub K dX7_yardsOf_37 ?_
    refine r_topi (b := (nI (8 - offS (T 3 (24 * l + h)) (T 0 r)))) (pk_sub (by omega)) ?_
    refine r_goto K 43 dX7_yardsOf_38 (by decide) ?_
    refine r_istore K (lv' := [(5, .int (nI (8 - offS (T 3 (24 * l + h)) (T 0 r)))), (0, .ref (ad 71)), (1, .int (nI (b))), (2, .int (nI (r))), (3, .int (nI (l))), (4, .int (nI (h)))]) (by decide) rfl dX7_yardsOf_43 ?_
    have hw111 : 8 - offS (T 3 (24 * l + h)) (T 0 r) = awayS (T 3 (24 * l + h)) (T 0 r) := by rw [awayS, if_pos h30]
    rw [hw111]
    have haw : awayS (T 3 (24 * l + h)) (T 0 r) ≤ 8 := by rw [← hw111]; omega
    refine r_aload_n K 0 rfl rfl dX7_yardsOf_45 ?_
    refine get_71_1 K fl_RX7_7 dX7_yardsOf_46 ?_
    refine r_iconst K ((nI (3))) (by decide) dX7_yardsOf_49 ?_
    refine r_iload_n K 2 rfl rfl dX7_yardsOf_50 ?_
    refine r_imul K dX7_yardsOf_51 ?_
    refine r_topi (pk_mul _ _) ?_
    refine r_iconst K ((nI (2))) (by decide) dX7_yardsOf_52 ?_
    refine r_iadd K dX7_yardsOf_53 ?_
    refine r_topi (nI_add _ _) ?_
    refine r_iald K 46 (n := 24) (by decide) rfl rfl (by decide) (by omega) dX7_yardsOf_54 ?_
    have hq112 : T 2 (r) < 256 := hT.1 2 (r)
    refine r_topi (b := (nI (T 2 r))) (by rw [show (3 * r) + 2 = 3 * r + 2 by omega]; exact hR.2.2.2.1 _ (by omega) 2 (by decide)) ?_
    refine r_iconst K ((nI (1))) (by decide) dX7_yardsOf_55 ?_
    refine n_icmp_ne K 68 (by omega) (by omega) dX7_yardsOf_56 (by decide) (fun h56 => ?_) (fun h56 => ?_)
    · refine r_aload_n K 0 rfl rfl dX7_yardsOf_68 ?_
      refine get_71_5 K fl_RX7_20 dX7_yardsOf_69 ?_
      refine r_iconst K ((nI (4))) (by decide) dX7_yardsOf_72 ?_
      refine r_iload_n K 1 rfl rfl dX7_yardsOf_73 ?_
      refine r_imul K dX7_yardsOf_74 ?_
      refine r_topi (pk_mul _ _) ?_
      refine r_iconst K ((nI (2))) (by decide) dX7_yardsOf_75 ?_
      refine r_iadd K dX7_yardsOf_76 ?_
      refine r_topi (nI_add _ _) ?_
      refine r_iald K 48 (n := 16) (by decide) rfl rfl (by decide) (by omega) dX7_yardsOf_77 ?_
      have hq114 : T 8 (b) < 256 := hT.1 8 (b)
      refine r_topi (b := (nI (T 8 b))) (by rw [show (4 * b) + 2 = 4 * b + 2 by omega]; exact hR.2.2.2.2.2 _ (by omega) 2 (by decide)) ?_
      refine r_iload K rfl dX7_yardsOf_78 ?_
      refine r_aload_n K 0 rfl rfl dX7_yardsOf_80 ?_
      refine get_71_2 K fl_RX7_13 dX7_yardsOf_81 ?_
      refine r_bipush K ((nI (48))) (by decide) dX7_yardsOf_84 ?_
      refine r_iload_n K 3 rfl rfl dX7_yardsOf_86 ?_
      refine r_imul K dX7_yardsOf_87 ?_
      refine r_topi (pk_mul _ _) ?_
      refine r_iconst K ((nI (2))) (by decide) dX7_yardsOf_88 ?_
      refine r_iload K rfl dX7_yardsOf_89 ?_
      refine r_imul K dX7_yardsOf_91 ?_
      refine r_topi (pk_mul _ _) ?_
      refine r_iadd K dX7_yardsOf_92 ?_
      refine r_topi (nI_add _ _) ?_
      refine r_iconst K ((nI (1))) (by decide) dX7_yardsOf_93 ?_
      refine r_iadd K dX7_yardsOf_94 ?_
      refine r_topi (nI_add _ _) ?_
      refine r_iald K 47 (n := 288) (by decide) rfl rfl (by decide) (by omega) dX7_yardsOf_95 ?_
      have hq115 : T 4 (24 * l + h) < 256 := hT.1 4 (24 * l + h)
      refine r_topi (b := (nI (T 4 (24 * l + h)))) (by rw [show ((48 * l) + (2 * h)) + 1 = 2 * (24 * l + h) + 1 by omega]; exact (hR.2.2.2.2.1 _ (by omega)).2) ?_
      refine r_callSp K (As := [.int (nI (T 8 b)), .int (nI (awayS (T 3 (24 * l + h)) (T 0 r))), .int (nI (T 4 (24 * l + h)))]) ms_X7_pull ml_RX7_193 (m_pull (k := T 8 b) (w := awayS (T 3 (24 * l + h)) (T 0 r)) (s := T 4 (24 * l + h)) (hT.2.2.2.2.2.2.1 _).2.2.2.1 haw (hT.2.2.2.2.2.1 _).2) rfl rfl (Nat.le_of_ble_eq_true rfl) ⟨by decide, by decide⟩ dX7_yardsOf_96 ?_
      have hps := pullS_le (k := T 8 b) (w := awayS (T 3 (24 * l + h)) (T 0 r)) (hT.2.2.2.2.2.1 (24 * l + h)).2
      refine r_aload_n K 0 rfl rfl dX7_yardsOf_99 ?_
      refine get_71_5 K fl_RX7_20 dX7_yardsOf_100 ?_
      refine r_iconst K ((nI (4))) (by decide) dX7_yardsOf_103 ?_
      refine r_iload_n K 1 rfl rfl dX7_yardsOf_104 ?_
      refine r_imul K dX7_yardsOf_105 ?_
      refine r_topi (pk_mul _ _) ?_
      refine r_iald K 48 (n := 16) (by decide) rfl rfl (by decide) (by omega) dX7_yardsOf_106 ?_
      have hq116 : T 6 (b) < 256 := hT.1 6 (b)
      refine r_topi (b := (nI (T 6 b))) (by rw [show 4 * b = 4 * b + 0 by omega]; exact hR.2.2.2.2.2 _ (by omega) 0 (by decide)) ?_
      refine r_idiv K (nI_ne0 (by omega) (by omega)) dX7_yardsOf_107 ?_
      refine r_topi (pk_div (by omega) (by omega) (by omega)) ?_
      exact r_iret K hr (⟨by rw [stepS]; first | (rw [if_pos (show T 2 r = 1 ∧ 1 < l by omega)]; done) | (rw [if_neg (show ¬ (T 2 r = 1 ∧ 1 < l) by omega)]; done), rfl, rfl⟩) dX7_yardsOf_108
    · refine r_iload_n K 3 rfl rfl dX7_yardsOf_59 ?_
      refine r_iconst K ((nI (1))) (by decide) dX7_yardsOf_60 ?_
      refine n_icmp_le K 68 (by omega) (by omega) dX7_yardsOf_61 (by decide) (fun h61 => ?_) (fun h61 => ?_)
      · refine r_aload_n K 0 rfl rfl dX7_yardsOf_68 ?_
        refine get_71_5 K fl_RX7_20 dX7_yardsOf_69 ?_
        refine r_iconst K ((nI (4))) (by decide) dX7_yardsOf_72 ?_
        refine r_iload_n K 1 rfl rfl dX7_yardsOf_73 ?_
        refine r_imul K dX7_yardsOf_74 ?_
        refine r_topi (pk_mul _ _) ?_
        refine r_iconst K ((nI (2))) (by decide) dX7_yardsOf_75 ?_
        refine r_iadd K dX7_yardsOf_76 ?_
        refine r_topi (nI_add _ _) ?_
        refine r_iald K 48 (n := 16) (by decide) rfl rfl (by decide) (by omega) dX7_yardsOf_77 ?_
        have hq118 : T 8 (b) < 256 := hT.1 8 (b)
        refine r_topi (b := (nI (T 8 b))) (by rw [show (4 * b) + 2 = 4 * b + 2 by omega]; exact hR.2.2.2.2.2 _ (by omega) 2 (by decide)) ?_
        refine r_iload K rfl dX7_yardsOf_78 ?_
        refine r_aload_n K 0 rfl rfl dX7_yardsOf_80 ?_
        refine get_71_2 K fl_RX7_13 dX7_yardsOf_81 ?_
        refine r_bipush K ((nI (48))) (by decide) dX7_yardsOf_84 ?_
        refine r_iload_n K 3 rfl rfl dX7_yardsOf_86 ?_
        refine r_imul K dX7_yardsOf_87 ?_
        refine r_topi (pk_mul _ _) ?_
        refine r_iconst K ((nI (2))) (by decide) dX7_yardsOf_88 ?_
        refine r_iload K rfl dX7_yardsOf_89 ?_
        refine r_imul K dX7_yardsOf_91 ?_
        refine r_topi (pk_mul _ _) ?_
        refine r_iadd K dX7_yardsOf_92 ?_
        refine r_topi (nI_add _ _) ?_
        refine r_iconst K ((nI (1))) (by decide) dX7_yardsOf_93 ?_
        refine r_iadd K dX7_yardsOf_94 ?_
        refine r_topi (nI_add _ _) ?_
        refine r_iald K 47 (n := 288) (by decide) rfl rfl (by decide) (by omega) dX7_yardsOf_95 ?_
        have hq119 : T 4 (24 * l + h) < 256 := hT.1 4 (24 * l + h)
        refine r_topi (b := (nI (T 4 (24 * l + h)))) (by rw [show ((48 * l) + (2 * h)) + 1 = 2 * (24 * l + h) + 1 by omega]; exact (hR.2.2.2.2.1 _ (by omega)).2) ?_
        refine r_callSp K (As := [.int (nI (T 8 b)), .int (nI (awayS (T 3 (24 * l + h)) (T 0 r))), .int (nI (T 4 (24 * l + h)))]) ms_X7_pull ml_RX7_193 (m_pull (k := T 8 b) (w := awayS (T 3 (24 * l + h)) (T 0 r)) (s := T 4 (24 * l + h)) (hT.2.2.2.2.2.2.1 _).2.2.2.1 haw (hT.2.2.2.2.2.1 _).2) rfl rfl (Nat.le_of_ble_eq_true rfl) ⟨by decide, by decide⟩ dX7_yardsOf_96 ?_
        have hps := pullS_le (k := T 8 b) (w := awayS (T 3 (24 * l + h)) (T 0 r)) (hT.2.2.2.2.2.1 (24 * l + h)).2
        refine r_aload_n K 0 rfl rfl dX7_yardsOf_99 ?_
        refine get_71_5 K fl_RX7_20 dX7_yardsOf_100 ?_
        refine r_iconst K ((nI (4))) (by decide) dX7_yardsOf_103 ?_
        refine r_iload_n K 1 rfl rfl dX7_yardsOf_104 ?_
        refine r_imul K dX7_yardsOf_105 ?_
        refine r_topi (pk_mul _ _) ?_
        refine r_iald K 48 (n := 16) (by decide) rfl rfl (by decide) (by omega) dX7_yardsOf_106 ?_
        have hq120 : T 6 (b) < 256 := hT.1 6 (b)
        refine r_topi (b := (nI (T 6 b))) (by rw [show 4 * b = 4 * b + 0 by omega]; exact hR.2.2.2.2.2 _ (by omega) 0 (by decide)) ?_
        refine r_idiv K (nI_ne0 (by omega) (by omega)) dX7_yardsOf_107 ?_
        refine r_topi (pk_div (by omega) (by omega) (by omega)) ?_
        exact r_iret K hr (⟨by rw [stepS]; first | (rw [if_pos (show T 2 r = 1 ∧ 1 < l by omega)]; done) | (rw [if_neg (show ¬ (T 2 r = 1 ∧ 1 < l) by omega)]; done), rfl, rfl⟩) dX7_yardsOf_108
      · refine r_iconst K ((nI (0))) (by decide) dX7_yardsOf_64 ?_
        refine r_goto K 108 dX7_yardsOf_65 (by decide) ?_
        exact r_iret K hr (⟨by rw [stepS]; first | (rw [if_pos (show T 2 r = 1 ∧ 1 < l by omega)]; done) | (rw [if_neg (show ¬ (T 2 r = 1 ∧ 1 < l) by omega)]; done), rfl, rfl⟩) dX7_yardsOf_108

set_option maxHeartbeats 400000 in
set_option maxRecDepth 10000 in
theorem m_goes {g : Gp} {lau : Launch} {ad : Nat → Nat} {σ : Sg} {T : Tv} (hT : TOk T) (hR : RepM T σ) {b p l h : Nat} (hb : b < 4) (hw1 : 1 ≤ T 6 b) (hl6 : l < 6) (hh : h < 24) (hp : p = 160 ∨ p / 20 < T 10 0) : Con g lau yX7_goes cX7_goes 7 (Option.some .int) 2 48 [.ref (ad 71), .int (nI (b)), .int (nI (p)), .int (nI (l)), .int (nI (h))] ad σ (pu (.int (nI (goS T b p l h))) ad σ) := by
  refine con_mk (by decide) (Nat.le_of_ble_eq_true rfl) (fun x hxl K hr => ?_)
  subst hxl
  refine r_lv (lv' := [(0, .ref (ad 71)), (1, .int (nI (b))), (2, .int (nI (p))), (3, .int (nI (l))), (4, .int (nI (h)))]) rfl ?_
  have hn8 := hT.2.1
  have hn9 := hT.2.2.1
  have htb := tbits_lt hT
  have hp160 : p ≤ 160 := by omega
  have hpn : ¬ p = 160 → p / 20 < T 10 0 := fun z => by omega
  refine r_iload_n K 2 rfl rfl dX7_goes_0 ?_
  refine r_sipush K ((nI (160))) (by decide) dX7_goes_1 ?_
  refine n_icmp_ne K 11 (by omega) (by omega) dX7_goes_4 (by decide) (fun h4 => ?_) (fun h4 => ?_)
  · refine r_iload_n K 2 rfl rfl dX7_goes_11 ?_
    refine r_bipush K ((nI (20))) (by decide) dX7_goes_12 ?_
    refine r_idiv K (nI_ne0 (by omega) (by omega)) dX7_goes_14 ?_
    refine r_topi (pk_div (by omega) (by omega) (by omega)) ?_
    refine r_istore K (lv' := [(5, .int (nI (p / 20))), (0, .ref (ad 71)), (1, .int (nI (b))), (2, .int (nI (p))), (3, .int (nI (l))), (4, .int (nI (h)))]) (by decide) rfl dX7_goes_15 ?_
    refine r_iload_n K 2 rfl rfl dX7_goes_17 ?_
    refine r_bipush K ((nI (20))) (by decide) dX7_goes_18 ?_
    refine r_irem K (nI_ne0 (by omega) (by omega)) dX7_goes_20 ?_
    refine r_topi (pk_rem (by omega) (by omega) (by omega)) ?_
    refine r_aload_n K 0 rfl rfl dX7_goes_21 ?_
    refine r_iload_n K 1 rfl rfl dX7_goes_22 ?_
    refine r_iload K rfl dX7_goes_23 ?_
    refine r_iload_n K 3 rfl rfl dX7_goes_25 ?_
    refine r_iload K rfl dX7_goes_26 ?_
    refine r_callVp K 71 (As := [.int (nI (b)), .int (nI (p / 20)), .int (nI (l)), .int (nI (h))]) mv_X7_yardsOf ml_RX7_201 (m_yardsOf hT hR (b := b) (r := p / 20) (l := l) (h := h) (by omega) hw1 (by omega) (by omega) (by omega)) (by decide) rfl rfl rfl rfl (Nat.le_of_ble_eq_true rfl) ⟨by decide, by decide⟩ dX7_goes_28 ?_
    have hst := stepS_le hT b (p / 20) l h
    refine r_iadd K dX7_goes_31 ?_
    refine r_topi (nI_add _ _) ?_
    refine r_istore K (lv' := [(6, .int (nI ((p % 20) + (stepS T b (p / 20) l h)))), (5, .int (nI (p / 20))), (0, .ref (ad 71)), (1, .int (nI (b))), (2, .int (nI (p))), (3, .int (nI (l))), (4, .int (nI (h)))]) (by decide) rfl dX7_goes_32 ?_
    refine r_iload K rfl dX7_goes_34 ?_
    refine r_aload_n K 0 rfl rfl dX7_goes_36 ?_
    refine get_71_1 K fl_RX7_7 dX7_goes_37 ?_
    refine r_iconst K ((nI (3))) (by decide) dX7_goes_40 ?_
    refine r_iload K rfl dX7_goes_41 ?_
    refine r_imul K dX7_goes_43 ?_
    refine r_topi (pk_mul _ _) ?_
    refine r_iconst K ((nI (1))) (by decide) dX7_goes_44 ?_
    refine r_iadd K dX7_goes_45 ?_
    refine r_topi (nI_add _ _) ?_
    refine r_iald K 46 (n := 24) (by decide) rfl rfl (by decide) (by omega) dX7_goes_46 ?_
    have hq122 : T 1 (p / 20) < 256 := hT.1 1 (p / 20)
    refine r_topi (b := (nI (T 1 (p / 20)))) (by rw [show (3 * (p / 20)) + 1 = 3 * (p / 20) + 1 by omega]; exact hR.2.2.2.1 _ (by omega) 1 (by decide)) ?_
    refine n_icmp_ge K 59 (by omega) (by omega) dX7_goes_47 (by decide) (fun h47 => ?_) (fun h47 => ?_)
    · refine r_aload_n K 0 rfl rfl dX7_goes_59 ?_
      refine get_71_1 K fl_RX7_7 dX7_goes_60 ?_
      refine r_iconst K ((nI (3))) (by decide) dX7_goes_63 ?_
      refine r_iload K rfl dX7_goes_64 ?_
      refine r_imul K dX7_goes_66 ?_
      refine r_topi (pk_mul _ _) ?_
      refine r_iconst K ((nI (2))) (by decide) dX7_goes_67 ?_
      refine r_iadd K dX7_goes_68 ?_
      refine r_topi (nI_add _ _) ?_
      refine r_iald K 46 (n := 24) (by decide) rfl rfl (by decide) (by omega) dX7_goes_69 ?_
      have hq124 : T 2 (p / 20) < 256 := hT.1 2 (p / 20)
      refine r_topi (b := (nI (T 2 (p / 20)))) (by rw [show (3 * (p / 20)) + 2 = 3 * (p / 20) + 2 by omega]; exact hR.2.2.2.1 _ (by omega) 2 (by decide)) ?_
      refine r_iconst K ((nI (2))) (by decide) dX7_goes_70 ?_
      refine n_icmp_ne K 112 (by omega) (by omega) dX7_goes_71 (by decide) (fun h71 => ?_) (fun h71 => ?_)
      · refine r_iload K rfl dX7_goes_112 ?_
        refine r_aload_n K 0 rfl rfl dX7_goes_114 ?_
        refine get_71_0 K fl_RX7_160 dX7_goes_115 ?_
        refine r_topi (b := (nI (T 10 0))) (hR.1) ?_
        refine r_iconst K ((nI (1))) (by decide) dX7_goes_118 ?_
        refine r_isub K dX7_goes_119 ?_
        refine r_topi (b := (nI (T 10 0 - 1))) (pk_sub (by have := hpn (by omega); omega)) ?_
        refine n_icmp_ne K 129 (by omega) (by omega) dX7_goes_120 (by decide) (fun h120 => ?_) (fun h120 => ?_)
        · refine r_bipush K ((nI (20))) (by decide) dX7_goes_129 ?_
          refine r_iload K rfl dX7_goes_131 ?_
          refine r_imul K dX7_goes_133 ?_
          refine r_topi (pk_mul _ _) ?_
          refine r_bipush K ((nI (20))) (by decide) dX7_goes_134 ?_
          refine r_iadd K dX7_goes_136 ?_
          refine r_topi (nI_add _ _) ?_
          exact r_iret K hr (⟨by simp only [goS]; rw [if_neg (by omega)]; first | (rw [if_pos h47]; done) | (rw [if_neg (by omega), if_pos ⟨h71, h89⟩]; done) | (rw [if_neg (by omega), if_neg (fun z => by omega), if_pos (by have := hpn (by omega); omega)]; done) | (rw [if_neg (by omega), if_neg (fun z => by omega), if_neg (by have := hpn (by omega); omega)]; done), rfl, rfl⟩) dX7_goes_137
        · refine r_sipush K ((nI (160))) (by decide) dX7_goes_123 ?_
          refine r_goto K 137 dX7_goes_126 (by decide) ?_
          exact r_iret K hr (⟨by simp only [goS]; rw [if_neg (by omega)]; first | (rw [if_pos h47]; done) | (rw [if_neg (by omega), if_pos ⟨h71, h89⟩]; done) | (rw [if_neg (by omega), if_neg (fun z => by omega), if_pos (by have := hpn (by omega); omega)]; done) | (rw [if_neg (by omega), if_neg (fun z => by omega), if_neg (by have := hpn (by omega); omega)]; done), rfl, rfl⟩) dX7_goes_137
      · refine r_aload_n K 0 rfl rfl dX7_goes_74 ?_
        refine get_71_2 K fl_RX7_13 dX7_goes_75 ?_
        refine r_iconst K ((nI (2))) (by decide) dX7_goes_78 ?_
        refine r_iload K rfl dX7_goes_79 ?_
        refine r_imul K dX7_goes_81 ?_
        refine r_topi (pk_mul _ _) ?_
        refine r_iconst K ((nI (1))) (by decide) dX7_goes_82 ?_
        refine r_iadd K dX7_goes_83 ?_
        refine r_topi (nI_add _ _) ?_
        refine r_iald K 47 (n := 288) (by decide) rfl rfl (by decide) (by omega) dX7_goes_84 ?_
        have hq127 : T 4 (h) < 256 := hT.1 4 (h)
        refine r_topi (b := (nI (T 4 h))) (by rw [show (2 * h) + 1 = 2 * h + 1 by omega]; exact (hR.2.2.2.2.1 _ (by omega)).2) ?_
        refine r_aload_n K 0 rfl rfl dX7_goes_85 ?_
        refine get_71_3 K fl_RX7_16 dX7_goes_86 ?_
        refine r_topi (b := (nI (T 11 0))) (hR.2.1) ?_
        refine n_icmp_le K 112 (by omega) (by omega) dX7_goes_89 (by decide) (fun h89 => ?_) (fun h89 => ?_)
        · refine r_iload K rfl dX7_goes_112 ?_
          refine r_aload_n K 0 rfl rfl dX7_goes_114 ?_
          refine get_71_0 K fl_RX7_160 dX7_goes_115 ?_
          refine r_topi (b := (nI (T 10 0))) (hR.1) ?_
          refine r_iconst K ((nI (1))) (by decide) dX7_goes_118 ?_
          refine r_isub K dX7_goes_119 ?_
          refine r_topi (b := (nI (T 10 0 - 1))) (pk_sub (by have := hpn (by omega); omega)) ?_
          refine n_icmp_ne K 129 (by omega) (by omega) dX7_goes_120 (by decide) (fun h120 => ?_) (fun h120 => ?_)
          · refine r_bipush K ((nI (20))) (by decide) dX7_goes_129 ?_
            refine r_iload K rfl dX7_goes_131 ?_
            refine r_imul K dX7_goes_133 ?_
            refine r_topi (pk_mul _ _) ?_
            refine r_bipush K ((nI (20))) (by decide) dX7_goes_134 ?_
            refine r_iadd K dX7_goes_136 ?_
            refine r_topi (nI_add _ _) ?_
            exact r_iret K hr (⟨by simp only [goS]; rw [if_neg (by omega)]; first | (rw [if_pos h47]; done) | (rw [if_neg (by omega), if_pos ⟨h71, h89⟩]; done) | (rw [if_neg (by omega), if_neg (fun z => by omega), if_pos (by have := hpn (by omega); omega)]; done) | (rw [if_neg (by omega), if_neg (fun z => by omega), if_neg (by have := hpn (by omega); omega)]; done), rfl, rfl⟩) dX7_goes_137
          · refine r_sipush K ((nI (160))) (by decide) dX7_goes_123 ?_
            refine r_goto K 137 dX7_goes_126 (by decide) ?_
            exact r_iret K hr (⟨by simp only [goS]; rw [if_neg (by omega)]; first | (rw [if_pos h47]; done) | (rw [if_neg (by omega), if_pos ⟨h71, h89⟩]; done) | (rw [if_neg (by omega), if_neg (fun z => by omega), if_pos (by have := hpn (by omega); omega)]; done) | (rw [if_neg (by omega), if_neg (fun z => by omega), if_neg (by have := hpn (by omega); omega)]; done), rfl, rfl⟩) dX7_goes_137
        · refine r_bipush K ((nI (20))) (by decide) dX7_goes_92 ?_
          refine r_iload K rfl dX7_goes_94 ?_
          refine r_imul K dX7_goes_96 ?_
          refine r_topi (pk_mul _ _) ?_
          refine r_aload_n K 0 rfl rfl dX7_goes_97 ?_
          refine get_71_1 K fl_RX7_7 dX7_goes_98 ?_
          refine r_iconst K ((nI (3))) (by decide) dX7_goes_101 ?_
          refine r_iload K rfl dX7_goes_102 ?_
          refine r_imul K dX7_goes_104 ?_
          refine r_topi (pk_mul _ _) ?_
          refine r_iconst K ((nI (1))) (by decide) dX7_goes_105 ?_
          refine r_iadd K dX7_goes_106 ?_
          refine r_topi (nI_add _ _) ?_
          refine r_iald K 46 (n := 24) (by decide) rfl rfl (by decide) (by omega) dX7_goes_107 ?_
          have hq130 : T 1 (p / 20) < 256 := hT.1 1 (p / 20)
          refine r_topi (b := (nI (T 1 (p / 20)))) (by rw [show (3 * (p / 20)) + 1 = 3 * (p / 20) + 1 by omega]; exact hR.2.2.2.1 _ (by omega) 1 (by decide)) ?_
          refine r_iadd K dX7_goes_108 ?_
          refine r_topi (nI_add _ _) ?_
          refine r_iconst K ((nI (1))) (by decide) dX7_goes_109 ?_
          refine r_isub K dX7_goes_110 ?_
          refine r_topi (b := (nI (20 * (p / 20) + T 1 (p / 20) - 1))) (pk_sub (by have := hT.2.2.2.2.1 (p / 20) (hpn (by omega)); omega)) ?_
          exact r_iret K hr (⟨by simp only [goS]; rw [if_neg (by omega)]; first | (rw [if_pos h47]; done) | (rw [if_neg (by omega), if_pos ⟨h71, h89⟩]; done) | (rw [if_neg (by omega), if_neg (fun z => by omega), if_pos (by have := hpn (by omega); omega)]; done) | (rw [if_neg (by omega), if_neg (fun z => by omega), if_neg (by have := hpn (by omega); omega)]; done), rfl, rfl⟩) dX7_goes_111
    · refine r_bipush K ((nI (20))) (by decide) dX7_goes_50 ?_
      refine r_iload K rfl dX7_goes_52 ?_
      refine r_imul K dX7_goes_54 ?_
      refine r_topi (pk_mul _ _) ?_
      refine r_iload K rfl dX7_goes_55 ?_
      refine r_iadd K dX7_goes_57 ?_
      refine r_topi (nI_add _ _) ?_
      exact r_iret K hr (⟨by simp only [goS]; rw [if_neg (by omega)]; first | (rw [if_pos h47]; done) | (rw [if_neg (by omega), if_pos ⟨h71, h89⟩]; done) | (rw [if_neg (by omega), if_neg (fun z => by omega), if_pos (by have := hpn (by omega); omega)]; done) | (rw [if_neg (by omega), if_neg (fun z => by omega), if_neg (by have := hpn (by omega); omega)]; done), rfl, rfl⟩) dX7_goes_58
  · refine r_sipush K ((nI (160))) (by decide) dX7_goes_7 ?_
    exact r_iret K hr (⟨by rw [goS, if_pos (by omega)], rfl, rfl⟩) dX7_goes_10

set_option maxHeartbeats 400000 in
set_option maxRecDepth 10000 in
theorem m_isKnot {g : Gp} {lau : Launch} {ad : Nat → Nat} {σ : Sg} {p l q m : Nat} (hp : p ≤ 160) (hl6 : l < 6) (hq : q ≤ 160) (hm6 : m < 256) : Con g lau yX7_isKnot cX7_isKnot 4 (Option.some .boolean) 1 21 [.int (nI (p)), .int (nI (l)), .int (nI (q)), .int (nI (m))] ad σ (pu (.int (bI (knotS p l q m))) ad σ) := by
  refine con_mk (by decide) (Nat.le_of_ble_eq_true rfl) (fun x hxl K hr => ?_)
  subst hxl
  refine r_lv (lv' := [(0, .int (nI (p))), (1, .int (nI (l))), (2, .int (nI (q))), (3, .int (nI (m)))]) rfl ?_
  refine r_iload_n K 0 rfl rfl dX7_isKnot_0 ?_
  refine r_sipush K ((nI (160))) (by decide) dX7_isKnot_1 ?_
  refine n_icmp_eq K 43 (by omega) (by omega) dX7_isKnot_4 (by decide) (fun h4 => ?_) (fun h4 => ?_)
  · refine r_iconst K ((nI (0))) (by decide) dX7_isKnot_43 ?_
    exact r_zret K (b := false) hr (⟨by rw [show knotS p l q m = false from decide_eq_false (by omega)], rfl, rfl⟩) dX7_isKnot_44
  · refine r_iload_n K 2 rfl rfl dX7_isKnot_7 ?_
    refine r_sipush K ((nI (160))) (by decide) dX7_isKnot_8 ?_
    refine n_icmp_eq K 43 (by omega) (by omega) dX7_isKnot_11 (by decide) (fun h11 => ?_) (fun h11 => ?_)
    · refine r_iconst K ((nI (0))) (by decide) dX7_isKnot_43 ?_
      exact r_zret K (b := false) hr (⟨by rw [show knotS p l q m = false from decide_eq_false (by omega)], rfl, rfl⟩) dX7_isKnot_44
    · refine r_iload_n K 0 rfl rfl dX7_isKnot_14 ?_
      refine r_bipush K ((nI (20))) (by decide) dX7_isKnot_15 ?_
      refine r_idiv K (nI_ne0 (by omega) (by omega)) dX7_isKnot_17 ?_
      refine r_topi (pk_div (by omega) (by omega) (by omega)) ?_
      refine r_iload_n K 2 rfl rfl dX7_isKnot_18 ?_
      refine r_bipush K ((nI (20))) (by decide) dX7_isKnot_19 ?_
      refine r_idiv K (nI_ne0 (by omega) (by omega)) dX7_isKnot_21 ?_
      refine r_topi (pk_div (by omega) (by omega) (by omega)) ?_
      refine n_icmp_ne K 43 (by omega) (by omega) dX7_isKnot_22 (by decide) (fun h22 => ?_) (fun h22 => ?_)
      · refine r_iconst K ((nI (0))) (by decide) dX7_isKnot_43 ?_
        exact r_zret K (b := false) hr (⟨by rw [show knotS p l q m = false from decide_eq_false (by omega)], rfl, rfl⟩) dX7_isKnot_44
      · refine r_iload_n K 1 rfl rfl dX7_isKnot_25 ?_
        refine r_iload_n K 3 rfl rfl dX7_isKnot_26 ?_
        refine n_icmp_ne K 43 (by omega) (by omega) dX7_isKnot_27 (by decide) (fun h27 => ?_) (fun h27 => ?_)
        · refine r_iconst K ((nI (0))) (by decide) dX7_isKnot_43 ?_
          exact r_zret K (b := false) hr (⟨by rw [show knotS p l q m = false from decide_eq_false (by omega)], rfl, rfl⟩) dX7_isKnot_44
        · refine r_iload_n K 0 rfl rfl dX7_isKnot_30 ?_
          refine r_iload_n K 2 rfl rfl dX7_isKnot_31 ?_
          refine r_callSp K (As := [.int (nI (p)), .int (nI (q))]) ms_X7_off ml_RX7_197 (m_off (a := p) (b := q) (by omega) (by omega)) rfl rfl (Nat.le_of_ble_eq_true rfl) ⟨by decide, by decide⟩ dX7_isKnot_32 ?_
          have hof : offS p q < 161 := offS_lt (by omega) (by omega)
          refine r_iconst K ((nI (2))) (by decide) dX7_isKnot_35 ?_
          refine n_icmp_ge K 43 (by omega) (by omega) dX7_isKnot_36 (by decide) (fun h36 => ?_) (fun h36 => ?_)
          · refine r_iconst K ((nI (0))) (by decide) dX7_isKnot_43 ?_
            exact r_zret K (b := false) hr (⟨by rw [show knotS p l q m = false from decide_eq_false (by omega)], rfl, rfl⟩) dX7_isKnot_44
          · refine r_iconst K ((nI (1))) (by decide) dX7_isKnot_39 ?_
            refine r_goto K 44 dX7_isKnot_40 (by decide) ?_
            exact r_zret K (b := true) hr (⟨by rw [show knotS p l q m = true from decide_eq_true (by omega)], rfl, rfl⟩) dX7_isKnot_44

def isP (T : Tv) (p : Nat) : Bool := decide (p = 160 ∨ (p / 20 < T 10 0 ∧ p % 20 < T 1 (p / 20)))
set_option maxHeartbeats 400000 in
set_option maxRecDepth 10000 in
theorem m_isPlace {g : Gp} {lau : Launch} {ad : Nat → Nat} {σ : Sg} {T : Tv} (hT : TOk T) (hR : RepM T σ) {p : Nat} (hp : p ≤ 160) : Con g lau yX7_isPlace cX7_isPlace 2 (Option.some .boolean) 0 0 [.ref (ad 71), .int (nI (p))] ad σ (pu (.int (bI (isP T p))) ad σ) := by
  refine con_mk (by decide) (Nat.le_of_ble_eq_true rfl) (fun x hxl K hr => ?_)
  subst hxl
  refine r_lv (lv' := [(0, .ref (ad 71)), (1, .int (nI (p)))]) rfl ?_
  have hn8 := hT.2.1
  have hn9 := hT.2.2.1
  have htb := tbits_lt hT
  refine r_iload_n K 1 rfl rfl dX7_isPlace_0 ?_
  refine r_sipush K ((nI (160))) (by decide) dX7_isPlace_1 ?_
  refine n_icmp_eq K 38 (by omega) (by omega) dX7_isPlace_4 (by decide) (fun h4 => ?_) (fun h4 => ?_)
  · refine r_iconst K ((nI (1))) (by decide) dX7_isPlace_38 ?_
    refine r_goto K 43 dX7_isPlace_39 (by decide) ?_
    exact r_zret K (b := true) hr (⟨by rw [show isP T p = true from decide_eq_true (by omega)], rfl, rfl⟩) dX7_isPlace_43
  · refine r_iload_n K 1 rfl rfl dX7_isPlace_7 ?_
    refine r_bipush K ((nI (20))) (by decide) dX7_isPlace_8 ?_
    refine r_idiv K (nI_ne0 (by omega) (by omega)) dX7_isPlace_10 ?_
    refine r_topi (pk_div (by omega) (by omega) (by omega)) ?_
    refine r_aload_n K 0 rfl rfl dX7_isPlace_11 ?_
    refine get_71_0 K fl_RX7_160 dX7_isPlace_12 ?_
    refine r_topi (b := (nI (T 10 0))) (hR.1) ?_
    refine n_icmp_ge K 42 (by omega) (by omega) dX7_isPlace_15 (by decide) (fun h15 => ?_) (fun h15 => ?_)
    · refine r_iconst K ((nI (0))) (by decide) dX7_isPlace_42 ?_
      exact r_zret K (b := false) hr (⟨by rw [show isP T p = false from decide_eq_false (by omega)], rfl, rfl⟩) dX7_isPlace_43
    · refine r_iload_n K 1 rfl rfl dX7_isPlace_18 ?_
      refine r_bipush K ((nI (20))) (by decide) dX7_isPlace_19 ?_
      refine r_irem K (nI_ne0 (by omega) (by omega)) dX7_isPlace_21 ?_
      refine r_topi (pk_rem (by omega) (by omega) (by omega)) ?_
      refine r_aload_n K 0 rfl rfl dX7_isPlace_22 ?_
      refine get_71_1 K fl_RX7_7 dX7_isPlace_23 ?_
      refine r_iconst K ((nI (3))) (by decide) dX7_isPlace_26 ?_
      refine r_iload_n K 1 rfl rfl dX7_isPlace_27 ?_
      refine r_bipush K ((nI (20))) (by decide) dX7_isPlace_28 ?_
      refine r_idiv K (nI_ne0 (by omega) (by omega)) dX7_isPlace_30 ?_
      refine r_topi (pk_div (by omega) (by omega) (by omega)) ?_
      refine r_imul K dX7_isPlace_31 ?_
      refine r_topi (pk_mul _ _) ?_
      refine r_iconst K ((nI (1))) (by decide) dX7_isPlace_32 ?_
      refine r_iadd K dX7_isPlace_33 ?_
      refine r_topi (nI_add _ _) ?_
      refine r_iald K 46 (n := 24) (by decide) rfl rfl (by decide) (by omega) dX7_isPlace_34 ?_
      have hq138 : T 1 (p / 20) < 256 := hT.1 1 (p / 20)
      refine r_topi (b := (nI (T 1 (p / 20)))) (by rw [show (3 * (p / 20)) + 1 = 3 * (p / 20) + 1 by omega]; exact hR.2.2.2.1 _ (by omega) 1 (by decide)) ?_
      refine n_icmp_ge K 42 (by omega) (by omega) dX7_isPlace_35 (by decide) (fun h35 => ?_) (fun h35 => ?_)
      · refine r_iconst K ((nI (0))) (by decide) dX7_isPlace_42 ?_
        exact r_zret K (b := false) hr (⟨by rw [show isP T p = false from decide_eq_false (by omega)], rfl, rfl⟩) dX7_isPlace_43
      · refine r_iconst K ((nI (1))) (by decide) dX7_isPlace_38 ?_
        refine r_goto K 43 dX7_isPlace_39 (by decide) ?_
        exact r_zret K (b := true) hr (⟨by rw [show isP T p = true from decide_eq_true (by omega)], rfl, rfl⟩) dX7_isPlace_43

set_option maxHeartbeats 400000 in
set_option maxRecDepth 10000 in
theorem m_power {g : Gp} {lau : Launch} {ad : Nat → Nat} {σ : Sg} {v n : Nat} (hv : v < 2 ^ 31) (hn : n < 2 ^ 31) : Con g lau yX7_power cX7_power 5 (Option.some .long) 0 0 [.int (nI (v)), .int (nI (n))] ad σ (pu (.long (lN (v ^ n))) ad σ) := by
  refine con_mk (by decide) (Nat.le_of_ble_eq_true rfl) (fun x hxl K hr => ?_)
  subst hxl
  refine r_lv (lv' := [(0, .int (nI (v))), (1, .int (nI (n)))]) rfl ?_
  refine r_lconst K (lN 1) rfl dX7_power_0 ?_
  refine r_lstore_n K (lv' := [(2, .long (lN (1))), (0, .int (nI (v))), (1, .int (nI (n)))]) 2 rfl (by decide) rfl dX7_power_1 ?_
  refine r_iconst K ((nI (0))) (by decide) dX7_power_2 ?_
  refine r_istore K (lv' := [(4, .int (nI (0))), (2, .long (lN (1))), (0, .int (nI (v))), (1, .int (nI (n)))]) (by decide) rfl dX7_power_3 ?_
  refine r_lv (lv' := [(4, .int (nI (0))), (2, .long (lN (v ^ 0))), (0, .int (nI (v))), (1, .int (nI (n)))]) (by rw [Nat.pow_zero]) ?_
  refine r_pick [2, 3, 1, 0] (lv' := [(0, .int (nI (v))), (1, .int (nI (n))), (2, .long (lN (v ^ 0))), (4, .int (nI (0)))]) rfl ?_
  have lpA : ∀ (mm_ : Nat) (i : Nat), mm_ = n - i → (i ≤ n) → GJ g x 5 5 [(0, .int (nI (v))), (1, .int (nI (n))), (2, .long (lN (v ^ i))), (4, .int (nI (i)))] [] ad (σ) := by
    intro mm_
    induction mm_ using Nat.strongRecOn with
    | _ mm_ ihA =>
      intro i hmA hi
      refine r_iload K rfl dX7_power_5 ?_
      refine r_iload_n K 1 rfl rfl dX7_power_7 ?_
      refine n_icmp_ge K 22 (by omega) (by omega) dX7_power_8 (by decide) (fun h8 => ?_) (fun h8 => ?_)
      · refine r_lload_n K 2 rfl rfl dX7_power_22 ?_
        exact r_lret K hr (⟨by rw [show i = n by omega], rfl, rfl⟩) dX7_power_23
      · refine r_lload_n K 2 rfl rfl dX7_power_11 ?_
        refine r_iload_n K 0 rfl rfl dX7_power_12 ?_
        refine r_i2l K dX7_power_13 ?_
        refine r_topl (nI_l (by omega)) ?_
        refine r_lmul K dX7_power_14 ?_
        refine r_topl (lN_mul _ _) ?_
        refine r_lstore_n K (lv' := [(2, .long (lN ((v ^ i) * v))), (0, .int (nI (v))), (1, .int (nI (n))), (4, .int (nI (i)))]) 2 rfl (by decide) rfl dX7_power_15 ?_
        refine r_lv (lv' := [(2, .long (lN (v ^ (i + 1)))), (0, .int (nI (v))), (1, .int (nI (n))), (4, .int (nI (i)))]) (by rw [Nat.pow_succ]) ?_
        refine r_iinc K ((nI (i + 1))) rfl (nI_1 _) (lv' := [(4, .int (nI (i + 1))), (2, .long (lN (v ^ (i + 1)))), (0, .int (nI (v))), (1, .int (nI (n)))]) (by decide) rfl dX7_power_16 ?_
        refine r_goto K 5 dX7_power_19 (by decide) ?_
        refine r_pick [2, 3, 1, 0] (lv' := [(0, .int (nI (v))), (1, .int (nI (n))), (2, .long (lN (v ^ (i + 1)))), (4, .int (nI (i + 1)))]) rfl ?_
        exact ihA _ (by omega) (i + 1) rfl (by omega)
  exact lpA _ (0) rfl (Nat.zero_le _)

set_option maxHeartbeats 400000 in
set_option maxRecDepth 10000 in
theorem m_part {g : Gp} {lau : Launch} {ad : Nat → Nat} {σ : Sg} {a b z : Nat} (ha : a < 2 ^ 63) (hb : b < 2 ^ 63) (hb0 : 0 < b) (hz : z ≤ 1) : Con g lau yX7_part cX7_part 11 (Option.some .long) 0 0 [.long (lN (a)), .long (lN (b)), .int (nI (z))] ad σ (pu (.long (lN (gcS a b (if z = 0 then a else b)))) ad σ) := by
  refine con_mk (by decide) (Nat.le_of_ble_eq_true rfl) (fun x hxl K hr => ?_)
  subst hxl
  refine r_lv (lv' := [(0, .long (lN (a))), (2, .long (lN (b))), (4, .int (nI (z)))]) rfl ?_
  refine r_lload_n K 0 rfl rfl dX7_part_0 ?_
  refine r_lstore K (lv' := [(5, .long (lN (a))), (0, .long (lN (a))), (2, .long (lN (b))), (4, .int (nI (z)))]) (by decide) rfl dX7_part_1 ?_
  refine r_lload_n K 2 rfl rfl dX7_part_3 ?_
  refine r_lstore K (lv' := [(7, .long (lN (b))), (5, .long (lN (a))), (0, .long (lN (a))), (2, .long (lN (b))), (4, .int (nI (z)))]) (by decide) rfl dX7_part_4 ?_
  refine r_pick [2, 3, 4, 1, 0] (lv' := [(0, .long (lN (a))), (2, .long (lN (b))), (4, .int (nI (z))), (5, .long (lN (a))), (7, .long (lN (b)))]) rfl ?_
  have lpA : ∀ (mm_ : Nat) (u : Nat) (v : Nat), mm_ = v → (Nat.gcd u v = Nat.gcd a b) → (u < 2 ^ 63) → (v < 2 ^ 63) → GJ g x 11 6 [(0, .long (lN (a))), (2, .long (lN (b))), (4, .int (nI (z))), (5, .long (lN (u))), (7, .long (lN (v)))] [] ad (σ) := by
    intro mm_
    induction mm_ using Nat.strongRecOn with
    | _ mm_ ihA =>
      intro u v hmA hg hu hv
      refine r_lload K rfl dX7_part_6 ?_
      refine r_lconst K (lN 0) rfl dX7_part_8 ?_
      refine n_lcmp_eq K 31 (⟨by omega, by omega⟩) dX7_part_9 dX7_part_10 (by decide) (fun h9 => ?_) (fun h9 => ?_)
      · have hgu : u = Nat.gcd a b := by rw [← hg, h9, Nat.gcd_zero_right]
        have hgp : 0 < Nat.gcd a b := Nat.gcd_pos_of_pos_right _ hb0
        refine r_iload K rfl dX7_part_31 ?_
        refine n_if_ne K 40 (by omega) dX7_part_33 (by decide) (fun h33 => ?_) (fun h33 => ?_)
        · refine r_lload_n K 2 rfl rfl dX7_part_40 ?_
          refine r_lload K rfl dX7_part_41 ?_
          refine r_ldiv K (lN_ne0 (by omega) (by omega)) dX7_part_43 ?_
          refine r_topl (pk_lDiv (by omega) (by omega) (by omega)) ?_
          exact r_lret K hr (⟨by simp only [gcS]; rw [← hgu]; rw [if_neg h33], rfl, rfl⟩) dX7_part_44
        · refine r_lload_n K 0 rfl rfl dX7_part_36 ?_
          refine r_goto K 41 dX7_part_37 (by decide) ?_
          refine r_lload K rfl dX7_part_41 ?_
          refine r_ldiv K (lN_ne0 (by omega) (by omega)) dX7_part_43 ?_
          refine r_topl (pk_lDiv (by omega) (by omega) (by omega)) ?_
          exact r_lret K hr (⟨by simp only [gcS]; rw [← hgu]; rw [if_pos h33], rfl, rfl⟩) dX7_part_44
      · refine r_lload K rfl dX7_part_13 ?_
        refine r_lload K rfl dX7_part_15 ?_
        refine r_lrem K (lN_ne0 (by omega) (by omega)) dX7_part_17 ?_
        refine r_topl (pk_lRem (by omega) (by omega) (by omega)) ?_
        refine r_lstore K (lv' := [(9, .long (lN (u % v))), (0, .long (lN (a))), (2, .long (lN (b))), (4, .int (nI (z))), (5, .long (lN (u))), (7, .long (lN (v)))]) (by decide) rfl dX7_part_18 ?_
        refine r_lload K rfl dX7_part_20 ?_
        refine r_lstore K (lv' := [(5, .long (lN (v))), (9, .long (lN (u % v))), (0, .long (lN (a))), (2, .long (lN (b))), (4, .int (nI (z))), (7, .long (lN (v)))]) (by decide) rfl dX7_part_22 ?_
        refine r_lload K rfl dX7_part_24 ?_
        refine r_lstore K (lv' := [(7, .long (lN (u % v))), (5, .long (lN (v))), (9, .long (lN (u % v))), (0, .long (lN (a))), (2, .long (lN (b))), (4, .int (nI (z)))]) (by decide) rfl dX7_part_26 ?_
        refine r_goto K 6 dX7_part_28 (by decide) ?_
        refine r_pick [3, 4, 5, 1, 0] (lv' := [(0, .long (lN (a))), (2, .long (lN (b))), (4, .int (nI (z))), (5, .long (lN (v))), (7, .long (lN (u % v)))]) rfl ?_
        exact ihA _ (by rw [hmA]; exact Nat.mod_lt u (by omega)) (v) (u % v) rfl (by rw [← hg, Nat.gcd_comm u v, Nat.gcd_rec v u, Nat.gcd_comm]) (hv) (by have := Nat.mod_lt u (show 0 < v by omega); omega)
  exact lpA _ (a) (b) rfl (rfl) (ha) (hb)

def oddsOk (n most p z : Int32) : Bool := inS n (nI 0) most && (inS p (nI 0) (nI 10) && inS z (nI 0) (nI 1))
set_option maxHeartbeats 400000 in
set_option maxRecDepth 10000 in
theorem m_areOdds {g : Gp} {lau : Launch} {ad : Nat → Nat} {σ : Sg} (n most p z : Int32) : Con g lau yX7_areOdds cX7_areOdds 4 (Option.some .boolean) 1 22 [.int (n), .int (most), .int (p), .int (z)] ad σ (pu (.int (bI (oddsOk n most p z))) ad σ) := by
  refine con_mk (by decide) (Nat.le_of_ble_eq_true rfl) (fun x hxl K hr => ?_)
  subst hxl
  refine r_lv (lv' := [(0, .int (n)), (1, .int (most)), (2, .int (p)), (3, .int (z))]) rfl ?_
  refine r_iload_n K 0 rfl rfl dX7_areOdds_0 ?_
  refine r_iconst K ((nI (0))) (by decide) dX7_areOdds_1 ?_
  refine r_iload_n K 1 rfl rfl dX7_areOdds_2 ?_
  refine r_callSp K (As := [.int (n), .int (nI (0)), .int (most)]) ms_X7_in ml_RX7_61 (m_in ((n)) ((nI (0))) ((most))) rfl rfl (Nat.le_of_ble_eq_true rfl) ⟨by decide, by decide⟩ dX7_areOdds_3 ?_
  refine b_if_eq K 32 dX7_areOdds_6 (by decide) (fun h6 => ?_) (fun h6 => ?_)
  · refine r_iconst K ((nI (0))) (by decide) dX7_areOdds_32 ?_
    exact r_zret K (b := false) hr (⟨by simp [oddsOk, *], rfl, rfl⟩) dX7_areOdds_33
  · refine r_iload_n K 2 rfl rfl dX7_areOdds_9 ?_
    refine r_iconst K ((nI (0))) (by decide) dX7_areOdds_10 ?_
    refine r_bipush K ((nI (10))) (by decide) dX7_areOdds_11 ?_
    refine r_callSp K (As := [.int (p), .int (nI (0)), .int (nI (10))]) ms_X7_in ml_RX7_61 (m_in ((p)) ((nI (0))) ((nI (10)))) rfl rfl (Nat.le_of_ble_eq_true rfl) ⟨by decide, by decide⟩ dX7_areOdds_13 ?_
    refine b_if_eq K 32 dX7_areOdds_16 (by decide) (fun h16 => ?_) (fun h16 => ?_)
    · refine r_iconst K ((nI (0))) (by decide) dX7_areOdds_32 ?_
      exact r_zret K (b := false) hr (⟨by simp [oddsOk, *], rfl, rfl⟩) dX7_areOdds_33
    · refine r_iload_n K 3 rfl rfl dX7_areOdds_19 ?_
      refine r_iconst K ((nI (0))) (by decide) dX7_areOdds_20 ?_
      refine r_iconst K ((nI (1))) (by decide) dX7_areOdds_21 ?_
      refine r_callSp K (As := [.int (z), .int (nI (0)), .int (nI (1))]) ms_X7_in ml_RX7_61 (m_in ((z)) ((nI (0))) ((nI (1)))) rfl rfl (Nat.le_of_ble_eq_true rfl) ⟨by decide, by decide⟩ dX7_areOdds_22 ?_
      refine b_if_eq K 32 dX7_areOdds_25 (by decide) (fun h25 => ?_) (fun h25 => ?_)
      · refine r_iconst K ((nI (0))) (by decide) dX7_areOdds_32 ?_
        exact r_zret K (b := false) hr (⟨by simp [oddsOk, *], rfl, rfl⟩) dX7_areOdds_33
      · refine r_iconst K ((nI (1))) (by decide) dX7_areOdds_28 ?_
        refine r_goto K 33 dX7_areOdds_29 (by decide) ?_
        exact r_zret K (b := true) hr (⟨by simp [oddsOk, *], rfl, rfl⟩) dX7_areOdds_33

set_option maxHeartbeats 400000 in
set_option maxRecDepth 10000 in
theorem c_lowestTerms {g : Gp} {lau : Launch} {ad : Nat → Nat} {σ : Sg} {a n z : Nat} (ha : a ≤ 100000000) (hn : n ≤ 8) (hz : z ≤ 1) : Con g lau yX6_lowestTerms cX6_lowestTerms 9 (Option.some .long) 0 0 [.long (lN (a)), .int (nI (n)), .int (nI (z))] ad σ (pu (.long (lN (gcS a (10 ^ n) (if z = 0 then a else 10 ^ n)))) ad σ) := by
  refine con_mk (by decide) (Nat.le_of_ble_eq_true rfl) (fun x hxl K hr => ?_)
  subst hxl
  refine r_lv (lv' := [(0, .long (lN (a))), (2, .int (nI (n))), (3, .int (nI (z)))]) rfl ?_
  refine r_lload_n K 0 rfl rfl dX6_lowestTerms_0 ?_
  refine r_lstore K (lv' := [(4, .long (lN (a))), (0, .long (lN (a))), (2, .int (nI (n))), (3, .int (nI (z)))]) (by decide) rfl dX6_lowestTerms_1 ?_
  refine r_lconst K (lN 1) rfl dX6_lowestTerms_3 ?_
  refine r_lstore K (lv' := [(6, .long (lN (1))), (4, .long (lN (a))), (0, .long (lN (a))), (2, .int (nI (n))), (3, .int (nI (z)))]) (by decide) rfl dX6_lowestTerms_4 ?_
  refine r_iconst K ((nI (0))) (by decide) dX6_lowestTerms_6 ?_
  refine r_istore K (lv' := [(8, .int (nI (0))), (6, .long (lN (1))), (4, .long (lN (a))), (0, .long (lN (a))), (2, .int (nI (n))), (3, .int (nI (z)))]) (by decide) rfl dX6_lowestTerms_7 ?_
  refine r_lv (lv' := [(8, .int (nI (0))), (6, .long (lN (10 ^ 0))), (4, .long (lN (a))), (0, .long (lN (a))), (2, .int (nI (n))), (3, .int (nI (z)))]) (by rw [Nat.pow_zero]) ?_
  refine r_pick [3, 4, 5, 2, 1, 0] (lv' := [(0, .long (lN (a))), (2, .int (nI (n))), (3, .int (nI (z))), (4, .long (lN (a))), (6, .long (lN (10 ^ 0))), (8, .int (nI (0)))]) rfl ?_
  have lpA : ∀ (mm_ : Nat) (i : Nat), mm_ = n - i → (i ≤ n) → GJ g x 9 9 [(0, .long (lN (a))), (2, .int (nI (n))), (3, .int (nI (z))), (4, .long (lN (a))), (6, .long (lN (10 ^ i))), (8, .int (nI (i)))] [] ad (σ) := by
    intro mm_
    induction mm_ using Nat.strongRecOn with
    | _ mm_ ihA =>
      intro i hmA hi
      refine r_iload K rfl dX6_lowestTerms_9 ?_
      refine r_iload_n K 2 rfl rfl dX6_lowestTerms_11 ?_
      refine n_icmp_ge K 29 (by omega) (by omega) dX6_lowestTerms_12 (by decide) (fun h12 => ?_) (fun h12 => ?_)
      · refine r_iconst K ((nI (0))) (by decide) dX6_lowestTerms_29 ?_
        refine r_istore K (lv' := [(8, .int (nI (0))), (0, .long (lN (a))), (2, .int (nI (n))), (3, .int (nI (z))), (4, .long (lN (a))), (6, .long (lN (10 ^ i)))]) (by decide) rfl dX6_lowestTerms_30 ?_
        refine r_pick [1, 2, 3, 4, 5, 0] (lv' := [(0, .long (lN (a))), (2, .int (nI (n))), (3, .int (nI (z))), (4, .long (lN (a))), (6, .long (lN (10 ^ i))), (8, .int (nI (0)))]) rfl ?_
        have lpB : ∀ (mm_ : Nat) (j : Nat) (t : Nat) (y : Nat), mm_ = n - j → (j ≤ n) → (lowI a n j t y) → GJ g x 9 32 [(0, .long (lN (a))), (2, .int (nI (n))), (3, .int (nI (z))), (4, .long (lN (t))), (6, .long (lN (y))), (8, .int (nI (j)))] [] ad (σ) := by
          intro mm_
          induction mm_ using Nat.strongRecOn with
          | _ mm_ ihB =>
            intro j t y hmB hj hI
            obtain ⟨hb1, hb2, hb3⟩ := low_le hI hn ha
            refine r_iload K rfl dX6_lowestTerms_32 ?_
            refine r_iload_n K 2 rfl rfl dX6_lowestTerms_34 ?_
            refine n_icmp_ge K 98 (by omega) (by omega) dX6_lowestTerms_35 (by decide) (fun h35 => ?_) (fun h35 => ?_)
            · obtain ⟨he1, he2⟩ := low_end (show lowI a n n t y from (show j = n by omega) ▸ hI)
              refine r_iload_n K 3 rfl rfl dX6_lowestTerms_98 ?_
              refine n_if_ne K 107 (by omega) dX6_lowestTerms_99 (by decide) (fun h99 => ?_) (fun h99 => ?_)
              · refine r_lload K rfl dX6_lowestTerms_107 ?_
                exact r_lret K hr (⟨by rw [if_neg h99, ← he2], rfl, rfl⟩) dX6_lowestTerms_109
              · refine r_lload K rfl dX6_lowestTerms_102 ?_
                refine r_goto K 109 dX6_lowestTerms_104 (by decide) ?_
                exact r_lret K hr (⟨by rw [if_pos h99, ← he1], rfl, rfl⟩) dX6_lowestTerms_109
            · refine r_lload K rfl dX6_lowestTerms_38 ?_
              refine r_ldc2 K (v := (lN (2))) kl_RX6_238 dX6_lowestTerms_40 ?_
              refine r_lrem K (lN_ne0 (by omega) (by omega)) dX6_lowestTerms_43 ?_
              refine r_topl (pk_lRem (by omega) (by omega) (by omega)) ?_
              refine r_lconst K (lN 0) rfl dX6_lowestTerms_44 ?_
              refine n_lcmp_ne K 65 (⟨by omega, by omega⟩) dX6_lowestTerms_45 dX6_lowestTerms_46 (by decide) (fun h45 => ?_) (fun h45 => ?_)
              · have hH := low_no2 hI h45
                obtain ⟨hc1, hc2, hc3⟩ := lowH_le hH hn ha
                refine r_lload K rfl dX6_lowestTerms_65 ?_
                refine r_ldc2 K (v := (lN (5))) kl_RX6_240 dX6_lowestTerms_67 ?_
                refine r_lrem K (lN_ne0 (by omega) (by omega)) dX6_lowestTerms_70 ?_
                refine r_topl (pk_lRem (by omega) (by omega) (by omega)) ?_
                refine r_lconst K (lN 0) rfl dX6_lowestTerms_71 ?_
                refine n_lcmp_ne K 92 (⟨by omega, by omega⟩) dX6_lowestTerms_72 dX6_lowestTerms_73 (by decide) (fun h72 => ?_) (fun h72 => ?_)
                · refine r_iinc K ((nI (j + 1))) rfl (nI_1 _) (lv' := [(8, .int (nI (j + 1))), (0, .long (lN (a))), (2, .int (nI (n))), (3, .int (nI (z))), (4, .long (lN (t))), (6, .long (lN (y)))]) (by decide) rfl dX6_lowestTerms_92 ?_
                  refine r_goto K 32 dX6_lowestTerms_95 (by decide) ?_
                  refine r_pick [1, 2, 3, 4, 5, 0] (lv' := [(0, .long (lN (a))), (2, .int (nI (n))), (3, .int (nI (z))), (4, .long (lN (t))), (6, .long (lN (y))), (8, .int (nI (j + 1)))]) rfl ?_
                  exact ihB _ (by omega) (j + 1) (_) (_) rfl (by omega) (low_no5 hH h72)
                · refine r_lload K rfl dX6_lowestTerms_76 ?_
                  refine r_ldc2 K (v := (lN (5))) kl_RX6_240 dX6_lowestTerms_78 ?_
                  refine r_ldiv K (lN_ne0 (by omega) (by omega)) dX6_lowestTerms_81 ?_
                  refine r_topl (pk_lDiv (by omega) (by omega) (by omega)) ?_
                  refine r_lstore K (lv' := [(4, .long (lN (t / 5))), (0, .long (lN (a))), (2, .int (nI (n))), (3, .int (nI (z))), (6, .long (lN (y))), (8, .int (nI (j)))]) (by decide) rfl dX6_lowestTerms_82 ?_
                  refine r_lload K rfl dX6_lowestTerms_84 ?_
                  refine r_ldc2 K (v := (lN (5))) kl_RX6_240 dX6_lowestTerms_86 ?_
                  refine r_ldiv K (lN_ne0 (by omega) (by omega)) dX6_lowestTerms_89 ?_
                  refine r_topl (pk_lDiv (by omega) (by omega) (by omega)) ?_
                  refine r_lstore K (lv' := [(6, .long (lN (y / 5))), (4, .long (lN (t / 5))), (0, .long (lN (a))), (2, .int (nI (n))), (3, .int (nI (z))), (8, .int (nI (j)))]) (by decide) rfl dX6_lowestTerms_90 ?_
                  refine r_iinc K ((nI (j + 1))) rfl (nI_1 _) (lv' := [(8, .int (nI (j + 1))), (6, .long (lN (y / 5))), (4, .long (lN (t / 5))), (0, .long (lN (a))), (2, .int (nI (n))), (3, .int (nI (z)))]) (by decide) rfl dX6_lowestTerms_92 ?_
                  refine r_goto K 32 dX6_lowestTerms_95 (by decide) ?_
                  refine r_pick [3, 4, 5, 2, 1, 0] (lv' := [(0, .long (lN (a))), (2, .int (nI (n))), (3, .int (nI (z))), (4, .long (lN (t / 5))), (6, .long (lN (y / 5))), (8, .int (nI (j + 1)))]) rfl ?_
                  exact ihB _ (by omega) (j + 1) (_) (_) rfl (by omega) (low_five (by omega) hH h72)
              · refine r_lload K rfl dX6_lowestTerms_49 ?_
                refine r_ldc2 K (v := (lN (2))) kl_RX6_238 dX6_lowestTerms_51 ?_
                refine r_ldiv K (lN_ne0 (by omega) (by omega)) dX6_lowestTerms_54 ?_
                refine r_topl (pk_lDiv (by omega) (by omega) (by omega)) ?_
                refine r_lstore K (lv' := [(4, .long (lN (t / 2))), (0, .long (lN (a))), (2, .int (nI (n))), (3, .int (nI (z))), (6, .long (lN (y))), (8, .int (nI (j)))]) (by decide) rfl dX6_lowestTerms_55 ?_
                refine r_lload K rfl dX6_lowestTerms_57 ?_
                refine r_ldc2 K (v := (lN (2))) kl_RX6_238 dX6_lowestTerms_59 ?_
                refine r_ldiv K (lN_ne0 (by omega) (by omega)) dX6_lowestTerms_62 ?_
                refine r_topl (pk_lDiv (by omega) (by omega) (by omega)) ?_
                refine r_lstore K (lv' := [(6, .long (lN (y / 2))), (4, .long (lN (t / 2))), (0, .long (lN (a))), (2, .int (nI (n))), (3, .int (nI (z))), (8, .int (nI (j)))]) (by decide) rfl dX6_lowestTerms_63 ?_
                have hH := low_two (by omega) hI h45
                obtain ⟨hc1, hc2, hc3⟩ := lowH_le hH hn ha
                refine r_lload K rfl dX6_lowestTerms_65 ?_
                refine r_ldc2 K (v := (lN (5))) kl_RX6_240 dX6_lowestTerms_67 ?_
                refine r_lrem K (lN_ne0 (by omega) (by omega)) dX6_lowestTerms_70 ?_
                refine r_topl (pk_lRem (by omega) (by omega) (by omega)) ?_
                refine r_lconst K (lN 0) rfl dX6_lowestTerms_71 ?_
                refine n_lcmp_ne K 92 (⟨by omega, by omega⟩) dX6_lowestTerms_72 dX6_lowestTerms_73 (by decide) (fun h72 => ?_) (fun h72 => ?_)
                · refine r_iinc K ((nI (j + 1))) rfl (nI_1 _) (lv' := [(8, .int (nI (j + 1))), (6, .long (lN (y / 2))), (4, .long (lN (t / 2))), (0, .long (lN (a))), (2, .int (nI (n))), (3, .int (nI (z)))]) (by decide) rfl dX6_lowestTerms_92 ?_
                  refine r_goto K 32 dX6_lowestTerms_95 (by decide) ?_
                  refine r_pick [3, 4, 5, 2, 1, 0] (lv' := [(0, .long (lN (a))), (2, .int (nI (n))), (3, .int (nI (z))), (4, .long (lN (t / 2))), (6, .long (lN (y / 2))), (8, .int (nI (j + 1)))]) rfl ?_
                  exact ihB _ (by omega) (j + 1) (_) (_) rfl (by omega) (low_no5 hH h72)
                · refine r_lload K rfl dX6_lowestTerms_76 ?_
                  refine r_ldc2 K (v := (lN (5))) kl_RX6_240 dX6_lowestTerms_78 ?_
                  refine r_ldiv K (lN_ne0 (by omega) (by omega)) dX6_lowestTerms_81 ?_
                  refine r_topl (pk_lDiv (by omega) (by omega) (by omega)) ?_
                  refine r_lstore K (lv' := [(4, .long (lN ((t / 2) / 5))), (6, .long (lN (y / 2))), (0, .long (lN (a))), (2, .int (nI (n))), (3, .int (nI (z))), (8, .int (nI (j)))]) (by decide) rfl dX6_lowestTerms_82 ?_
                  refine r_lload K rfl dX6_lowestTerms_84 ?_
                  refine r_ldc2 K (v := (lN (5))) kl_RX6_240 dX6_lowestTerms_86 ?_
                  refine r_ldiv K (lN_ne0 (by omega) (by omega)) dX6_lowestTerms_89 ?_
                  refine r_topl (pk_lDiv (by omega) (by omega) (by omega)) ?_
                  refine r_lstore K (lv' := [(6, .long (lN ((y / 2) / 5))), (4, .long (lN ((t / 2) / 5))), (0, .long (lN (a))), (2, .int (nI (n))), (3, .int (nI (z))), (8, .int (nI (j)))]) (by decide) rfl dX6_lowestTerms_90 ?_
                  refine r_iinc K ((nI (j + 1))) rfl (nI_1 _) (lv' := [(8, .int (nI (j + 1))), (6, .long (lN ((y / 2) / 5))), (4, .long (lN ((t / 2) / 5))), (0, .long (lN (a))), (2, .int (nI (n))), (3, .int (nI (z)))]) (by decide) rfl dX6_lowestTerms_92 ?_
                  refine r_goto K 32 dX6_lowestTerms_95 (by decide) ?_
                  refine r_pick [3, 4, 5, 2, 1, 0] (lv' := [(0, .long (lN (a))), (2, .int (nI (n))), (3, .int (nI (z))), (4, .long (lN ((t / 2) / 5))), (6, .long (lN ((y / 2) / 5))), (8, .int (nI (j + 1)))]) rfl ?_
                  exact ihB _ (by omega) (j + 1) (_) (_) rfl (by omega) (low_five (by omega) hH h72)
        exact lpB _ (0) (_) (_) rfl (Nat.zero_le _) (by rw [show i = n by omega]; exact low_start a n)
      · refine r_lload K rfl dX6_lowestTerms_15 ?_
        refine r_ldc2 K (v := (lN (10))) kl_RX6_236 dX6_lowestTerms_17 ?_
        refine r_lmul K dX6_lowestTerms_20 ?_
        refine r_topl (lN_mul _ _) ?_
        refine r_lstore K (lv' := [(6, .long (lN ((10 ^ i) * 10))), (0, .long (lN (a))), (2, .int (nI (n))), (3, .int (nI (z))), (4, .long (lN (a))), (8, .int (nI (i)))]) (by decide) rfl dX6_lowestTerms_21 ?_
        refine r_lv (lv' := [(6, .long (lN (10 ^ (i + 1)))), (0, .long (lN (a))), (2, .int (nI (n))), (3, .int (nI (z))), (4, .long (lN (a))), (8, .int (nI (i)))]) (by rw [Nat.pow_succ]) ?_
        refine r_iinc K ((nI (i + 1))) rfl (nI_1 _) (lv' := [(8, .int (nI (i + 1))), (6, .long (lN (10 ^ (i + 1)))), (0, .long (lN (a))), (2, .int (nI (n))), (3, .int (nI (z))), (4, .long (lN (a)))]) (by decide) rfl dX6_lowestTerms_23 ?_
        refine r_goto K 9 dX6_lowestTerms_26 (by decide) ?_
        refine r_pick [2, 3, 4, 5, 1, 0] (lv' := [(0, .long (lN (a))), (2, .int (nI (n))), (3, .int (nI (z))), (4, .long (lN (a))), (6, .long (lN (10 ^ (i + 1)))), (8, .int (nI (i + 1)))]) rfl ?_
        exact ihA _ (by omega) (i + 1) rfl (by omega)
  exact lpA _ (0) rfl (Nat.zero_le _)
