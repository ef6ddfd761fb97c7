def isL (v : Int32) : Bool := decide (0 ≤ v.toInt ∧ v.toInt < 6)
def isH (v : Int32) : Bool := decide (0 ≤ v.toInt ∧ v.toInt < 24)
def knotS (p l q m : Nat) : Bool := decide (p ≠ 160 ∧ q ≠ 160 ∧ l = m ∧ p / 20 = q / 20 ∧ offS p q < 2)
theorem abs_sub {a b : Nat} (ha : a < 2 ^ 30) (hb : b < 2 ^ 30) : (if 0 ≤ nI a - nI b then nI a - nI b else 0 - (nI a - nI b)) = nI (offS a b) := by
  unfold offS
  by_cases h : b < a
  · rw [if_pos h, pk_sub (by omega), if_pos (nI_pos' (by omega))]
  · rw [if_neg h]
    by_cases h2 : a = b
    · subst h2
      rw [pk_sub (by omega), if_pos (nI_pos' (by omega))]
    · rw [if_neg (fun z => by have h3 := pk_sneg (a := a) (b := b) hb (by omega); exact absurd z (Int32.not_le.mpr h3))]
      rw [show (0 : Int32) - (nI a - nI b) = nI b - nI a by rw [Int32.sub_eq_add_neg, Int32.neg_sub, Int32.zero_add], pk_sub (by omega)]
theorem offS_lt {a b n : Nat} (ha : a < n) (hb : b < n) : offS a b < n := by unfold offS; split <;> omega
set_option maxHeartbeats 400000 in
set_option maxRecDepth 10000 in
theorem c_isLayer {g : Gp} {lau : Launch} {ad : Nat → Nat} {σ : Sg} (v : Int32) : Con g lau yX6_isLayer cX6_isLayer 1 (Option.some .boolean) 0 0 [.int (v)] ad σ (pu (.int (bI (isL v))) ad σ) := by
  refine con_mk (by decide) (Nat.le_of_ble_eq_true rfl) (fun x hxl K hr => ?_)
  subst hxl
  refine r_lv (lv' := [(0, .int (v))]) rfl ?_
  refine r_iload_n K 0 rfl rfl dX6_isLayer_0 ?_
  refine r_if_lt K 14 dX6_isLayer_1 (by decide) (fun h1 => ?_) (fun h1 => ?_)
  · refine r_iconst K ((nI (0))) (by decide) dX6_isLayer_14 ?_
    exact r_zret K (b := false) hr (⟨by rw [show isL v = false from decide_eq_false (fun z => by have := neg_toInt h1; omega)], rfl, rfl⟩) dX6_isLayer_15
  · refine r_iload_n K 0 rfl rfl dX6_isLayer_4 ?_
    refine r_bipush K ((nI (6))) (by decide) dX6_isLayer_5 ?_
    refine r_icmp_ge K 14 dX6_isLayer_7 (by decide) (fun h7 => ?_) (fun h7 => ?_)
    · refine r_iconst K ((nI (0))) (by decide) dX6_isLayer_14 ?_
      exact r_zret K (b := false) hr (⟨by rw [show isL v = false from decide_eq_false (fun z => by have := ge_toInt h7 (by omega); omega)], rfl, rfl⟩) dX6_isLayer_15
    · refine r_iconst K ((nI (1))) (by decide) dX6_isLayer_10 ?_
      refine r_goto K 15 dX6_isLayer_11 (by decide) ?_
      exact r_zret K (b := true) hr (⟨by obtain ⟨b, hb, rfl⟩ := ix_of h1 h7 (by omega); rw [show isL (nI b) = true from decide_eq_true (by rw [nI_toInt (by omega)]; omega)], rfl, rfl⟩) dX6_isLayer_15

set_option maxHeartbeats 400000 in
set_option maxRecDepth 10000 in
theorem c_isHour {g : Gp} {lau : Launch} {ad : Nat → Nat} {σ : Sg} (v : Int32) : Con g lau yX6_isHour cX6_isHour 1 (Option.some .boolean) 0 0 [.int (v)] ad σ (pu (.int (bI (isH v))) ad σ) := by
  refine con_mk (by decide) (Nat.le_of_ble_eq_true rfl) (fun x hxl K hr => ?_)
  subst hxl
  refine r_lv (lv' := [(0, .int (v))]) rfl ?_
  refine r_iload_n K 0 rfl rfl dX6_isHour_0 ?_
  refine r_if_lt K 14 dX6_isHour_1 (by decide) (fun h1 => ?_) (fun h1 => ?_)
  · refine r_iconst K ((nI (0))) (by decide) dX6_isHour_14 ?_
    exact r_zret K (b := false) hr (⟨by rw [show isH v = false from decide_eq_false (fun z => by have := neg_toInt h1; omega)], rfl, rfl⟩) dX6_isHour_15
  · refine r_iload_n K 0 rfl rfl dX6_isHour_4 ?_
    refine r_bipush K ((nI (24))) (by decide) dX6_isHour_5 ?_
    refine r_icmp_ge K 14 dX6_isHour_7 (by decide) (fun h7 => ?_) (fun h7 => ?_)
    · refine r_iconst K ((nI (0))) (by decide) dX6_isHour_14 ?_
      exact r_zret K (b := false) hr (⟨by rw [show isH v = false from decide_eq_false (fun z => by have := ge_toInt h7 (by omega); omega)], rfl, rfl⟩) dX6_isHour_15
    · refine r_iconst K ((nI (1))) (by decide) dX6_isHour_10 ?_
      refine r_goto K 15 dX6_isHour_11 (by decide) ?_
      exact r_zret K (b := true) hr (⟨by obtain ⟨b, hb, rfl⟩ := ix_of h1 h7 (by omega); rw [show isH (nI b) = true from decide_eq_true (by rw [nI_toInt (by omega)]; omega)], rfl, rfl⟩) dX6_isHour_15

set_option maxHeartbeats 400000 in
set_option maxRecDepth 10000 in
theorem c_isKnot {g : Gp} {lau : Launch} {ad : Nat → Nat} {σ : Sg} {p l q m : Nat} (hp : p ≤ 160) (hl6 : l < 6) (hq : q ≤ 160) (hm6 : m < 256) : Con g lau yX6_isKnot cX6_isKnot 4 (Option.some .boolean) 1 24 [.int (nI (p)), .int (nI (l)), .int (nI (q)), .int (nI (m))] ad σ (pu (.int (bI (knotS p l q m))) ad σ) := by
  refine con_mk (by decide) (Nat.le_of_ble_eq_true rfl) (fun x hxl K hr => ?_)
  subst hxl
  refine r_lv (lv' := [(0, .int (nI (p))), (1, .int (nI (l))), (2, .int (nI (q))), (3, .int (nI (m)))]) rfl ?_
  refine r_iload_n K 0 rfl rfl dX6_isKnot_0 ?_
  refine r_sipush K ((nI (160))) (by decide) dX6_isKnot_1 ?_
  refine n_icmp_eq K 44 (by omega) (by omega) dX6_isKnot_4 (by decide) (fun h4 => ?_) (fun h4 => ?_)
  · refine r_iconst K ((nI (0))) (by decide) dX6_isKnot_44 ?_
    exact r_zret K (b := false) hr (⟨by rw [show knotS p l q m = false from decide_eq_false (by omega)], rfl, rfl⟩) dX6_isKnot_45
  · refine r_iload_n K 2 rfl rfl dX6_isKnot_7 ?_
    refine r_sipush K ((nI (160))) (by decide) dX6_isKnot_8 ?_
    refine n_icmp_eq K 44 (by omega) (by omega) dX6_isKnot_11 (by decide) (fun h11 => ?_) (fun h11 => ?_)
    · refine r_iconst K ((nI (0))) (by decide) dX6_isKnot_44 ?_
      exact r_zret K (b := false) hr (⟨by rw [show knotS p l q m = false from decide_eq_false (by omega)], rfl, rfl⟩) dX6_isKnot_45
    · refine r_iload_n K 1 rfl rfl dX6_isKnot_14 ?_
      refine r_iload_n K 3 rfl rfl dX6_isKnot_15 ?_
      refine n_icmp_ne K 44 (by omega) (by omega) dX6_isKnot_16 (by decide) (fun h16 => ?_) (fun h16 => ?_)
      · refine r_iconst K ((nI (0))) (by decide) dX6_isKnot_44 ?_
        exact r_zret K (b := false) hr (⟨by rw [show knotS p l q m = false from decide_eq_false (by omega)], rfl, rfl⟩) dX6_isKnot_45
      · refine r_iload_n K 0 rfl rfl dX6_isKnot_19 ?_
        refine r_bipush K ((nI (20))) (by decide) dX6_isKnot_20 ?_
        refine r_idiv K (nI_ne0 (by omega) (by omega)) dX6_isKnot_22 ?_
        refine r_topi (pk_div (by omega) (by omega) (by omega)) ?_
        refine r_iload_n K 2 rfl rfl dX6_isKnot_23 ?_
        refine r_bipush K ((nI (20))) (by decide) dX6_isKnot_24 ?_
        refine r_idiv K (nI_ne0 (by omega) (by omega)) dX6_isKnot_26 ?_
        refine r_topi (pk_div (by omega) (by omega) (by omega)) ?_
        refine n_icmp_ne K 44 (by omega) (by omega) dX6_isKnot_27 (by decide) (fun h27 => ?_) (fun h27 => ?_)
        · refine r_iconst K ((nI (0))) (by decide) dX6_isKnot_44 ?_
          exact r_zret K (b := false) hr (⟨by rw [show knotS p l q m = false from decide_eq_false (by omega)], rfl, rfl⟩) dX6_isKnot_45
        · refine r_iload_n K 0 rfl rfl dX6_isKnot_30 ?_
          refine r_iload_n K 2 rfl rfl dX6_isKnot_31 ?_
          refine r_isub K dX6_isKnot_32 ?_
          refine r_mabs K ml_RX6_132 (by decide) (Nat.le_of_ble_eq_true rfl) dX6_isKnot_33 ?_
          refine r_topi (b := (nI (offS p q))) (abs_sub (by omega) (by omega)) ?_
          have hof : offS p q < 161 := offS_lt (by omega) (by omega)
          refine r_iconst K ((nI (2))) (by decide) dX6_isKnot_36 ?_
          refine n_icmp_ge K 44 (by omega) (by omega) dX6_isKnot_37 (by decide) (fun h37 => ?_) (fun h37 => ?_)
          · refine r_iconst K ((nI (0))) (by decide) dX6_isKnot_44 ?_
            exact r_zret K (b := false) hr (⟨by rw [show knotS p l q m = false from decide_eq_false (by omega)], rfl, rfl⟩) dX6_isKnot_45
          · refine r_iconst K ((nI (1))) (by decide) dX6_isKnot_40 ?_
            refine r_goto K 45 dX6_isKnot_41 (by decide) ?_
            exact r_zret K (b := true) hr (⟨by rw [show knotS p l q m = true from decide_eq_true (by omega)], rfl, rfl⟩) dX6_isKnot_45

set_option maxHeartbeats 400000 in
set_option maxRecDepth 10000 in
theorem c_copy_65_64 {g : Gp} {lau : Launch} {ad : Nat → Nat} {σ : Sg}  : Con g lau yX0_copyFrom cX0_copyFrom 2 (Option.none : Option Jvm.ClassFile.FieldType) 1 80 [.ref (ad 65), .ref (ad 64)] ad σ (ex none ad (((((((σ).sI 11 ((σ.I 10))).sA 17 (va_cpy ((σ).A 12) ((σ).A 17) 0 0 4)).sA 18 (va_cpy ((σ).A 13) ((σ).A 18) 0 0 4)).sA 19 (va_cpy ((σ).A 14) ((σ).A 19) 0 0 4)).sA 20 (va_cpy ((σ).A 15) ((σ).A 20) 0 0 4)).sA 21 (va_cpy ((σ).A 16) ((σ).A 21) 0 0 4))) := by
  refine con_mk (by decide) (Nat.le_of_ble_eq_true rfl) (fun x hxl K hr => ?_)
  subst hxl
  refine r_lv (lv' := [(0, .ref (ad 65)), (1, .ref (ad 64))]) rfl ?_
  refine r_aload_n K 0 rfl rfl dX0_copyFrom_0 ?_
  refine r_aload_n K 1 rfl rfl dX0_copyFrom_1 ?_
  refine get_64_0 K fl_RX0_9 dX0_copyFrom_2 ?_
  refine put_65_0 K fl_RX0_9 dX0_copyFrom_5 ?_
  refine r_aload_n K 1 rfl rfl dX0_copyFrom_8 ?_
  refine get_64_1 K fl_RX0_15 dX0_copyFrom_9 ?_
  refine r_iconst K ((nI (0))) (by decide) dX0_copyFrom_12 ?_
  refine r_aload_n K 0 rfl rfl dX0_copyFrom_13 ?_
  refine get_65_1 K fl_RX0_15 dX0_copyFrom_14 ?_
  refine r_iconst K ((nI (0))) (by decide) dX0_copyFrom_17 ?_
  refine r_iconst K ((nI (4))) (by decide) dX0_copyFrom_18 ?_
  refine r_copy K 12 17 (n0 := 4) (n1 := 4) (n := 4) (by decide) rfl rfl (by decide) rfl rfl (by decide) (by decide) (by decide) ml_RX0_37 (by decide) (by decide +kernel) dX0_copyFrom_19 ?_
  refine r_w (σ2 := ((σ).sI 11 ((σ.I 10))).sA 17 (va_cpy ((σ).A 12) ((σ).A 17) 0 0 4)) rfl ?_
  refine r_aload_n K 1 rfl rfl dX0_copyFrom_22 ?_
  refine get_64_2 K fl_RX0_19 dX0_copyFrom_23 ?_
  refine r_iconst K ((nI (0))) (by decide) dX0_copyFrom_26 ?_
  refine r_aload_n K 0 rfl rfl dX0_copyFrom_27 ?_
  refine get_65_2 K fl_RX0_19 dX0_copyFrom_28 ?_
  refine r_iconst K ((nI (0))) (by decide) dX0_copyFrom_31 ?_
  refine r_iconst K ((nI (4))) (by decide) dX0_copyFrom_32 ?_
  refine r_copy K 13 18 (n0 := 4) (n1 := 4) (n := 4) (by decide) rfl rfl (by decide) rfl rfl (by decide) (by decide) (by decide) ml_RX0_37 (by decide) (by decide +kernel) dX0_copyFrom_33 ?_
  refine r_w (σ2 := (((σ).sI 11 ((σ.I 10))).sA 17 (va_cpy ((σ).A 12) ((σ).A 17) 0 0 4)).sA 18 (va_cpy ((σ).A 13) ((σ).A 18) 0 0 4)) rfl ?_
  refine r_aload_n K 1 rfl rfl dX0_copyFrom_36 ?_
  refine get_64_3 K fl_RX0_22 dX0_copyFrom_37 ?_
  refine r_iconst K ((nI (0))) (by decide) dX0_copyFrom_40 ?_
  refine r_aload_n K 0 rfl rfl dX0_copyFrom_41 ?_
  refine get_65_3 K fl_RX0_22 dX0_copyFrom_42 ?_
  refine r_iconst K ((nI (0))) (by decide) dX0_copyFrom_45 ?_
  refine r_iconst K ((nI (4))) (by decide) dX0_copyFrom_46 ?_
  refine r_copy K 14 19 (n0 := 4) (n1 := 4) (n := 4) (by decide) rfl rfl (by decide) rfl rfl (by decide) (by decide) (by decide) ml_RX0_37 (by decide) (by decide +kernel) dX0_copyFrom_47 ?_
  refine r_w (σ2 := ((((σ).sI 11 ((σ.I 10))).sA 17 (va_cpy ((σ).A 12) ((σ).A 17) 0 0 4)).sA 18 (va_cpy ((σ).A 13) ((σ).A 18) 0 0 4)).sA 19 (va_cpy ((σ).A 14) ((σ).A 19) 0 0 4)) rfl ?_
  refine r_aload_n K 1 rfl rfl dX0_copyFrom_50 ?_
  refine get_64_4 K fl_RX0_25 dX0_copyFrom_51 ?_
  refine r_iconst K ((nI (0))) (by decide) dX0_copyFrom_54 ?_
  refine r_aload_n K 0 rfl rfl dX0_copyFrom_55 ?_
  refine get_65_4 K fl_RX0_25 dX0_copyFrom_56 ?_
  refine r_iconst K ((nI (0))) (by decide) dX0_copyFrom_59 ?_
  refine r_iconst K ((nI (4))) (by decide) dX0_copyFrom_60 ?_
  refine r_copy K 15 20 (n0 := 4) (n1 := 4) (n := 4) (by decide) rfl rfl (by decide) rfl rfl (by decide) (by decide) (by decide) ml_RX0_37 (by decide) (by decide +kernel) dX0_copyFrom_61 ?_
  refine r_w (σ2 := (((((σ).sI 11 ((σ.I 10))).sA 17 (va_cpy ((σ).A 12) ((σ).A 17) 0 0 4)).sA 18 (va_cpy ((σ).A 13) ((σ).A 18) 0 0 4)).sA 19 (va_cpy ((σ).A 14) ((σ).A 19) 0 0 4)).sA 20 (va_cpy ((σ).A 15) ((σ).A 20) 0 0 4)) rfl ?_
  refine r_aload_n K 1 rfl rfl dX0_copyFrom_64 ?_
  refine get_64_5 K fl_RX0_28 dX0_copyFrom_65 ?_
  refine r_iconst K ((nI (0))) (by decide) dX0_copyFrom_68 ?_
  refine r_aload_n K 0 rfl rfl dX0_copyFrom_69 ?_
  refine get_65_5 K fl_RX0_28 dX0_copyFrom_70 ?_
  refine r_iconst K ((nI (0))) (by decide) dX0_copyFrom_73 ?_
  refine r_iconst K ((nI (4))) (by decide) dX0_copyFrom_74 ?_
  refine r_copy K 16 21 (n0 := 4) (n1 := 4) (n := 4) (by decide) rfl rfl (by decide) rfl rfl (by decide) (by decide) (by decide) ml_RX0_37 (by decide) (by decide +kernel) dX0_copyFrom_75 ?_
  refine r_w (σ2 := ((((((σ).sI 11 ((σ.I 10))).sA 17 (va_cpy ((σ).A 12) ((σ).A 17) 0 0 4)).sA 18 (va_cpy ((σ).A 13) ((σ).A 18) 0 0 4)).sA 19 (va_cpy ((σ).A 14) ((σ).A 19) 0 0 4)).sA 20 (va_cpy ((σ).A 15) ((σ).A 20) 0 0 4)).sA 21 (va_cpy ((σ).A 16) ((σ).A 21) 0 0 4)) rfl ?_
  exact r_vret K hr (⟨rfl, rfl, rfl⟩) dX0_copyFrom_78

set_option maxHeartbeats 400000 in
set_option maxRecDepth 10000 in
theorem c_copy_66_64 {g : Gp} {lau : Launch} {ad : Nat → Nat} {σ : Sg}  : Con g lau yX0_copyFrom cX0_copyFrom 2 (Option.none : Option Jvm.ClassFile.FieldType) 1 80 [.ref (ad 66), .ref (ad 64)] ad σ (ex none ad (((((((σ).sI 12 ((σ.I 10))).sA 22 (va_cpy ((σ).A 12) ((σ).A 22) 0 0 4)).sA 23 (va_cpy ((σ).A 13) ((σ).A 23) 0 0 4)).sA 24 (va_cpy ((σ).A 14) ((σ).A 24) 0 0 4)).sA 25 (va_cpy ((σ).A 15) ((σ).A 25) 0 0 4)).sA 26 (va_cpy ((σ).A 16) ((σ).A 26) 0 0 4))) := by
  refine con_mk (by decide) (Nat.le_of_ble_eq_true rfl) (fun x hxl K hr => ?_)
  subst hxl
  refine r_lv (lv' := [(0, .ref (ad 66)), (1, .ref (ad 64))]) rfl ?_
  refine r_aload_n K 0 rfl rfl dX0_copyFrom_0 ?_
  refine r_aload_n K 1 rfl rfl dX0_copyFrom_1 ?_
  refine get_64_0 K fl_RX0_9 dX0_copyFrom_2 ?_
  refine put_66_0 K fl_RX0_9 dX0_copyFrom_5 ?_
  refine r_aload_n K 1 rfl rfl dX0_copyFrom_8 ?_
  refine get_64_1 K fl_RX0_15 dX0_copyFrom_9 ?_
  refine r_iconst K ((nI (0))) (by decide) dX0_copyFrom_12 ?_
  refine r_aload_n K 0 rfl rfl dX0_copyFrom_13 ?_
  refine get_66_1 K fl_RX0_15 dX0_copyFrom_14 ?_
  refine r_iconst K ((nI (0))) (by decide) dX0_copyFrom_17 ?_
  refine r_iconst K ((nI (4))) (by decide) dX0_copyFrom_18 ?_
  refine r_copy K 12 22 (n0 := 4) (n1 := 4) (n := 4) (by decide) rfl rfl (by decide) rfl rfl (by decide) (by decide) (by decide) ml_RX0_37 (by decide) (by decide +kernel) dX0_copyFrom_19 ?_
  refine r_w (σ2 := ((σ).sI 12 ((σ.I 10))).sA 22 (va_cpy ((σ).A 12) ((σ).A 22) 0 0 4)) rfl ?_
  refine r_aload_n K 1 rfl rfl dX0_copyFrom_22 ?_
  refine get_64_2 K fl_RX0_19 dX0_copyFrom_23 ?_
  refine r_iconst K ((nI (0))) (by decide) dX0_copyFrom_26 ?_
  refine r_aload_n K 0 rfl rfl dX0_copyFrom_27 ?_
  refine get_66_2 K fl_RX0_19 dX0_copyFrom_28 ?_
  refine r_iconst K ((nI (0))) (by decide) dX0_copyFrom_31 ?_
  refine r_iconst K ((nI (4))) (by decide) dX0_copyFrom_32 ?_
  refine r_copy K 13 23 (n0 := 4) (n1 := 4) (n := 4) (by decide) rfl rfl (by decide) rfl rfl (by decide) (by decide) (by decide) ml_RX0_37 (by decide) (by decide +kernel) dX0_copyFrom_33 ?_
  refine r_w (σ2 := (((σ).sI 12 ((σ.I 10))).sA 22 (va_cpy ((σ).A 12) ((σ).A 22) 0 0 4)).sA 23 (va_cpy ((σ).A 13) ((σ).A 23) 0 0 4)) rfl ?_
  refine r_aload_n K 1 rfl rfl dX0_copyFrom_36 ?_
  refine get_64_3 K fl_RX0_22 dX0_copyFrom_37 ?_
  refine r_iconst K ((nI (0))) (by decide) dX0_copyFrom_40 ?_
  refine r_aload_n K 0 rfl rfl dX0_copyFrom_41 ?_
  refine get_66_3 K fl_RX0_22 dX0_copyFrom_42 ?_
  refine r_iconst K ((nI (0))) (by decide) dX0_copyFrom_45 ?_
  refine r_iconst K ((nI (4))) (by decide) dX0_copyFrom_46 ?_
  refine r_copy K 14 24 (n0 := 4) (n1 := 4) (n := 4) (by decide) rfl rfl (by decide) rfl rfl (by decide) (by decide) (by decide) ml_RX0_37 (by decide) (by decide +kernel) dX0_copyFrom_47 ?_
  refine r_w (σ2 := ((((σ).sI 12 ((σ.I 10))).sA 22 (va_cpy ((σ).A 12) ((σ).A 22) 0 0 4)).sA 23 (va_cpy ((σ).A 13) ((σ).A 23) 0 0 4)).sA 24 (va_cpy ((σ).A 14) ((σ).A 24) 0 0 4)) rfl ?_
  refine r_aload_n K 1 rfl rfl dX0_copyFrom_50 ?_
  refine get_64_4 K fl_RX0_25 dX0_copyFrom_51 ?_
  refine r_iconst K ((nI (0))) (by decide) dX0_copyFrom_54 ?_
  refine r_aload_n K 0 rfl rfl dX0_copyFrom_55 ?_
  refine get_66_4 K fl_RX0_25 dX0_copyFrom_56 ?_
  refine r_iconst K ((nI (0))) (by decide) dX0_copyFrom_59 ?_
  refine r_iconst K ((nI (4))) (by decide) dX0_copyFrom_60 ?_
  refine r_copy K 15 25 (n0 := 4) (n1 := 4) (n := 4) (by decide) rfl rfl (by decide) rfl rfl (by decide) (by decide) (by decide) ml_RX0_37 (by decide) (by decide +kernel) dX0_copyFrom_61 ?_
  refine r_w (σ2 := (((((σ).sI 12 ((σ.I 10))).sA 22 (va_cpy ((σ).A 12) ((σ).A 22) 0 0 4)).sA 23 (va_cpy ((σ).A 13) ((σ).A 23) 0 0 4)).sA 24 (va_cpy ((σ).A 14) ((σ).A 24) 0 0 4)).sA 25 (va_cpy ((σ).A 15) ((σ).A 25) 0 0 4)) rfl ?_
  refine r_aload_n K 1 rfl rfl dX0_copyFrom_64 ?_
  refine get_64_5 K fl_RX0_28 dX0_copyFrom_65 ?_
  refine r_iconst K ((nI (0))) (by decide) dX0_copyFrom_68 ?_
  refine r_aload_n K 0 rfl rfl dX0_copyFrom_69 ?_
  refine get_66_5 K fl_RX0_28 dX0_copyFrom_70 ?_
  refine r_iconst K ((nI (0))) (by decide) dX0_copyFrom_73 ?_
  refine r_iconst K ((nI (4))) (by decide) dX0_copyFrom_74 ?_
  refine r_copy K 16 26 (n0 := 4) (n1 := 4) (n := 4) (by decide) rfl rfl (by decide) rfl rfl (by decide) (by decide) (by decide) ml_RX0_37 (by decide) (by decide +kernel) dX0_copyFrom_75 ?_
  refine r_w (σ2 := ((((((σ).sI 12 ((σ.I 10))).sA 22 (va_cpy ((σ).A 12) ((σ).A 22) 0 0 4)).sA 23 (va_cpy ((σ).A 13) ((σ).A 23) 0 0 4)).sA 24 (va_cpy ((σ).A 14) ((σ).A 24) 0 0 4)).sA 25 (va_cpy ((σ).A 15) ((σ).A 25) 0 0 4)).sA 26 (va_cpy ((σ).A 16) ((σ).A 26) 0 0 4)) rfl ?_
  exact r_vret K hr (⟨rfl, rfl, rfl⟩) dX0_copyFrom_78

set_option maxHeartbeats 400000 in
set_option maxRecDepth 10000 in
theorem c_copy_64_65 {g : Gp} {lau : Launch} {ad : Nat → Nat} {σ : Sg}  : Con g lau yX0_copyFrom cX0_copyFrom 2 (Option.none : Option Jvm.ClassFile.FieldType) 1 80 [.ref (ad 64), .ref (ad 65)] ad σ (ex none ad (((((((σ).sI 10 ((σ.I 11))).sA 12 (va_cpy ((σ).A 17) ((σ).A 12) 0 0 4)).sA 13 (va_cpy ((σ).A 18) ((σ).A 13) 0 0 4)).sA 14 (va_cpy ((σ).A 19) ((σ).A 14) 0 0 4)).sA 15 (va_cpy ((σ).A 20) ((σ).A 15) 0 0 4)).sA 16 (va_cpy ((σ).A 21) ((σ).A 16) 0 0 4))) := by
  refine con_mk (by decide) (Nat.le_of_ble_eq_true rfl) (fun x hxl K hr => ?_)
  subst hxl
  refine r_lv (lv' := [(0, .ref (ad 64)), (1, .ref (ad 65))]) rfl ?_
  refine r_aload_n K 0 rfl rfl dX0_copyFrom_0 ?_
  refine r_aload_n K 1 rfl rfl dX0_copyFrom_1 ?_
  refine get_65_0 K fl_RX0_9 dX0_copyFrom_2 ?_
  refine put_64_0 K fl_RX0_9 dX0_copyFrom_5 ?_
  refine r_aload_n K 1 rfl rfl dX0_copyFrom_8 ?_
  refine get_65_1 K fl_RX0_15 dX0_copyFrom_9 ?_
  refine r_iconst K ((nI (0))) (by decide) dX0_copyFrom_12 ?_
  refine r_aload_n K 0 rfl rfl dX0_copyFrom_13 ?_
  refine get_64_1 K fl_RX0_15 dX0_copyFrom_14 ?_
  refine r_iconst K ((nI (0))) (by decide) dX0_copyFrom_17 ?_
  refine r_iconst K ((nI (4))) (by decide) dX0_copyFrom_18 ?_
  refine r_copy K 17 12 (n0 := 4) (n1 := 4) (n := 4) (by decide) rfl rfl (by decide) rfl rfl (by decide) (by decide) (by decide) ml_RX0_37 (by decide) (by decide +kernel) dX0_copyFrom_19 ?_
  refine r_w (σ2 := ((σ).sI 10 ((σ.I 11))).sA 12 (va_cpy ((σ).A 17) ((σ).A 12) 0 0 4)) rfl ?_
  refine r_aload_n K 1 rfl rfl dX0_copyFrom_22 ?_
  refine get_65_2 K fl_RX0_19 dX0_copyFrom_23 ?_
  refine r_iconst K ((nI (0))) (by decide) dX0_copyFrom_26 ?_
  refine r_aload_n K 0 rfl rfl dX0_copyFrom_27 ?_
  refine get_64_2 K fl_RX0_19 dX0_copyFrom_28 ?_
  refine r_iconst K ((nI (0))) (by decide) dX0_copyFrom_31 ?_
  refine r_iconst K ((nI (4))) (by decide) dX0_copyFrom_32 ?_
  refine r_copy K 18 13 (n0 := 4) (n1 := 4) (n := 4) (by decide) rfl rfl (by decide) rfl rfl (by decide) (by decide) (by decide) ml_RX0_37 (by decide) (by decide +kernel) dX0_copyFrom_33 ?_
  refine r_w (σ2 := (((σ).sI 10 ((σ.I 11))).sA 12 (va_cpy ((σ).A 17) ((σ).A 12) 0 0 4)).sA 13 (va_cpy ((σ).A 18) ((σ).A 13) 0 0 4)) rfl ?_
  refine r_aload_n K 1 rfl rfl dX0_copyFrom_36 ?_
  refine get_65_3 K fl_RX0_22 dX0_copyFrom_37 ?_
  refine r_iconst K ((nI (0))) (by decide) dX0_copyFrom_40 ?_
  refine r_aload_n K 0 rfl rfl dX0_copyFrom_41 ?_
  refine get_64_3 K fl_RX0_22 dX0_copyFrom_42 ?_
  refine r_iconst K ((nI (0))) (by decide) dX0_copyFrom_45 ?_
  refine r_iconst K ((nI (4))) (by decide) dX0_copyFrom_46 ?_
  refine r_copy K 19 14 (n0 := 4) (n1 := 4) (n := 4) (by decide) rfl rfl (by decide) rfl rfl (by decide) (by decide) (by decide) ml_RX0_37 (by decide) (by decide +kernel) dX0_copyFrom_47 ?_
  refine r_w (σ2 := ((((σ).sI 10 ((σ.I 11))).sA 12 (va_cpy ((σ).A 17) ((σ).A 12) 0 0 4)).sA 13 (va_cpy ((σ).A 18) ((σ).A 13) 0 0 4)).sA 14 (va_cpy ((σ).A 19) ((σ).A 14) 0 0 4)) rfl ?_
  refine r_aload_n K 1 rfl rfl dX0_copyFrom_50 ?_
  refine get_65_4 K fl_RX0_25 dX0_copyFrom_51 ?_
  refine r_iconst K ((nI (0))) (by decide) dX0_copyFrom_54 ?_
  refine r_aload_n K 0 rfl rfl dX0_copyFrom_55 ?_
  refine get_64_4 K fl_RX0_25 dX0_copyFrom_56 ?_
  refine r_iconst K ((nI (0))) (by decide) dX0_copyFrom_59 ?_
  refine r_iconst K ((nI (4))) (by decide) dX0_copyFrom_60 ?_
  refine r_copy K 20 15 (n0 := 4) (n1 := 4) (n := 4) (by decide) rfl rfl (by decide) rfl rfl (by decide) (by decide) (by decide) ml_RX0_37 (by decide) (by decide +kernel) dX0_copyFrom_61 ?_
  refine r_w (σ2 := (((((σ).sI 10 ((σ.I 11))).sA 12 (va_cpy ((σ).A 17) ((σ).A 12) 0 0 4)).sA 13 (va_cpy ((σ).A 18) ((σ).A 13) 0 0 4)).sA 14 (va_cpy ((σ).A 19) ((σ).A 14) 0 0 4)).sA 15 (va_cpy ((σ).A 20) ((σ).A 15) 0 0 4)) rfl ?_
  refine r_aload_n K 1 rfl rfl dX0_copyFrom_64 ?_
  refine get_65_5 K fl_RX0_28 dX0_copyFrom_65 ?_
  refine r_iconst K ((nI (0))) (by decide) dX0_copyFrom_68 ?_
  refine r_aload_n K 0 rfl rfl dX0_copyFrom_69 ?_
  refine get_64_5 K fl_RX0_28 dX0_copyFrom_70 ?_
  refine r_iconst K ((nI (0))) (by decide) dX0_copyFrom_73 ?_
  refine r_iconst K ((nI (4))) (by decide) dX0_copyFrom_74 ?_
  refine r_copy K 21 16 (n0 := 4) (n1 := 4) (n := 4) (by decide) rfl rfl (by decide) rfl rfl (by decide) (by decide) (by decide) ml_RX0_37 (by decide) (by decide +kernel) dX0_copyFrom_75 ?_
  refine r_w (σ2 := ((((((σ).sI 10 ((σ.I 11))).sA 12 (va_cpy ((σ).A 17) ((σ).A 12) 0 0 4)).sA 13 (va_cpy ((σ).A 18) ((σ).A 13) 0 0 4)).sA 14 (va_cpy ((σ).A 19) ((σ).A 14) 0 0 4)).sA 15 (va_cpy ((σ).A 20) ((σ).A 15) 0 0 4)).sA 16 (va_cpy ((σ).A 21) ((σ).A 16) 0 0 4)) rfl ?_
  exact r_vret K hr (⟨rfl, rfl, rfl⟩) dX0_copyFrom_78

set_option maxHeartbeats 400000 in
set_option maxRecDepth 10000 in
theorem c_copy_64_66 {g : Gp} {lau : Launch} {ad : Nat → Nat} {σ : Sg}  : Con g lau yX0_copyFrom cX0_copyFrom 2 (Option.none : Option Jvm.ClassFile.FieldType) 1 80 [.ref (ad 64), .ref (ad 66)] ad σ (ex none ad (((((((σ).sI 10 ((σ.I 12))).sA 12 (va_cpy ((σ).A 22) ((σ).A 12) 0 0 4)).sA 13 (va_cpy ((σ).A 23) ((σ).A 13) 0 0 4)).sA 14 (va_cpy ((σ).A 24) ((σ).A 14) 0 0 4)).sA 15 (va_cpy ((σ).A 25) ((σ).A 15) 0 0 4)).sA 16 (va_cpy ((σ).A 26) ((σ).A 16) 0 0 4))) := by
  refine con_mk (by decide) (Nat.le_of_ble_eq_true rfl) (fun x hxl K hr => ?_)
  subst hxl
  refine r_lv (lv' := [(0, .ref (ad 64)), (1, .ref (ad 66))]) rfl ?_
  refine r_aload_n K 0 rfl rfl dX0_copyFrom_0 ?_
  refine r_aload_n K 1 rfl rfl dX0_copyFrom_1 ?_
  refine get_66_0 K fl_RX0_9 dX0_copyFrom_2 ?_
  refine put_64_0 K fl_RX0_9 dX0_copyFrom_5 ?_
  refine r_aload_n K 1 rfl rfl dX0_copyFrom_8 ?_
  refine get_66_1 K fl_RX0_15 dX0_copyFrom_9 ?_
  refine r_iconst K ((nI (0))) (by decide) dX0_copyFrom_12 ?_
  refine r_aload_n K 0 rfl rfl dX0_copyFrom_13 ?_
  refine get_64_1 K fl_RX0_15 dX0_copyFrom_14 ?_
  refine r_iconst K ((nI (0))) (by decide) dX0_copyFrom_17 ?_
  refine r_iconst K ((nI (4))) (by decide) dX0_copyFrom_18 ?_
  refine r_copy K 22 12 (n0 := 4) (n1 := 4) (n := 4) (by decide) rfl rfl (by decide) rfl rfl (by decide) (by decide) (by decide) ml_RX0_37 (by decide) (by decide +kernel) dX0_copyFrom_19 ?_
  refine r_w (σ2 := ((σ).sI 10 ((σ.I 12))).sA 12 (va_cpy ((σ).A 22) ((σ).A 12) 0 0 4)) rfl ?_
  refine r_aload_n K 1 rfl rfl dX0_copyFrom_22 ?_
  refine get_66_2 K fl_RX0_19 dX0_copyFrom_23 ?_
  refine r_iconst K ((nI (0))) (by decide) dX0_copyFrom_26 ?_
  refine r_aload_n K 0 rfl rfl dX0_copyFrom_27 ?_
  refine get_64_2 K fl_RX0_19 dX0_copyFrom_28 ?_
  refine r_iconst K ((nI (0))) (by decide) dX0_copyFrom_31 ?_
  refine r_iconst K ((nI (4))) (by decide) dX0_copyFrom_32 ?_
  refine r_copy K 23 13 (n0 := 4) (n1 := 4) (n := 4) (by decide) rfl rfl (by decide) rfl rfl (by decide) (by decide) (by decide) ml_RX0_37 (by decide) (by decide +kernel) dX0_copyFrom_33 ?_
  refine r_w (σ2 := (((σ).sI 10 ((σ.I 12))).sA 12 (va_cpy ((σ).A 22) ((σ).A 12) 0 0 4)).sA 13 (va_cpy ((σ).A 23) ((σ).A 13) 0 0 4)) rfl ?_
  refine r_aload_n K 1 rfl rfl dX0_copyFrom_36 ?_
  refine get_66_3 K fl_RX0_22 dX0_copyFrom_37 ?_
  refine r_iconst K ((nI (0))) (by decide) dX0_copyFrom_40 ?_
  refine r_aload_n K 0 rfl rfl dX0_copyFrom_41 ?_
  refine get_64_3 K fl_RX0_22 dX0_copyFrom_42 ?_
  refine r_iconst K ((nI (0))) (by decide) dX0_copyFrom_45 ?_
  refine r_iconst K ((nI (4))) (by decide) dX0_copyFrom_46 ?_
  refine r_copy K 24 14 (n0 := 4) (n1 := 4) (n := 4) (by decide) rfl rfl (by decide) rfl rfl (by decide) (by decide) (by decide) ml_RX0_37 (by decide) (by decide +kernel) dX0_copyFrom_47 ?_
  refine r_w (σ2 := ((((σ).sI 10 ((σ.I 12))).sA 12 (va_cpy ((σ).A 22) ((σ).A 12) 0 0 4)).sA 13 (va_cpy ((σ).A 23) ((σ).A 13) 0 0 4)).sA 14 (va_cpy ((σ).A 24) ((σ).A 14) 0 0 4)) rfl ?_
  refine r_aload_n K 1 rfl rfl dX0_copyFrom_50 ?_
  refine get_66_4 K fl_RX0_25 dX0_copyFrom_51 ?_
  refine r_iconst K ((nI (0))) (by decide) dX0_copyFrom_54 ?_
  refine r_aload_n K 0 rfl rfl dX0_copyFrom_55 ?_
  refine get_64_4 K fl_RX0_25 dX0_copyFrom_56 ?_
  refine r_iconst K ((nI (0))) (by decide) dX0_copyFrom_59 ?_
  refine r_iconst K ((nI (4))) (by decide) dX0_copyFrom_60 ?_
  refine r_copy K 25 15 (n0 := 4) (n1 := 4) (n := 4) (by decide) rfl rfl (by decide) rfl rfl (by decide) (by decide) (by decide) ml_RX0_37 (by decide) (by decide +kernel) dX0_copyFrom_61 ?_
  refine r_w (σ2 := (((((σ).sI 10 ((σ.I 12))).sA 12 (va_cpy ((σ).A 22) ((σ).A 12) 0 0 4)).sA 13 (va_cpy ((σ).A 23) ((σ).A 13) 0 0 4)).sA 14 (va_cpy ((σ).A 24) ((σ).A 14) 0 0 4)).sA 15 (va_cpy ((σ).A 25) ((σ).A 15) 0 0 4)) rfl ?_
  refine r_aload_n K 1 rfl rfl dX0_copyFrom_64 ?_
  refine get_66_5 K fl_RX0_28 dX0_copyFrom_65 ?_
  refine r_iconst K ((nI (0))) (by decide) dX0_copyFrom_68 ?_
  refine r_aload_n K 0 rfl rfl dX0_copyFrom_69 ?_
  refine get_64_5 K fl_RX0_28 dX0_copyFrom_70 ?_
  refine r_iconst K ((nI (0))) (by decide) dX0_copyFrom_73 ?_
  refine r_iconst K ((nI (4))) (by decide) dX0_copyFrom_74 ?_
  refine r_copy K 26 16 (n0 := 4) (n1 := 4) (n := 4) (by decide) rfl rfl (by decide) rfl rfl (by decide) (by decide) (by decide) ml_RX0_37 (by decide) (by decide +kernel) dX0_copyFrom_75 ?_
  refine r_w (σ2 := ((((((σ).sI 10 ((σ.I 12))).sA 12 (va_cpy ((σ).A 22) ((σ).A 12) 0 0 4)).sA 13 (va_cpy ((σ).A 23) ((σ).A 13) 0 0 4)).sA 14 (va_cpy ((σ).A 24) ((σ).A 14) 0 0 4)).sA 15 (va_cpy ((σ).A 25) ((σ).A 15) 0 0 4)).sA 16 (va_cpy ((σ).A 26) ((σ).A 16) 0 0 4)) rfl ?_
  exact r_vret K hr (⟨rfl, rfl, rfl⟩) dX0_copyFrom_78

set_option maxHeartbeats 400000 in
set_option maxRecDepth 10000 in
theorem c_fbegin {g : Gp} {lau : Launch} {ad : Nat → Nat} {σ : Sg} (v : Int32) : Con g lau yX0_begin cX0_begin 2 (Option.none : Option Jvm.ClassFile.FieldType) 1 23 [.ref (ad 64), .int (v)] ad σ (ex none ad (((((((σ).sI 10 ((nI (0)))).sA 12 (fillA ((σ).A 12) ((v)) 4)).sA 13 (fillA ((σ).A 13) ((nI (0))) 4)).sA 14 (fillA ((σ).A 14) ((nI (0))) 4)).sA 15 (fillA ((σ).A 15) ((nI (0))) 4)).sA 16 (fillA ((σ).A 16) ((nI (0))) 4))) := by
  refine con_mk (by decide) (Nat.le_of_ble_eq_true rfl) (fun x hxl K hr => ?_)
  subst hxl
  refine r_lv (lv' := [(0, .ref (ad 64)), (1, .int (v))]) rfl ?_
  refine r_aload_n K 0 rfl rfl dX0_begin_0 ?_
  refine r_iconst K ((nI (0))) (by decide) dX0_begin_1 ?_
  refine put_64_0 K fl_RX0_9 dX0_begin_2 ?_
  refine r_aload_n K 0 rfl rfl dX0_begin_5 ?_
  refine get_64_1 K fl_RX0_15 dX0_begin_6 ?_
  refine r_iload_n K 1 rfl rfl dX0_begin_9 ?_
  refine r_callS K (As := [.ref (ad 12), .int (v)]) (rest := []) ms_J7_fill_53178 ml_RX0_31 (c_fillI 12 (n := 4) (by decide) rfl rfl (by decide) ((v))) rfl rfl (Nat.le_of_ble_eq_true rfl) ⟨by decide, by decide⟩ dX0_begin_10 (fun r_ ad_ s_ h_ => ?_)
  obtain ⟨rfl, rfl, rfl⟩ := h_
  refine r_st (st' := []) rfl ?_
  refine r_w (σ2 := ((σ).sI 10 ((nI (0)))).sA 12 (fillA ((σ).A 12) ((v)) 4)) rfl ?_
  refine r_aload_n K 0 rfl rfl dX0_begin_13 ?_
  refine get_64_2 K fl_RX0_19 dX0_begin_14 ?_
  refine r_iconst K ((nI (0))) (by decide) dX0_begin_17 ?_
  refine r_callS K (As := [.ref (ad 13), .int (nI (0))]) (rest := []) ms_J7_fill_53178 ml_RX0_31 (c_fillI 13 (n := 4) (by decide) rfl rfl (by decide) ((nI (0)))) rfl rfl (Nat.le_of_ble_eq_true rfl) ⟨by decide, by decide⟩ dX0_begin_18 (fun r_ ad_ s_ h_ => ?_)
  obtain ⟨rfl, rfl, rfl⟩ := h_
  refine r_st (st' := []) rfl ?_
  refine r_w (σ2 := (((σ).sI 10 ((nI (0)))).sA 12 (fillA ((σ).A 12) ((v)) 4)).sA 13 (fillA ((σ).A 13) ((nI (0))) 4)) rfl ?_
  refine r_aload_n K 0 rfl rfl dX0_begin_21 ?_
  refine get_64_3 K fl_RX0_22 dX0_begin_22 ?_
  refine r_iconst K ((nI (0))) (by decide) dX0_begin_25 ?_
  refine r_callS K (As := [.ref (ad 14), .int (nI (0))]) (rest := []) ms_J7_fill_53178 ml_RX0_31 (c_fillI 14 (n := 4) (by decide) rfl rfl (by decide) ((nI (0)))) rfl rfl (Nat.le_of_ble_eq_true rfl) ⟨by decide, by decide⟩ dX0_begin_26 (fun r_ ad_ s_ h_ => ?_)
  obtain ⟨rfl, rfl, rfl⟩ := h_
  refine r_st (st' := []) rfl ?_
  refine r_w (σ2 := ((((σ).sI 10 ((nI (0)))).sA 12 (fillA ((σ).A 12) ((v)) 4)).sA 13 (fillA ((σ).A 13) ((nI (0))) 4)).sA 14 (fillA ((σ).A 14) ((nI (0))) 4)) rfl ?_
  refine r_aload_n K 0 rfl rfl dX0_begin_29 ?_
  refine get_64_4 K fl_RX0_25 dX0_begin_30 ?_
  refine r_iconst K ((nI (0))) (by decide) dX0_begin_33 ?_
  refine r_callS K (As := [.ref (ad 15), .int (nI (0))]) (rest := []) ms_J7_fill_53178 ml_RX0_31 (c_fillI 15 (n := 4) (by decide) rfl rfl (by decide) ((nI (0)))) rfl rfl (Nat.le_of_ble_eq_true rfl) ⟨by decide, by decide⟩ dX0_begin_34 (fun r_ ad_ s_ h_ => ?_)
  obtain ⟨rfl, rfl, rfl⟩ := h_
  refine r_st (st' := []) rfl ?_
  refine r_w (σ2 := (((((σ).sI 10 ((nI (0)))).sA 12 (fillA ((σ).A 12) ((v)) 4)).sA 13 (fillA ((σ).A 13) ((nI (0))) 4)).sA 14 (fillA ((σ).A 14) ((nI (0))) 4)).sA 15 (fillA ((σ).A 15) ((nI (0))) 4)) rfl ?_
  refine r_aload_n K 0 rfl rfl dX0_begin_37 ?_
  refine get_64_5 K fl_RX0_28 dX0_begin_38 ?_
  refine r_iconst K ((nI (0))) (by decide) dX0_begin_41 ?_
  refine r_callS K (As := [.ref (ad 16), .int (nI (0))]) (rest := []) ms_J7_fill_53178 ml_RX0_31 (c_fillI 16 (n := 4) (by decide) rfl rfl (by decide) ((nI (0)))) rfl rfl (Nat.le_of_ble_eq_true rfl) ⟨by decide, by decide⟩ dX0_begin_42 (fun r_ ad_ s_ h_ => ?_)
  obtain ⟨rfl, rfl, rfl⟩ := h_
  refine r_st (st' := []) rfl ?_
  refine r_w (σ2 := ((((((σ).sI 10 ((nI (0)))).sA 12 (fillA ((σ).A 12) ((v)) 4)).sA 13 (fillA ((σ).A 13) ((nI (0))) 4)).sA 14 (fillA ((σ).A 14) ((nI (0))) 4)).sA 15 (fillA ((σ).A 15) ((nI (0))) 4)).sA 16 (fillA ((σ).A 16) ((nI (0))) 4)) rfl ?_
  exact r_vret K hr (⟨rfl, rfl, rfl⟩) dX0_begin_45
