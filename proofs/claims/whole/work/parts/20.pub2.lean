def wrX (X : Tv) (v : Int64) (n : Int32) : Tv := if inS n (nI 1) (nI 8) = true ∧ X 0 0 + n.toInt.toNat ≤ 200 then appS X v n.toInt.toNat else X
def eraS (X : Tv) : Tv := fun k i => if k = 0 then 0 else X k i
def RepK (q : Nat) (kf : Nat → Nat) (σ : Sg) : Prop := ∀ i, i < 2 → σ.A q i = nI (kf i)
def keepR (F : Tv) (k : Int32) : Int32 := if inS k (nI 0) (nI 1) = true then nI (F 5 0) else -2
def keepK (F K0 : Tv) (i : Nat) (k : Int32) : Tv := if k = nI i then F else K0
def keepB (kf : Nat → Nat) (k : Int32) : Nat → Nat := fun i => if k = nI i then 1 else kf i
def backR (K0 K1 : Tv) (kf : Nat → Nat) (k : Int32) : Int32 := if k = nI 0 then (if kf 0 = 1 then nI (K0 5 0) else -4) else if k = nI 1 then (if kf 1 = 1 then nI (K1 5 0) else -4) else -2
def backF (F K0 K1 : Tv) (kf : Nat → Nat) (k : Int32) : Tv := if k = nI 0 ∧ kf 0 = 1 then K0 else if k = nI 1 ∧ kf 1 = 1 then K1 else F
theorem nar1 : vp_nar .boolean (nI 1) = nI 1 := by decide
theorem nar0 : vp_nar .boolean (nI 0) = nI 0 := by decide
theorem RepK_set {q : Nat} {kf : Nat → Nat} {σ : Sg} (h : RepK q kf σ) {k : Nat} (hk : k < 2) : RepK q (keepB kf (nI k)) (σ.sA q (upd (σ.A q) k (nI 1))) := by
  intro i hi
  rw [sA_A, if_pos rfl]
  unfold upd keepB
  by_cases e : i = k
  · subst e
    rw [if_pos rfl, if_pos rfl]
  · rw [if_neg e, if_neg (fun z => e ((nI_eq (by omega) (by omega)).mp z).symm)]
    exact h i hi
theorem RepK_same {q : Nat} {kf : Nat → Nat} {σ s2 : Sg} {As Is Js : List Nat} {tk : Bool} (h : RepK q kf σ) (hs : same As Is Js tk σ s2) (hA : q ∉ As) : RepK q kf s2 := fun i hi => by rw [hs.1 _ hA]; exact h i hi
theorem k01 {k : Int32} (h1 : ¬ k < 0) (h2 : k < nI 2) : k = nI 0 ∨ k = nI 1 := by
  obtain ⟨j, hj, rfl⟩ := ix_of (n := 2) h1 (Int32.not_le.mpr h2) (by decide)
  rcases (show j = 0 ∨ j = 1 by omega) with rfl | rfl
  · exact Or.inl rfl
  · exact Or.inr rfl
theorem k01n {k : Int32} (h : k < 0 ∨ ¬ k < nI 2) : k ≠ nI 0 ∧ k ≠ nI 1 := by
  constructor <;> rintro rfl <;> revert h <;> decide
theorem k01i {k : Int32} (h : k ≠ nI 0 ∧ k ≠ nI 1) : inS k (nI 0) (nI 1) = false := by
  cases e : inS k (nI 0) (nI 1)
  · rfl
  · obtain ⟨n, h1, h2, rfl⟩ := inS_t (by decide) (by decide) e
    rcases (show n = 0 ∨ n = 1 by omega) with rfl | rfl
    · exact absurd rfl h.1
    · exact absurd rfl h.2
theorem RepF_sA {q h : Nat} {F : Tv} {σ : Sg} {k : Nat} {f : Nat → Int32} (hF : RepF q h F σ) (hk : k < q ∨ q + 5 ≤ k) : RepF q h F (σ.sA k f) :=
  ⟨fun j hj b hb => by rw [sA_A, if_neg (by omega)]; exact hF.1 j hj b hb, hF.2⟩
theorem RepF_same {q h : Nat} {F : Tv} {σ s2 : Sg} {As Is Js : List Nat} {tk : Bool} (hF : RepF q h F σ) (hs : same As Is Js tk σ s2) (hA : ∀ j, j < 5 → q + j ∉ As) (hI : h ∉ Is) : RepF q h F s2 :=
  ⟨fun j hj b hb => by rw [hs.1 _ (hA j hj)]; exact hF.1 j hj b hb, by rw [hs.2.1 _ hI]; exact hF.2⟩
theorem cpy_at {f g : Nat → Int32} {b : Nat} (hb : b < 4) : va_cpy f g 0 0 4 b = f b := by
  unfold va_cpy
  rw [if_pos ⟨Nat.zero_le _, by omega⟩, Nat.zero_add, Nat.sub_zero]
set_option maxHeartbeats 400000 in
set_option maxRecDepth 10000 in
theorem c_append {g : Gp} {lau : Launch} {ad : Nat → Nat} {σ : Sg} {X : Tv} (hXo : XOk X) (hX : RepX 2 10 X σ) (v : Int64) {n : Nat} (h1n : 1 ≤ n) (hn8 : n ≤ 8) : Con g lau yX5_append cX5_append 5 (Option.some .boolean) 0 0 [.ref (ad 63), .long (v), .int (nI (n))] ad σ (fun r a2 s2 => some (.int (bI (decide (X 0 0 + n ≤ 200)))) = r ∧ ad = a2 ∧ same [10] [2] [] false σ s2 ∧ RepX 2 10 (if X 0 0 + n ≤ 200 then appS X v n else X) s2) := by
  refine con_mk (by decide) (Nat.le_of_ble_eq_true rfl) (fun x hxl K hr => ?_)
  subst hxl
  refine r_lv (lv' := [(0, .ref (ad 63)), (1, .long (v)), (3, .int (nI (n)))]) rfl ?_
  have hx200 := hXo.1
  refine r_aload_n K 0 rfl rfl dX5_append_0 ?_
  refine get_63_0 K fl_RX5_9 dX5_append_1 ?_
  refine r_topi (b := (nI (X 0 0))) (by first | exact hX.1 | (rw [hI.1.2.1 2 (by simp)]; exact hX.1)) ?_
  refine r_iload_n K 3 rfl rfl dX5_append_4 ?_
  refine r_iadd K dX5_append_5 ?_
  refine r_topi (nI_add _ _) ?_
  refine r_sipush K ((nI (200))) (by decide) dX5_append_6 ?_
  refine n_icmp_le K 14 (by omega) (by omega) dX5_append_9 (by decide) (fun h9 => ?_) (fun h9 => ?_)
  · refine r_iconst K ((nI (0))) (by decide) dX5_append_14 ?_
    refine r_istore K (lv' := [(4, .int (nI (0))), (0, .ref (ad 63)), (1, .long (v)), (3, .int (nI (n)))]) (by decide) rfl dX5_append_15 ?_
    refine r_pick [1, 2, 3, 0] (lv' := [(0, .ref (ad 63)), (1, .long (v)), (3, .int (nI (n))), (4, .int (nI (0)))]) rfl ?_
    have lpA : ∀ (mm_ : Nat) (j : Nat) (s1 : Sg), mm_ = n - j → (j ≤ n) → (appI 10 X v j σ s1) → GJ g x 5 17 [(0, .ref (ad 63)), (1, .long (v)), (3, .int (nI (n))), (4, .int (nI (j)))] [] ad (s1) := by
      intro mm_
      induction mm_ using Nat.strongRecOn with
      | _ mm_ ihA =>
        intro j s1 hmA hj hI
        refine r_iload K rfl dX5_append_17 ?_
        refine r_iload_n K 3 rfl rfl dX5_append_19 ?_
        refine n_icmp_ge K 53 (by omega) (by omega) dX5_append_20 (by decide) (fun h20 => ?_) (fun h20 => ?_)
        · refine r_aload_n K 0 rfl rfl dX5_append_53 ?_
          refine r_dup K rfl dX5_append_54 ?_
          refine get_63_0 K fl_RX5_9 dX5_append_55 ?_
          refine r_topi (b := (nI (X 0 0))) (by first | exact hX.1 | (rw [hI.1.2.1 2 (by simp)]; exact hX.1)) ?_
          refine r_iload_n K 3 rfl rfl dX5_append_58 ?_
          refine r_iadd K dX5_append_59 ?_
          refine r_topi (nI_add _ _) ?_
          refine put_63_0 K fl_RX5_9 dX5_append_60 ?_
          refine r_iconst K ((nI (1))) (by decide) dX5_append_63 ?_
          exact r_zret K (b := true) hr (⟨by rw [decide_eq_true (by omega)], rfl, same_sI (same_w hI.1 (by simp) (by simp) (by simp) id) (by simp) _, by rw [if_pos (by omega)]; exact ⟨rfl, fun i hi => by have := hI.2 i hi; rw [show j = n by omega] at this; exact this⟩⟩) dX5_append_64
        · refine r_aload_n K 0 rfl rfl dX5_append_23 ?_
          refine get_63_2 K fl_RX5_18 dX5_append_24 ?_
          refine r_aload_n K 0 rfl rfl dX5_append_27 ?_
          refine get_63_0 K fl_RX5_9 dX5_append_28 ?_
          refine r_topi (b := (nI (X 0 0))) (by first | exact hX.1 | (rw [hI.1.2.1 2 (by simp)]; exact hX.1)) ?_
          refine r_iload K rfl dX5_append_31 ?_
          refine r_iadd K dX5_append_33 ?_
          refine r_topi (nI_add _ _) ?_
          refine r_lload_n K 1 rfl rfl dX5_append_34 ?_
          refine r_bipush K ((nI (8))) (by decide) dX5_append_35 ?_
          refine r_iload K rfl dX5_append_37 ?_
          refine r_imul K dX5_append_39 ?_
          refine r_topi (pk_mul _ _) ?_
          refine r_lshr K dX5_append_40 ?_
          refine r_ldc2 K (v := (lN (255))) kl_RX5_43 dX5_append_41 ?_
          refine r_land K dX5_append_44 ?_
          refine r_l2i K dX5_append_45 ?_
          refine r_topi (b := (nI (byS v j))) (byS_eq v j) ?_
          refine r_iast K 10 (n := 200) (by decide) rfl rfl (by decide) (by omega) dX5_append_46 ?_
          refine r_iinc K ((nI (j + 1))) rfl (nI_1 _) (lv' := [(4, .int (nI (j + 1))), (0, .ref (ad 63)), (1, .long (v)), (3, .int (nI (n)))]) (by decide) rfl dX5_append_47 ?_
          refine r_goto K 17 dX5_append_50 (by decide) ?_
          refine r_pick [1, 2, 3, 0] (lv' := [(0, .ref (ad 63)), (1, .long (v)), (3, .int (nI (n))), (4, .int (nI (j + 1)))]) rfl ?_
          exact ihA _ (by omega) (j + 1) ((s1).sA 10 (upd ((s1).A 10) ((X 0 0) + j) ((nI (byS v j))))) rfl (by omega) (appI_s hI)
    exact lpA _ (0) (σ) rfl (Nat.zero_le _) (appI_0 hX)
  · refine r_iconst K ((nI (0))) (by decide) dX5_append_12 ?_
    exact r_zret K (b := false) hr (⟨by rw [decide_eq_false (by omega)], rfl, same_rf _ _ _ _ _, by rw [if_neg (by omega)]; exact hX⟩) dX5_append_13

set_option maxHeartbeats 400000 in
set_option maxRecDepth 10000 in
theorem c_write {g : Gp} {lau : Launch} {ad : Nat → Nat} {σ : Sg} {X : Tv} (hXo : XOk X) (hX : RepX 2 10 X σ) (v : Int64) (n : Int32) : Con g lau yX6_write cX6_write 4 (Option.some .int) 1 24 [.ref (ad 61), .long (v), .int (n)] ad σ (fun r a2 s2 => some (.int (wrS X n)) = r ∧ ad = a2 ∧ same [10] [2] [] false σ s2 ∧ RepX 2 10 (wrX X v n) s2) := by
  refine con_mk (by decide) (Nat.le_of_ble_eq_true rfl) (fun x hxl K hr => ?_)
  subst hxl
  refine r_lv (lv' := [(0, .ref (ad 61)), (1, .long (v)), (3, .int (n))]) rfl ?_
  refine r_iload_n K 3 rfl rfl dX6_write_0 ?_
  refine r_iconst K ((nI (1))) (by decide) dX6_write_1 ?_
  refine r_icmp_lt K 11 dX6_write_2 (by decide) (fun h2 => ?_) (fun h2 => ?_)
  · refine r_bipush K ((-3)) (by decide) dX6_write_11 ?_
    exact r_iret K hr (⟨by rw [wrS, if_neg (by first | (rw [inS_lo h2 (by decide)]; decide) | (rw [inS_hi (Int32.not_le.mp h8) (by decide)]; decide))], rfl, same_rf _ _ _ _ _, by rw [wrX, if_neg (fun z => by first | (rw [inS_lo h2 (by decide)] at z; exact absurd z.1 (by decide)) | (rw [inS_hi (Int32.not_le.mp h8) (by decide)] at z; exact absurd z.1 (by decide)))]; exact hX⟩) dX6_write_13
  · refine r_iload_n K 3 rfl rfl dX6_write_5 ?_
    refine r_bipush K ((nI (8))) (by decide) dX6_write_6 ?_
    refine r_icmp_le K 14 dX6_write_8 (by decide) (fun h8 => ?_) (fun h8 => ?_)
    · obtain ⟨m, hm1, hm8, rfl⟩ := inS_t (by decide) (by decide) (inS_mid (a := 1) (b := 8) h2 (Int32.not_lt.mpr h8))
      have hin : inS (nI m) (nI 1) (nI 8) = true := by rw [inS_nI (by omega) (by decide) (by decide)]; exact decide_eq_true ⟨hm1, hm8⟩
      have e_m : (nI m).toInt.toNat = m := nI_nat (by omega)
      refine r_aload_n K 0 rfl rfl dX6_write_14 ?_
      refine get_61_1 K fl_RX6_19 dX6_write_15 ?_
      refine r_lload_n K 1 rfl rfl dX6_write_18 ?_
      refine r_iload_n K 3 rfl rfl dX6_write_19 ?_
      refine r_callV K 63 (As := [.long (v), .int (nI (m))]) (rest := []) mv_X5_append ml_RX6_54 (c_append hXo hX v (n := m) hm1 hm8) (by decide) rfl rfl rfl rfl (Nat.le_of_ble_eq_true rfl) ⟨by decide, by decide⟩ dX6_write_20 (fun r_ ad_ s_ h_ => ?_)
      obtain ⟨rfl, rfl, hs2, hX2⟩ := h_
      refine r_st (st' := [.int (bI (decide (X 0 0 + m ≤ 200)))]) rfl ?_
      refine b_if_eq K 36 dX6_write_23 (by decide) (fun h23 => ?_) (fun h23 => ?_)
      · have hle : ¬ X 0 0 + m ≤ 200 := of_decide_eq_false h23
        rw [if_neg hle] at hX2
        refine r_bipush K ((-5)) (by decide) dX6_write_36 ?_
        exact r_iret K hr (⟨by rw [wrS, if_pos hin, e_m, if_neg hle], rfl, hs2, by rw [wrX, e_m, if_neg (fun z => hle z.2)]; exact hX2⟩) dX6_write_38
      · have hle : X 0 0 + m ≤ 200 := of_decide_eq_true h23
        rw [if_pos hle] at hX2
        refine r_aload_n K 0 rfl rfl dX6_write_26 ?_
        refine get_61_1 K fl_RX6_19 dX6_write_27 ?_
        refine get_63_0 K fl_RX6_58 dX6_write_30 ?_
        refine r_topi (b := (nI (X 0 0 + m))) (hX2.1) ?_
        refine r_goto K 38 dX6_write_33 (by decide) ?_
        exact r_iret K hr (⟨by rw [wrS, if_pos hin, e_m, if_pos hle], rfl, hs2, by rw [wrX, e_m, if_pos ⟨hin, hle⟩]; exact hX2⟩) dX6_write_38
    · refine r_bipush K ((-3)) (by decide) dX6_write_11 ?_
      exact r_iret K hr (⟨by rw [wrS, if_neg (by first | (rw [inS_lo h2 (by decide)]; decide) | (rw [inS_hi (Int32.not_le.mp h8) (by decide)]; decide))], rfl, same_rf _ _ _ _ _, by rw [wrX, if_neg (fun z => by first | (rw [inS_lo h2 (by decide)] at z; exact absurd z.1 (by decide)) | (rw [inS_hi (Int32.not_le.mp h8) (by decide)] at z; exact absurd z.1 (by decide)))]; exact hX⟩) dX6_write_13

set_option maxHeartbeats 400000 in
set_option maxRecDepth 10000 in
theorem c_erase {g : Gp} {lau : Launch} {ad : Nat → Nat} {σ : Sg} {X : Tv} (hX : RepX 2 10 X σ) : Con g lau yX6_erase cX6_erase 2 (Option.some .int) 0 0 [.ref (ad 61)] ad σ (fun r a2 s2 => some (.int (nI (X 0 0))) = r ∧ ad = a2 ∧ same [] [2] [] false σ s2 ∧ RepX 2 10 (eraS X) s2) := by
  refine con_mk (by decide) (Nat.le_of_ble_eq_true rfl) (fun x hxl K hr => ?_)
  subst hxl
  refine r_lv (lv' := [(0, .ref (ad 61))]) rfl ?_
  refine r_aload_n K 0 rfl rfl dX6_erase_0 ?_
  refine get_61_1 K fl_RX6_19 dX6_erase_1 ?_
  refine get_63_0 K fl_RX6_58 dX6_erase_4 ?_
  refine r_topi (b := (nI (X 0 0))) (hX.1) ?_
  refine r_istore_n K (lv' := [(1, .int (nI (X 0 0))), (0, .ref (ad 61))]) 1 rfl (by decide) rfl dX6_erase_7 ?_
  refine r_aload_n K 0 rfl rfl dX6_erase_8 ?_
  refine get_61_1 K fl_RX6_19 dX6_erase_9 ?_
  refine r_iconst K ((nI (0))) (by decide) dX6_erase_12 ?_
  refine put_63_0 K fl_RX6_58 dX6_erase_13 ?_
  refine r_iload_n K 1 rfl rfl dX6_erase_16 ?_
  exact r_iret K hr (⟨rfl, rfl, same_sI (same_rf _ _ _ _ _) (by simp) _, ⟨rfl, hX.2⟩⟩) dX6_erase_17

set_option maxHeartbeats 400000 in
set_option maxRecDepth 10000 in
theorem c_cord {g : Gp} {lau : Launch} {ad : Nat → Nat} {σ : Sg} {T F : Tv} (hT : TOk T) (hR : RepC T σ) (hV : FOk T F) (hF : RepF 12 10 F σ) (b l : Int32) : Con g lau yX6_cord cX6_cord 3 (Option.some .int) 2 47 [.ref (ad 61), .int (b), .int (l)] ad σ (fun r a2 s2 => some (.int (cordR T F b l)) = r ∧ ad = a2 ∧ same [13, 15] [] [] false σ s2 ∧ RepF 12 10 (cordF T F b l) s2) := by
  refine con_mk (by decide) (Nat.le_of_ble_eq_true rfl) (fun x hxl K hr => ?_)
  subst hxl
  refine r_lv (lv' := [(0, .ref (ad 61)), (1, .int (b)), (2, .int (l))]) rfl ?_
  have hn8 := hT.2.1
  have hn9 := hT.2.2.1
  have hh24 := hV.2.2.1
  refine r_aload_n K 0 rfl rfl dX6_cord_0 ?_
  refine get_61_0 K fl_RX6_12 dX6_cord_1 ?_
  refine r_iload_n K 1 rfl rfl dX6_cord_4 ?_
  refine r_callVp K 62 (As := [.int (b)]) mv_X4_hasBarge ml_RX6_105 (c_hasBarge hT hR ((b))) (by decide) rfl rfl rfl rfl (Nat.le_of_ble_eq_true rfl) ⟨by decide, by decide⟩ dX6_cord_5 ?_
  refine b_if_ne K 14 dX6_cord_8 (by decide) (fun h8 => ?_) (fun h8 => ?_)
  · obtain ⟨bN, h_bN, rfl, t_bN⟩ := hasB_t h8
    have e_bN : (nI bN).toInt.toNat = bN := nI_nat (by omega)
    refine r_iload_n K 2 rfl rfl dX6_cord_14 ?_
    refine r_callSp K (As := [.int (l)]) ms_X6_isLayer ml_RX6_93 (c_isLayer ((l))) rfl rfl (Nat.le_of_ble_eq_true rfl) ⟨by decide, by decide⟩ dX6_cord_15 ?_
    refine b_if_eq K 46 dX6_cord_18 (by decide) (fun h18 => ?_) (fun h18 => ?_)
    · refine r_bipush K ((-3)) (by decide) dX6_cord_46 ?_
      exact r_iret K hr (⟨by rw [cordR, if_pos h8, if_neg (fun z => by first | (rw [h18] at z; exact absurd z.1 (by decide)) | (rw [e_lN, e_bN] at z; omega))], rfl, same_rf _ _ _ _ _, by rw [cordF, if_neg (fun z => by first | (rw [h18] at z; exact absurd z.2.1 (by decide)) | (rw [e_lN, e_bN] at z; omega))]; exact hF⟩) dX6_cord_48
    · obtain ⟨lN, h_lN, rfl⟩ := isL_t h18
      have e_lN : (nI lN).toInt.toNat = lN := nI_nat (by omega)
      have hf2 := (hV.2.1 bN).2
      have hf1 := (hV.2.1 bN).1
      have hv0 := (hV.1 bN).1
      refine r_iload_n K 2 rfl rfl dX6_cord_21 ?_
      refine r_aload_n K 0 rfl rfl dX6_cord_22 ?_
      refine get_61_2 K fl_RX6_26 dX6_cord_23 ?_
      refine get_64_3 K fl_RX6_129 dX6_cord_26 ?_
      refine r_iload_n K 1 rfl rfl dX6_cord_29 ?_
      refine r_iald K 14 (n := 4) (by decide) rfl rfl (by decide) (by omega) dX6_cord_30 ?_
      refine r_topi (b := (nI (F 2 bN))) (hF.1 2 (by decide) (bN) (by omega)) ?_
      refine r_isub K dX6_cord_31 ?_
      refine r_mabs K ml_RX6_132 (by decide) (Nat.le_of_ble_eq_true rfl) dX6_cord_32 ?_
      refine r_topi (b := (nI (offS lN (F 2 bN)))) (abs_sub (by omega) (by omega)) ?_
      have hof : offS lN (F 2 bN) < 6 := offS_lt (by omega) (by omega)
      refine r_aload_n K 0 rfl rfl dX6_cord_35 ?_
      refine get_61_0 K fl_RX6_12 dX6_cord_36 ?_
      refine r_iload_n K 1 rfl rfl dX6_cord_39 ?_
      refine r_callVp K 62 (As := [.int (nI (bN))]) mv_X4_cordOf ml_RX6_111 (c_cordOf hT hR (b := bN) (by omega)) (by decide) rfl rfl rfl rfl (Nat.le_of_ble_eq_true rfl) ⟨by decide, by decide⟩ dX6_cord_40 ?_
      have hcd := cordS_le hT bN
      refine n_icmp_le K 49 (by omega) (by omega) dX6_cord_43 (by decide) (fun h43 => ?_) (fun h43 => ?_)
      · refine r_aload_n K 0 rfl rfl dX6_cord_49 ?_
        refine get_61_2 K fl_RX6_26 dX6_cord_50 ?_
        refine get_64_1 K fl_RX6_137 dX6_cord_53 ?_
        refine r_iload_n K 1 rfl rfl dX6_cord_56 ?_
        refine r_iald K 12 (n := 4) (by decide) rfl rfl (by decide) (by omega) dX6_cord_57 ?_
        refine r_topi (b := (nI (F 0 bN))) (hF.1 0 (by decide) (bN) (by omega)) ?_
        refine r_sipush K ((nI (160))) (by decide) dX6_cord_58 ?_
        refine n_icmp_eq K 76 (by omega) (by omega) dX6_cord_61 (by decide) (fun h61 => ?_) (fun h61 => ?_)
        · refine r_bipush K ((-4)) (by decide) dX6_cord_76 ?_
          exact r_iret K hr (⟨by rw [cordR, if_pos h8, if_pos ⟨h18, by rw [e_lN, e_bN]; omega⟩, if_pos (by rw [e_bN]; omega)], rfl, same_rf _ _ _ _ _, by rw [cordF, if_neg (fun z => by rw [e_bN] at z; omega)]; exact hF⟩) dX6_cord_78
        · refine r_aload_n K 0 rfl rfl dX6_cord_64 ?_
          refine get_61_2 K fl_RX6_26 dX6_cord_65 ?_
          refine get_64_0 K fl_RX6_140 dX6_cord_68 ?_
          refine r_topi (b := (nI (F 5 0))) (hF.2) ?_
          refine r_bipush K ((nI (24))) (by decide) dX6_cord_71 ?_
          refine n_icmp_lt K 79 (by omega) (by omega) dX6_cord_73 (by decide) (fun h73 => ?_) (fun h73 => ?_)
          · refine r_aload_n K 0 rfl rfl dX6_cord_79 ?_
            refine get_61_2 K fl_RX6_26 dX6_cord_80 ?_
            refine r_iload_n K 1 rfl rfl dX6_cord_83 ?_
            refine r_iload_n K 2 rfl rfl dX6_cord_84 ?_
            refine r_callV K 64 (As := [.int (nI (bN)), .int (nI (lN))]) (rest := []) mv_X0_change ml_RX6_143 (c_change hF (b := bN) (l := lN) (by omega) (by omega) (hV.2.1 _).1) (by decide) rfl rfl rfl rfl (Nat.le_of_ble_eq_true rfl) ⟨by decide, by decide⟩ dX6_cord_85 (fun r_ ad_ s_ h_ => ?_)
            obtain ⟨rfl, rfl, rfl⟩ := h_
            refine r_st (st' := [.int (nI (offS lN (F 1 bN)))]) rfl ?_
            exact r_iret K hr (⟨by rw [cordR, if_pos h8, if_pos ⟨h18, by rw [e_lN, e_bN]; omega⟩, if_neg (by rw [e_bN]; omega), e_lN, e_bN], rfl, same_sA (same_sA (same_rf _ _ _ _ _) (by simp) _) (by simp) _, by rw [cordF, if_pos ⟨h8, h18, by rw [e_lN, e_bN]; omega, by rw [e_bN]; omega⟩, e_lN, e_bN]; exact RepF_change hF (by omega)⟩) dX6_cord_88
          · refine r_bipush K ((-4)) (by decide) dX6_cord_76 ?_
            exact r_iret K hr (⟨by rw [cordR, if_pos h8, if_pos ⟨h18, by rw [e_lN, e_bN]; omega⟩, if_pos (by rw [e_bN]; omega)], rfl, same_rf _ _ _ _ _, by rw [cordF, if_neg (fun z => by rw [e_bN] at z; omega)]; exact hF⟩) dX6_cord_78
      · refine r_bipush K ((-3)) (by decide) dX6_cord_46 ?_
        exact r_iret K hr (⟨by rw [cordR, if_pos h8, if_neg (fun z => by first | (rw [h18] at z; exact absurd z.1 (by decide)) | (rw [e_lN, e_bN] at z; omega))], rfl, same_rf _ _ _ _ _, by rw [cordF, if_neg (fun z => by first | (rw [h18] at z; exact absurd z.2.1 (by decide)) | (rw [e_lN, e_bN] at z; omega))]; exact hF⟩) dX6_cord_48
  · refine r_bipush K ((-2)) (by decide) dX6_cord_11 ?_
    exact r_iret K hr (⟨by simp (decide := true) [cordR, *], rfl, same_rf _ _ _ _ _, by rw [cordF, if_neg (fun z => by rw [h8] at z; exact absurd z.1 (by decide))]; exact hF⟩) dX6_cord_13

set_option maxHeartbeats 400000 in
set_option maxRecDepth 10000 in
theorem c_go {g : Gp} {lau : Launch} {ad : Nat → Nat} {σ : Sg} {T F : Tv} (hT : TOk T) (hR : RepC T σ) (hV : FOk T F) (hF : RepF 12 10 F σ) (n : Int32) : Con g lau yX6_go cX6_go 4 (Option.some .int) 4 99 [.ref (ad 61), .int (n)] ad σ (fun r a2 s2 => some (.int (goR F n)) = r ∧ ad = a2 ∧ same [12, 14, 16] [10] [] false σ s2 ∧ RepF 12 10 (goF T F n) s2) := by
  refine con_mk (by decide) (Nat.le_of_ble_eq_true rfl) (fun x hxl K hr => ?_)
  subst hxl
  refine r_lv (lv' := [(0, .ref (ad 61)), (1, .int (n))]) rfl ?_
  have hn8 := hT.2.1
  have hn9 := hT.2.2.1
  have hh24 := hV.2.2.1
  refine r_iload_n K 1 rfl rfl dX6_go_0 ?_
  refine r_iconst K ((nI (1))) (by decide) dX6_go_1 ?_
  refine r_icmp_lt K 11 dX6_go_2 (by decide) (fun h2 => ?_) (fun h2 => ?_)
  · refine r_bipush K ((-3)) (by decide) dX6_go_11 ?_
    exact r_iret K hr (⟨by rw [goR, if_neg (by first | (rw [inS_lo h2 (by decide)]; decide) | (rw [inS_hi (Int32.not_le.mp h8) (by decide)]; decide))], rfl, same_rf _ _ _ _ _, by rw [goF, if_neg (by first | (rw [inS_lo h2 (by decide)]; decide) | (rw [inS_hi (Int32.not_le.mp h8) (by decide)]; decide))]; exact hF⟩) dX6_go_13
  · refine r_iload_n K 1 rfl rfl dX6_go_5 ?_
    refine r_bipush K ((nI (24))) (by decide) dX6_go_6 ?_
    refine r_icmp_le K 14 dX6_go_8 (by decide) (fun h8 => ?_) (fun h8 => ?_)
    · obtain ⟨m, hm1, hm8, rfl⟩ := inS_t (by decide) (by decide) (inS_mid (a := 1) (b := 24) h2 (Int32.not_lt.mpr h8))
      have hin : inS (nI m) (nI 1) (nI 24) = true := by rw [inS_nI (by omega) (by decide) (by decide)]; exact decide_eq_true ⟨hm1, hm8⟩
      have e_m : (nI m).toInt.toNat = m := nI_nat (by omega)
      refine r_bipush K ((nI (24))) (by decide) dX6_go_14 ?_
      refine r_aload_n K 0 rfl rfl dX6_go_16 ?_
      refine get_61_2 K fl_RX6_26 dX6_go_17 ?_
      refine get_64_0 K fl_RX6_140 dX6_go_20 ?_
      refine r_topi (b := (nI (F 5 0))) (hF.2) ?_
      refine r_iload_n K 1 rfl rfl dX6_go_23 ?_
      refine r_iadd K dX6_go_24 ?_
      refine r_topi (nI_add _ _) ?_
      refine r_mmin K ml_RX6_147 (by decide) (Nat.le_of_ble_eq_true rfl) dX6_go_25 ?_
      refine r_topi (b := (nI (min 24 ((F 5 0) + m)))) (nI_min (by omega) (by omega)) ?_
      refine r_topi (b := (nI (goN F m))) (rfl) ?_
      refine r_istore_n K (lv' := [(2, .int (nI (goN F m))), (0, .ref (ad 61)), (1, .int (nI (m)))]) 2 rfl (by decide) rfl dX6_go_28 ?_
      refine r_aload_n K 0 rfl rfl dX6_go_29 ?_
      refine get_61_2 K fl_RX6_26 dX6_go_30 ?_
      refine get_64_0 K fl_RX6_140 dX6_go_33 ?_
      refine r_topi (b := (nI (F 5 0))) (hF.2) ?_
      refine r_istore_n K (lv' := [(3, .int (nI (F 5 0))), (2, .int (nI (goN F m))), (0, .ref (ad 61)), (1, .int (nI (m)))]) 3 rfl (by decide) rfl dX6_go_36 ?_
      refine r_lv (lv' := [(3, .int (nI (F 5 0 + 0))), (2, .int (nI (goN F m))), (0, .ref (ad 61)), (1, .int (nI (m)))]) rfl ?_
      refine r_pick [2, 3, 1, 0] (lv' := [(0, .ref (ad 61)), (1, .int (nI (m))), (2, .int (nI (goN F m))), (3, .int (nI (F 5 0 + 0)))]) rfl ?_
      have lpA : ∀ (mm_ : Nat) (j : Nat) (s1 : Sg), mm_ = goN F m - j → (F 5 0 + j ≤ goN F m) → (same [12, 14, 16] [10] [] false σ s1) → (RepF 12 10 (runS T F j) s1) → GJ g x 4 37 [(0, .ref (ad 61)), (1, .int (nI (m))), (2, .int (nI (goN F m))), (3, .int (nI (F 5 0 + j)))] [] ad (s1) := by
        intro mm_
        induction mm_ using Nat.strongRecOn with
        | _ mm_ ihA =>
          intro j s1 hmA hj hs1 hF1
          have hR1 : RepC T s1 := hR.same hs1 (by intro k hk; simp; omega) (by simp)
          have hg24 : goN F m ≤ 24 := Nat.min_le_left _ _
          have hV1 := runS_ok hT hV j (by omega)
          refine r_iload_n K 3 rfl rfl dX6_go_37 ?_
          refine r_iload_n K 2 rfl rfl dX6_go_38 ?_
          refine n_icmp_ge K 60 (by omega) (by omega) dX6_go_39 (by decide) (fun h39 => ?_) (fun h39 => ?_)
          · refine r_aload_n K 0 rfl rfl dX6_go_60 ?_
            refine get_61_2 K fl_RX6_26 dX6_go_61 ?_
            refine get_64_0 K fl_RX6_140 dX6_go_64 ?_
            refine r_topi (b := (nI (runS T F j 5 0))) (hF1.2) ?_
            exact r_iret K hr (⟨by rw [goR, if_pos hin, e_m, runS_h, show F 5 0 + j = goN F m by omega], rfl, hs1, by rw [goF, if_pos hin, e_m, show goN F m - F 5 0 = j by omega]; exact hF1⟩) dX6_go_67
          · refine r_aload_n K 0 rfl rfl dX6_go_42 ?_
            refine get_61_2 K fl_RX6_26 dX6_go_43 ?_
            refine r_aload_n K 0 rfl rfl dX6_go_46 ?_
            refine get_61_0 K fl_RX6_12 dX6_go_47 ?_
            refine r_iload_n K 3 rfl rfl dX6_go_50 ?_
            refine r_callV K 64 (As := [.ref (ad 62), .int (nI (F 5 0 + j))]) (rest := []) mv_X0_passHour ml_RX6_150 (c_passHour hT hR1 hV1 hF1 (h := F 5 0 + j) (by omega)) (by decide) rfl rfl rfl rfl (Nat.le_of_ble_eq_true rfl) ⟨by decide, by decide⟩ dX6_go_51 (fun r_ ad_ s_ h_ => ?_)
            obtain ⟨rfl, rfl, hs2, hF2⟩ := h_
            refine r_st (st' := []) rfl ?_
            refine r_iinc K ((nI ((F 5 0 + j) + 1))) rfl (nI_1 _) (lv' := [(3, .int (nI ((F 5 0 + j) + 1))), (0, .ref (ad 61)), (1, .int (nI (m))), (2, .int (nI (goN F m)))]) (by decide) rfl dX6_go_54 ?_
            refine r_goto K 37 dX6_go_57 (by decide) ?_
            refine r_pick [1, 2, 3, 0] (lv' := [(0, .ref (ad 61)), (1, .int (nI (m))), (2, .int (nI (goN F m))), (3, .int (nI ((F 5 0 + j) + 1)))]) rfl ?_
            exact ihA _ (by omega) (j + 1) (s_) rfl (by omega) (same_tr hs1 hs2) (hF2)
      exact lpA _ (0) (σ) rfl (by unfold goN; omega) (same_rf _ _ _ _ _) (hF)
    · refine r_bipush K ((-3)) (by decide) dX6_go_11 ?_
      exact r_iret K hr (⟨by rw [goR, if_neg (by first | (rw [inS_lo h2 (by decide)]; decide) | (rw [inS_hi (Int32.not_le.mp h8) (by decide)]; decide))], rfl, same_rf _ _ _ _ _, by rw [goF, if_neg (by first | (rw [inS_lo h2 (by decide)]; decide) | (rw [inS_hi (Int32.not_le.mp h8) (by decide)]; decide))]; exact hF⟩) dX6_go_13

theorem RepF_copy_65_64 {F : Tv} {σ : Sg} (hF : RepF 12 10 F σ) : RepF 17 11 F (((((((σ).sI 11 ((σ.I 10))).sA 17 (va_cpy ((σ).A 12) ((σ).A 17) 0 0 4)).sA 18 (va_cpy ((σ).A 13) ((σ).A 18) 0 0 4)).sA 19 (va_cpy ((σ).A 14) ((σ).A 19) 0 0 4)).sA 20 (va_cpy ((σ).A 15) ((σ).A 20) 0 0 4)).sA 21 (va_cpy ((σ).A 16) ((σ).A 21) 0 0 4)) := by
  refine ⟨fun k hk b hb => ?_, hF.2⟩
  have h0 := hF.1 k hk b hb
  rcases (show k = 0 ∨ k = 1 ∨ k = 2 ∨ k = 3 ∨ k = 4 by omega) with rfl | rfl | rfl | rfl | rfl
  · exact (show va_cpy (σ.A 12) (σ.A 17) 0 0 4 b = _ from cpy_at hb).trans h0
  · exact (show va_cpy (σ.A 13) (σ.A 18) 0 0 4 b = _ from cpy_at hb).trans h0
  · exact (show va_cpy (σ.A 14) (σ.A 19) 0 0 4 b = _ from cpy_at hb).trans h0
  · exact (show va_cpy (σ.A 15) (σ.A 20) 0 0 4 b = _ from cpy_at hb).trans h0
  · exact (show va_cpy (σ.A 16) (σ.A 21) 0 0 4 b = _ from cpy_at hb).trans h0
theorem same_copy_65_64 {σ : Sg} : same [17, 18, 19, 20, 21] [11] [] false σ (((((((σ).sI 11 ((σ.I 10))).sA 17 (va_cpy ((σ).A 12) ((σ).A 17) 0 0 4)).sA 18 (va_cpy ((σ).A 13) ((σ).A 18) 0 0 4)).sA 19 (va_cpy ((σ).A 14) ((σ).A 19) 0 0 4)).sA 20 (va_cpy ((σ).A 15) ((σ).A 20) 0 0 4)).sA 21 (va_cpy ((σ).A 16) ((σ).A 21) 0 0 4)) := same_sA (same_sA (same_sA (same_sA (same_sA (same_sI (same_rf _ _ _ _ _) (by simp) _) (by simp) _) (by simp) _) (by simp) _) (by simp) _) (by simp) _
theorem RepF_copy_66_64 {F : Tv} {σ : Sg} (hF : RepF 12 10 F σ) : RepF 22 12 F (((((((σ).sI 12 ((σ.I 10))).sA 22 (va_cpy ((σ).A 12) ((σ).A 22) 0 0 4)).sA 23 (va_cpy ((σ).A 13) ((σ).A 23) 0 0 4)).sA 24 (va_cpy ((σ).A 14) ((σ).A 24) 0 0 4)).sA 25 (va_cpy ((σ).A 15) ((σ).A 25) 0 0 4)).sA 26 (va_cpy ((σ).A 16) ((σ).A 26) 0 0 4)) := by
  refine ⟨fun k hk b hb => ?_, hF.2⟩
  have h0 := hF.1 k hk b hb
  rcases (show k = 0 ∨ k = 1 ∨ k = 2 ∨ k = 3 ∨ k = 4 by omega) with rfl | rfl | rfl | rfl | rfl
  · exact (show va_cpy (σ.A 12) (σ.A 22) 0 0 4 b = _ from cpy_at hb).trans h0
  · exact (show va_cpy (σ.A 13) (σ.A 23) 0 0 4 b = _ from cpy_at hb).trans h0
  · exact (show va_cpy (σ.A 14) (σ.A 24) 0 0 4 b = _ from cpy_at hb).trans h0
  · exact (show va_cpy (σ.A 15) (σ.A 25) 0 0 4 b = _ from cpy_at hb).trans h0
  · exact (show va_cpy (σ.A 16) (σ.A 26) 0 0 4 b = _ from cpy_at hb).trans h0
theorem same_copy_66_64 {σ : Sg} : same [22, 23, 24, 25, 26] [12] [] false σ (((((((σ).sI 12 ((σ.I 10))).sA 22 (va_cpy ((σ).A 12) ((σ).A 22) 0 0 4)).sA 23 (va_cpy ((σ).A 13) ((σ).A 23) 0 0 4)).sA 24 (va_cpy ((σ).A 14) ((σ).A 24) 0 0 4)).sA 25 (va_cpy ((σ).A 15) ((σ).A 25) 0 0 4)).sA 26 (va_cpy ((σ).A 16) ((σ).A 26) 0 0 4)) := same_sA (same_sA (same_sA (same_sA (same_sA (same_sI (same_rf _ _ _ _ _) (by simp) _) (by simp) _) (by simp) _) (by simp) _) (by simp) _) (by simp) _
theorem RepF_copy_64_65 {F : Tv} {σ : Sg} (hF : RepF 17 11 F σ) : RepF 12 10 F (((((((σ).sI 10 ((σ.I 11))).sA 12 (va_cpy ((σ).A 17) ((σ).A 12) 0 0 4)).sA 13 (va_cpy ((σ).A 18) ((σ).A 13) 0 0 4)).sA 14 (va_cpy ((σ).A 19) ((σ).A 14) 0 0 4)).sA 15 (va_cpy ((σ).A 20) ((σ).A 15) 0 0 4)).sA 16 (va_cpy ((σ).A 21) ((σ).A 16) 0 0 4)) := by
  refine ⟨fun k hk b hb => ?_, hF.2⟩
  have h0 := hF.1 k hk b hb
  rcases (show k = 0 ∨ k = 1 ∨ k = 2 ∨ k = 3 ∨ k = 4 by omega) with rfl | rfl | rfl | rfl | rfl
  · exact (show va_cpy (σ.A 17) (σ.A 12) 0 0 4 b = _ from cpy_at hb).trans h0
  · exact (show va_cpy (σ.A 18) (σ.A 13) 0 0 4 b = _ from cpy_at hb).trans h0
  · exact (show va_cpy (σ.A 19) (σ.A 14) 0 0 4 b = _ from cpy_at hb).trans h0
  · exact (show va_cpy (σ.A 20) (σ.A 15) 0 0 4 b = _ from cpy_at hb).trans h0
  · exact (show va_cpy (σ.A 21) (σ.A 16) 0 0 4 b = _ from cpy_at hb).trans h0
theorem same_copy_64_65 {σ : Sg} : same [12, 13, 14, 15, 16] [10] [] false σ (((((((σ).sI 10 ((σ.I 11))).sA 12 (va_cpy ((σ).A 17) ((σ).A 12) 0 0 4)).sA 13 (va_cpy ((σ).A 18) ((σ).A 13) 0 0 4)).sA 14 (va_cpy ((σ).A 19) ((σ).A 14) 0 0 4)).sA 15 (va_cpy ((σ).A 20) ((σ).A 15) 0 0 4)).sA 16 (va_cpy ((σ).A 21) ((σ).A 16) 0 0 4)) := same_sA (same_sA (same_sA (same_sA (same_sA (same_sI (same_rf _ _ _ _ _) (by simp) _) (by simp) _) (by simp) _) (by simp) _) (by simp) _) (by simp) _
theorem RepF_copy_64_66 {F : Tv} {σ : Sg} (hF : RepF 22 12 F σ) : RepF 12 10 F (((((((σ).sI 10 ((σ.I 12))).sA 12 (va_cpy ((σ).A 22) ((σ).A 12) 0 0 4)).sA 13 (va_cpy ((σ).A 23) ((σ).A 13) 0 0 4)).sA 14 (va_cpy ((σ).A 24) ((σ).A 14) 0 0 4)).sA 15 (va_cpy ((σ).A 25) ((σ).A 15) 0 0 4)).sA 16 (va_cpy ((σ).A 26) ((σ).A 16) 0 0 4)) := by
  refine ⟨fun k hk b hb => ?_, hF.2⟩
  have h0 := hF.1 k hk b hb
  rcases (show k = 0 ∨ k = 1 ∨ k = 2 ∨ k = 3 ∨ k = 4 by omega) with rfl | rfl | rfl | rfl | rfl
  · exact (show va_cpy (σ.A 22) (σ.A 12) 0 0 4 b = _ from cpy_at hb).trans h0
  · exact (show va_cpy (σ.A 23) (σ.A 13) 0 0 4 b = _ from cpy_at hb).trans h0
  · exact (show va_cpy (σ.A 24) (σ.A 14) 0 0 4 b = _ from cpy_at hb).trans h0
  · exact (show va_cpy (σ.A 25) (σ.A 15) 0 0 4 b = _ from cpy_at hb).trans h0
  · exact (show va_cpy (σ.A 26) (σ.A 16) 0 0 4 b = _ from cpy_at hb).trans h0
theorem same_copy_64_66 {σ : Sg} : same [12, 13, 14, 15, 16] [10] [] false σ (((((((σ).sI 10 ((σ.I 12))).sA 12 (va_cpy ((σ).A 22) ((σ).A 12) 0 0 4)).sA 13 (va_cpy ((σ).A 23) ((σ).A 13) 0 0 4)).sA 14 (va_cpy ((σ).A 24) ((σ).A 14) 0 0 4)).sA 15 (va_cpy ((σ).A 25) ((σ).A 15) 0 0 4)).sA 16 (va_cpy ((σ).A 26) ((σ).A 16) 0 0 4)) := same_sA (same_sA (same_sA (same_sA (same_sA (same_sI (same_rf _ _ _ _ _) (by simp) _) (by simp) _) (by simp) _) (by simp) _) (by simp) _) (by simp) _
set_option maxHeartbeats 400000 in
set_option maxRecDepth 10000 in
theorem c_keep {g : Gp} {lau : Launch} {ad : Nat → Nat} {σ : Sg} {F K0 K1 : Tv} {kf : Nat → Nat} (hF : RepF 12 10 F σ) (hK0 : RepF 17 11 K0 σ) (hK1 : RepF 22 12 K1 σ) (hkf : RepK 27 kf σ) (k : Int32) : Con g lau yX6_keep cX6_keep 2 (Option.some .int) 2 101 [.ref (ad 61), .int (k)] ad σ (fun r a2 s2 => some (.int (keepR F k)) = r ∧ ad = a2 ∧ same [17, 18, 19, 20, 21, 22, 23, 24, 25, 26, 27] [11, 12] [] false σ s2 ∧ RepF 17 11 (keepK F K0 0 k) s2 ∧ RepF 22 12 (keepK F K1 1 k) s2 ∧ RepK 27 (keepB kf k) s2) := by
  refine con_mk (by decide) (Nat.le_of_ble_eq_true rfl) (fun x hxl K hr => ?_)
  subst hxl
  refine r_lv (lv' := [(0, .ref (ad 61)), (1, .int (k))]) rfl ?_
  refine r_iload_n K 1 rfl rfl dX6_keep_0 ?_
  refine r_if_lt K 9 dX6_keep_1 (by decide) (fun h1 => ?_) (fun h1 => ?_)
  · refine r_bipush K ((-2)) (by decide) dX6_keep_9 ?_
    exact r_iret K hr (⟨by rw [keepR, if_neg (by rw [k01i (k01n (by first | exact Or.inl h1 | exact Or.inr h6))]; decide)], rfl, same_rf _ _ _ _ _, by rw [keepK, if_neg (k01n (by first | exact Or.inl h1 | exact Or.inr h6)).1]; exact hK0, by rw [keepK, if_neg (k01n (by first | exact Or.inl h1 | exact Or.inr h6)).2]; exact hK1, fun i hi => by rcases (show i = 0 ∨ i = 1 by omega) with rfl | rfl; (rw [keepB, if_neg (k01n (by first | exact Or.inl h1 | exact Or.inr h6)).1]; exact hkf 0 (by decide)); (rw [keepB, if_neg (k01n (by first | exact Or.inl h1 | exact Or.inr h6)).2]; exact hkf 1 (by decide))⟩) dX6_keep_11
  · refine r_iload_n K 1 rfl rfl dX6_keep_4 ?_
    refine r_iconst K ((nI (2))) (by decide) dX6_keep_5 ?_
    refine r_icmp_lt K 12 dX6_keep_6 (by decide) (fun h6 => ?_) (fun h6 => ?_)
    · rcases k01 h1 h6 with rfl | rfl
      · refine r_aload_n K 0 rfl rfl dX6_keep_12 ?_
        refine get_61_3 K fl_RX6_30 dX6_keep_13 ?_
        refine r_iload_n K 1 rfl rfl dX6_keep_16 ?_
        refine r_aald0 K dX6_keep_17 ?_
        refine r_aload_n K 0 rfl rfl dX6_keep_18 ?_
        refine get_61_2 K fl_RX6_26 dX6_keep_19 ?_
        refine r_callV K 65 (As := [.ref (ad 64)]) (rest := []) mv_X0_copyFrom ml_RX6_170 (c_copy_65_64) (by decide) rfl rfl rfl rfl (Nat.le_of_ble_eq_true rfl) ⟨by decide, by decide⟩ dX6_keep_22 (fun r_ ad_ s_ h_ => ?_)
        obtain ⟨rfl, rfl, rfl⟩ := h_
        refine r_st (st' := []) rfl ?_
        have hcp := RepF_copy_65_64 (hF)
        have hsm := same_copy_65_64 (σ := σ)
        generalize hcz : ((((((σ).sI 11 ((σ.I 10))).sA 17 (va_cpy ((σ).A 12) ((σ).A 17) 0 0 4)).sA 18 (va_cpy ((σ).A 13) ((σ).A 18) 0 0 4)).sA 19 (va_cpy ((σ).A 14) ((σ).A 19) 0 0 4)).sA 20 (va_cpy ((σ).A 15) ((σ).A 20) 0 0 4)).sA 21 (va_cpy ((σ).A 16) ((σ).A 21) 0 0 4) = s3 at hcp hsm ⊢
        refine r_aload_n K 0 rfl rfl dX6_keep_25 ?_
        refine get_61_4 K fl_RX6_34 dX6_keep_26 ?_
        refine r_iload_n K 1 rfl rfl dX6_keep_29 ?_
        refine r_iconst K ((nI (1))) (by decide) dX6_keep_30 ?_
        refine r_zast K 27 (n := 2) (by decide) rfl rfl (by decide) (by omega) (nar1) dX6_keep_31 ?_
        refine r_aload_n K 0 rfl rfl dX6_keep_32 ?_
        refine get_61_2 K fl_RX6_26 dX6_keep_33 ?_
        refine get_64_0 K fl_RX6_140 dX6_keep_36 ?_
        refine r_topi (b := s3.I 10) rfl ?_
        refine r_topi (b := (nI (F 5 0))) ((hsm.2.1 10 (by simp)).trans hF.2) ?_
        exact r_iret K hr (⟨by rw [keepR, if_pos (by decide)], rfl, same_sA (same_w hsm (by simp) (by simp) (by simp) id) (by simp) _, by rw [keepK, if_pos rfl]; exact RepF_sA hcp (by decide), by rw [keepK, if_neg (by decide)]; exact RepF_sA (RepF_same hK1 hsm (by intro j hj; simp; omega) (by simp)) (by decide), RepK_set (RepK_same hkf hsm (by simp)) (by decide)⟩) dX6_keep_39
      · refine r_aload_n K 0 rfl rfl dX6_keep_12 ?_
        refine get_61_3 K fl_RX6_30 dX6_keep_13 ?_
        refine r_iload_n K 1 rfl rfl dX6_keep_16 ?_
        refine r_aald1 K dX6_keep_17 ?_
        refine r_aload_n K 0 rfl rfl dX6_keep_18 ?_
        refine get_61_2 K fl_RX6_26 dX6_keep_19 ?_
        refine r_callV K 66 (As := [.ref (ad 64)]) (rest := []) mv_X0_copyFrom ml_RX6_170 (c_copy_66_64) (by decide) rfl rfl rfl rfl (Nat.le_of_ble_eq_true rfl) ⟨by decide, by decide⟩ dX6_keep_22 (fun r_ ad_ s_ h_ => ?_)
        obtain ⟨rfl, rfl, rfl⟩ := h_
        refine r_st (st' := []) rfl ?_
        have hcp := RepF_copy_66_64 (hF)
        have hsm := same_copy_66_64 (σ := σ)
        generalize hcz : ((((((σ).sI 12 ((σ.I 10))).sA 22 (va_cpy ((σ).A 12) ((σ).A 22) 0 0 4)).sA 23 (va_cpy ((σ).A 13) ((σ).A 23) 0 0 4)).sA 24 (va_cpy ((σ).A 14) ((σ).A 24) 0 0 4)).sA 25 (va_cpy ((σ).A 15) ((σ).A 25) 0 0 4)).sA 26 (va_cpy ((σ).A 16) ((σ).A 26) 0 0 4) = s3 at hcp hsm ⊢
        refine r_aload_n K 0 rfl rfl dX6_keep_25 ?_
        refine get_61_4 K fl_RX6_34 dX6_keep_26 ?_
        refine r_iload_n K 1 rfl rfl dX6_keep_29 ?_
        refine r_iconst K ((nI (1))) (by decide) dX6_keep_30 ?_
        refine r_zast K 27 (n := 2) (by decide) rfl rfl (by decide) (by omega) (nar1) dX6_keep_31 ?_
        refine r_aload_n K 0 rfl rfl dX6_keep_32 ?_
        refine get_61_2 K fl_RX6_26 dX6_keep_33 ?_
        refine get_64_0 K fl_RX6_140 dX6_keep_36 ?_
        refine r_topi (b := s3.I 10) rfl ?_
        refine r_topi (b := (nI (F 5 0))) ((hsm.2.1 10 (by simp)).trans hF.2) ?_
        exact r_iret K hr (⟨by rw [keepR, if_pos (by decide)], rfl, same_sA (same_w hsm (by simp) (by simp) (by simp) id) (by simp) _, by rw [keepK, if_neg (by decide)]; exact RepF_sA (RepF_same hK0 hsm (by intro j hj; simp; omega) (by simp)) (by decide), by rw [keepK, if_pos rfl]; exact RepF_sA hcp (by decide), RepK_set (RepK_same hkf hsm (by simp)) (by decide)⟩) dX6_keep_39
    · refine r_bipush K ((-2)) (by decide) dX6_keep_9 ?_
      exact r_iret K hr (⟨by rw [keepR, if_neg (by rw [k01i (k01n (by first | exact Or.inl h1 | exact Or.inr h6))]; decide)], rfl, same_rf _ _ _ _ _, by rw [keepK, if_neg (k01n (by first | exact Or.inl h1 | exact Or.inr h6)).1]; exact hK0, by rw [keepK, if_neg (k01n (by first | exact Or.inl h1 | exact Or.inr h6)).2]; exact hK1, fun i hi => by rcases (show i = 0 ∨ i = 1 by omega) with rfl | rfl; (rw [keepB, if_neg (k01n (by first | exact Or.inl h1 | exact Or.inr h6)).1]; exact hkf 0 (by decide)); (rw [keepB, if_neg (k01n (by first | exact Or.inl h1 | exact Or.inr h6)).2]; exact hkf 1 (by decide))⟩) dX6_keep_11

set_option maxHeartbeats 400000 in
set_option maxRecDepth 10000 in
theorem c_back {g : Gp} {lau : Launch} {ad : Nat → Nat} {σ : Sg} {F K0 K1 : Tv} {kf : Nat → Nat} (hF : RepF 12 10 F σ) (hK0 : RepF 17 11 K0 σ) (hK1 : RepF 22 12 K1 σ) (hkf : RepK 27 kf σ) (hk1 : ∀ i, kf i ≤ 1) (k : Int32) : Con g lau yX6_back cX6_back 2 (Option.some .int) 2 101 [.ref (ad 61), .int (k)] ad σ (fun r a2 s2 => some (.int (backR K0 K1 kf k)) = r ∧ ad = a2 ∧ same [12, 13, 14, 15, 16] [10] [] false σ s2 ∧ RepF 12 10 (backF F K0 K1 kf k) s2) := by
  refine con_mk (by decide) (Nat.le_of_ble_eq_true rfl) (fun x hxl K hr => ?_)
  subst hxl
  refine r_lv (lv' := [(0, .ref (ad 61)), (1, .int (k))]) rfl ?_
  refine r_iload_n K 1 rfl rfl dX6_back_0 ?_
  refine r_if_lt K 9 dX6_back_1 (by decide) (fun h1 => ?_) (fun h1 => ?_)
  · refine r_bipush K ((-2)) (by decide) dX6_back_9 ?_
    exact r_iret K hr (⟨by rw [backR, if_neg (k01n (by first | exact Or.inl h1 | exact Or.inr h6)).1, if_neg (k01n (by first | exact Or.inl h1 | exact Or.inr h6)).2], rfl, same_rf _ _ _ _ _, by rw [backF, if_neg (fun z => (k01n (by first | exact Or.inl h1 | exact Or.inr h6)).1 z.1), if_neg (fun z => (k01n (by first | exact Or.inl h1 | exact Or.inr h6)).2 z.1)]; exact hF⟩) dX6_back_11
  · refine r_iload_n K 1 rfl rfl dX6_back_4 ?_
    refine r_iconst K ((nI (2))) (by decide) dX6_back_5 ?_
    refine r_icmp_lt K 12 dX6_back_6 (by decide) (fun h6 => ?_) (fun h6 => ?_)
    · have hk0 := hk1 0
      have hk1 := hk1 1
      rcases k01 h1 h6 with rfl | rfl
      · refine r_aload_n K 0 rfl rfl dX6_back_12 ?_
        refine get_61_4 K fl_RX6_34 dX6_back_13 ?_
        refine r_iload_n K 1 rfl rfl dX6_back_16 ?_
        refine r_zald K 27 (n := 2) (by decide) rfl rfl (by decide) (by omega) dX6_back_17 ?_
        refine r_topi (b := (nI (kf 0))) (hkf 0 (by decide)) ?_
        refine n_if_ne K 24 (by omega) dX6_back_18 (by decide) (fun h18 => ?_) (fun h18 => ?_)
        · refine r_aload_n K 0 rfl rfl dX6_back_24 ?_
          refine get_61_2 K fl_RX6_26 dX6_back_25 ?_
          refine r_aload_n K 0 rfl rfl dX6_back_28 ?_
          refine get_61_3 K fl_RX6_30 dX6_back_29 ?_
          refine r_iload_n K 1 rfl rfl dX6_back_32 ?_
          refine r_aald0 K dX6_back_33 ?_
          refine r_callV K 64 (As := [.ref (ad 65)]) (rest := []) mv_X0_copyFrom ml_RX6_170 (c_copy_64_65) (by decide) rfl rfl rfl rfl (Nat.le_of_ble_eq_true rfl) ⟨by decide, by decide⟩ dX6_back_34 (fun r_ ad_ s_ h_ => ?_)
          obtain ⟨rfl, rfl, rfl⟩ := h_
          refine r_st (st' := []) rfl ?_
          have hcp := RepF_copy_64_65 (hK0)
          have hsm := same_copy_64_65 (σ := σ)
          generalize hcz : ((((((σ).sI 10 ((σ.I 11))).sA 12 (va_cpy ((σ).A 17) ((σ).A 12) 0 0 4)).sA 13 (va_cpy ((σ).A 18) ((σ).A 13) 0 0 4)).sA 14 (va_cpy ((σ).A 19) ((σ).A 14) 0 0 4)).sA 15 (va_cpy ((σ).A 20) ((σ).A 15) 0 0 4)).sA 16 (va_cpy ((σ).A 21) ((σ).A 16) 0 0 4) = s3 at hcp hsm ⊢
          refine r_aload_n K 0 rfl rfl dX6_back_37 ?_
          refine get_61_2 K fl_RX6_26 dX6_back_38 ?_
          refine get_64_0 K fl_RX6_140 dX6_back_41 ?_
          refine r_topi (b := (nI (K0 5 0))) (hcp.2) ?_
          exact r_iret K hr (⟨by rw [backR, if_pos rfl, if_pos (by omega)], rfl, hsm, by rw [backF, if_pos ⟨rfl, by omega⟩]; exact hcp⟩) dX6_back_44
        · refine r_bipush K ((-4)) (by decide) dX6_back_21 ?_
          exact r_iret K hr (⟨by rw [backR, if_pos rfl, if_neg (by omega)], rfl, same_rf _ _ _ _ _, by rw [backF, if_neg (fun z => by omega), if_neg (fun z => absurd z.1 (by decide))]; exact hF⟩) dX6_back_23
      · refine r_aload_n K 0 rfl rfl dX6_back_12 ?_
        refine get_61_4 K fl_RX6_34 dX6_back_13 ?_
        refine r_iload_n K 1 rfl rfl dX6_back_16 ?_
        refine r_zald K 27 (n := 2) (by decide) rfl rfl (by decide) (by omega) dX6_back_17 ?_
        refine r_topi (b := (nI (kf 1))) (hkf 1 (by decide)) ?_
        refine n_if_ne K 24 (by omega) dX6_back_18 (by decide) (fun h18 => ?_) (fun h18 => ?_)
        · refine r_aload_n K 0 rfl rfl dX6_back_24 ?_
          refine get_61_2 K fl_RX6_26 dX6_back_25 ?_
          refine r_aload_n K 0 rfl rfl dX6_back_28 ?_
          refine get_61_3 K fl_RX6_30 dX6_back_29 ?_
          refine r_iload_n K 1 rfl rfl dX6_back_32 ?_
          refine r_aald1 K dX6_back_33 ?_
          refine r_callV K 64 (As := [.ref (ad 66)]) (rest := []) mv_X0_copyFrom ml_RX6_170 (c_copy_64_66) (by decide) rfl rfl rfl rfl (Nat.le_of_ble_eq_true rfl) ⟨by decide, by decide⟩ dX6_back_34 (fun r_ ad_ s_ h_ => ?_)
          obtain ⟨rfl, rfl, rfl⟩ := h_
          refine r_st (st' := []) rfl ?_
          have hcp := RepF_copy_64_66 (hK1)
          have hsm := same_copy_64_66 (σ := σ)
          generalize hcz : ((((((σ).sI 10 ((σ.I 12))).sA 12 (va_cpy ((σ).A 22) ((σ).A 12) 0 0 4)).sA 13 (va_cpy ((σ).A 23) ((σ).A 13) 0 0 4)).sA 14 (va_cpy ((σ).A 24) ((σ).A 14) 0 0 4)).sA 15 (va_cpy ((σ).A 25) ((σ).A 15) 0 0 4)).sA 16 (va_cpy ((σ).A 26) ((σ).A 16) 0 0 4) = s3 at hcp hsm ⊢
          refine r_aload_n K 0 rfl rfl dX6_back_37 ?_
          refine get_61_2 K fl_RX6_26 dX6_back_38 ?_
          refine get_64_0 K fl_RX6_140 dX6_back_41 ?_
          refine r_topi (b := (nI (K1 5 0))) (hcp.2) ?_
          exact r_iret K hr (⟨by rw [backR, if_neg (by decide), if_pos rfl, if_pos (by omega)], rfl, hsm, by rw [backF, if_neg (fun z => absurd z.1 (by decide)), if_pos ⟨rfl, by omega⟩]; exact hcp⟩) dX6_back_44
        · refine r_bipush K ((-4)) (by decide) dX6_back_21 ?_
          exact r_iret K hr (⟨by rw [backR, if_neg (by decide), if_pos rfl, if_neg (by omega)], rfl, same_rf _ _ _ _ _, by rw [backF, if_neg (fun z => absurd z.1 (by decide)), if_neg (fun z => by omega)]; exact hF⟩) dX6_back_23
    · refine r_bipush K ((-2)) (by decide) dX6_back_9 ?_
      exact r_iret K hr (⟨by rw [backR, if_neg (k01n (by first | exact Or.inl h1 | exact Or.inr h6)).1, if_neg (k01n (by first | exact Or.inl h1 | exact Or.inr h6)).2], rfl, same_rf _ _ _ _ _, by rw [backF, if_neg (fun z => (k01n (by first | exact Or.inl h1 | exact Or.inr h6)).1 z.1), if_neg (fun z => (k01n (by first | exact Or.inl h1 | exact Or.inr h6)).2 z.1)]; exact hF⟩) dX6_back_11
