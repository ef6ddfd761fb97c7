theorem need_lt {w j : Nat} (h : (w ≤ 2 ∧ j < 2) ∨ ((w = 4 ∨ w = 5) ∧ j < 5) ∨ ((w = 6 ∨ w = 7) ∧ j < 1)) : j < needS w := by
  unfold needS
  rcases h with h | h | h
  · rw [if_pos h.1]; exact h.2
  · rw [if_neg (by omega), if_neg (by omega), if_pos (by omega)]; exact h.2
  · rw [if_neg (by omega), if_neg (by omega), if_neg (by omega)]; exact h.2
theorem RepC_reach {T : Tv} {σ : Sg} {w : Nat} {N : Nat → Nat} (hR : RepC T σ) (hw : w ≤ 2) : RepC (tellS T w N) ((((σ.sA 2 (upd (σ.A 2) (T 10 0) (nI w))).sA 0 (upd (σ.A 0) (T 10 0) (nI (N 1)))).sA 1 (upd (σ.A 1) (T 10 0) (nI (N 2)))).sI 0 (nI (T 10 0 + 1))) := by
  have e : ∀ k i, tellS T w N k i = (if k = 10 then T 10 0 + 1 else if i = T 10 0 then (if k = 0 then N 1 else if k = 1 then N 2 else if k = 2 then w else T k i) else T k i) := fun k i => by unfold tellS; rw [if_pos hw]
  refine ⟨by rw [sI_at, e, if_pos rfl], ?_, fun k hk i hi => ?_⟩
  · rw [sI_ne _ _ (by decide), sA_I, sA_I, sA_I, e, if_neg (by decide), if_neg (by decide : ¬ (11 = 0)), if_neg (by decide : ¬ (11 = 1)), if_neg (by decide : ¬ (11 = 2)), ite_self]
    exact hR.2.1
  · have h0 := hR.2.2 k hk i hi
    rw [e, if_neg (by omega), sI_A, sA_A, sA_A, sA_A]
    by_cases k1 : k = 1
    · subst k1
      rw [if_pos rfl]
      unfold upd
      by_cases q : i = T 10 0
      · rw [if_pos q, if_pos q, if_neg (by decide), if_pos rfl]
      · rw [if_neg q, if_neg q]; exact h0
    · rw [if_neg k1]
      by_cases k0 : k = 0
      · subst k0
        rw [if_pos rfl]
        unfold upd
        by_cases q : i = T 10 0
        · rw [if_pos q, if_pos q, if_pos rfl]
        · rw [if_neg q, if_neg q]; exact h0
      · rw [if_neg k0]
        by_cases k2 : k = 2
        · subst k2
          rw [if_pos rfl]
          unfold upd
          by_cases q : i = T 10 0
          · rw [if_pos q, if_pos q, if_neg k0, if_neg k1, if_pos rfl]
          · rw [if_neg q, if_neg q]; exact h0
        · rw [if_neg k2, if_neg k0, if_neg k1, if_neg k2, ite_self]; exact h0
theorem RepC_barge {T : Tv} {σ : Sg} {N : Nat → Nat} (hR : RepC T σ) : RepC (tellS T 5 N) (((((σ.sA 5 (upd (σ.A 5) (N 1) (nI 1))).sA 6 (upd (σ.A 6) (N 1) (nI (N 2)))).sA 7 (upd (σ.A 7) (N 1) (nI (N 3)))).sA 8 (upd (σ.A 8) (N 1) (nI (N 4)))).sA 9 (upd (σ.A 9) (N 1) (nI (N 5)))) := by
  have e : ∀ k i, tellS T 5 N k i = (if i = N 1 then (if k = 5 then 1 else if k = 6 then N 2 else if k = 7 then N 3 else if k = 8 then N 4 else if k = 9 then N 5 else T k i) else T k i) := fun k i => by unfold tellS; rw [if_neg (by decide), if_neg (by decide), if_neg (by decide), if_pos rfl]
  refine ⟨by rw [e]; simp; exact hR.1, by rw [e]; simp; exact hR.2.1, fun k hk i hi => ?_⟩
  have h0 := hR.2.2 k hk i hi
  rw [e, sA_A, sA_A, sA_A, sA_A, sA_A]
  by_cases q : i = N 1
  · rw [if_pos q]
    by_cases k9 : k = 9
    · subst k9; rw [if_pos rfl, if_neg (by decide), if_neg (by decide), if_neg (by decide), if_neg (by decide), if_pos rfl]; unfold upd; rw [if_pos q]
    · rw [if_neg k9]
      by_cases k8 : k = 8
      · subst k8; rw [if_pos rfl, if_neg (by decide), if_neg (by decide), if_neg (by decide), if_pos rfl]; unfold upd; rw [if_pos q]
      · rw [if_neg k8]
        by_cases k7 : k = 7
        · subst k7; rw [if_pos rfl, if_neg (by decide), if_neg (by decide), if_pos rfl]; unfold upd; rw [if_pos q]
        · rw [if_neg k7]
          by_cases k6 : k = 6
          · subst k6; rw [if_pos rfl, if_neg (by decide), if_pos rfl]; unfold upd; rw [if_pos q]
          · rw [if_neg k6]
            by_cases k5 : k = 5
            · subst k5; rw [if_pos rfl, if_pos rfl]; unfold upd; rw [if_pos q]
            · rw [if_neg k5, if_neg k5, if_neg k6, if_neg k7, if_neg k8, if_neg k9]; exact h0
  · rw [if_neg q]
    have u : ∀ f : Nat → Int32, ∀ v, upd f (N 1) v i = f i := fun f v => by unfold upd; rw [if_neg q]
    by_cases k9 : k = 9
    · subst k9; rw [if_pos rfl, u]; exact h0
    · rw [if_neg k9]
      by_cases k8 : k = 8
      · subst k8; rw [if_pos rfl, u]; exact h0
      · rw [if_neg k8]
        by_cases k7 : k = 7
        · subst k7; rw [if_pos rfl, u]; exact h0
        · rw [if_neg k7]
          by_cases k6 : k = 6
          · subst k6; rw [if_pos rfl, u]; exact h0
          · rw [if_neg k6]
            by_cases k5 : k = 5
            · subst k5; rw [if_pos rfl, u]; exact h0
            · rw [if_neg k5]; exact h0
theorem RepC_sold {T : Tv} {σ : Sg} {N : Nat → Nat} (hR : RepC T σ) : RepC (tellS T 6 N) (σ.sA 5 (upd (σ.A 5) (N 1) (nI 0))) := by
  have e : ∀ k i, tellS T 6 N k i = (if k = 5 ∧ i = N 1 then 0 else T k i) := fun k i => by unfold tellS; rw [if_neg (by decide), if_neg (by decide), if_neg (by decide), if_neg (by decide), if_pos rfl]
  refine ⟨by rw [e]; simp; exact hR.1, by rw [e]; simp; exact hR.2.1, fun k hk i hi => ?_⟩
  have h0 := hR.2.2 k hk i hi
  rw [e, sA_A]
  by_cases k5 : k = 5
  · subst k5
    rw [if_pos rfl]
    unfold upd
    by_cases q : i = N 1
    · rw [if_pos q, if_pos ⟨rfl, q⟩]
    · rw [if_neg q, if_neg (fun z => q z.2)]; exact h0
  · rw [if_neg k5, if_neg (fun z => k5 z.1)]; exact h0
theorem RepC_still {T : Tv} {σ : Sg} {N : Nat → Nat} (hR : RepC T σ) : RepC (tellS T 7 N) (σ.sI 1 (nI (N 1))) := by
  have e : ∀ k i, tellS T 7 N k i = (if k = 11 then N 1 else T k i) := fun k i => by unfold tellS; rw [if_neg (by decide), if_neg (by decide), if_neg (by decide), if_neg (by decide), if_neg (by decide), if_pos rfl]
  exact ⟨by rw [sI_ne _ _ (by decide), e]; simp; exact hR.1, by rw [sI_at, e, if_pos rfl], fun k hk i hi => by rw [e, if_neg (by omega)]; exact hR.2.2 k hk i hi⟩
theorem RepC_dry {T : Tv} {σ : Sg} {N : Nat → Nat} (hR : RepC T σ) : RepC (tellS T 3 N) (σ.sI 0 (nI 0)) := by
  have e : ∀ k i, tellS T 3 N k i = (if k = 10 then 0 else T k i) := fun k i => by unfold tellS; rw [if_neg (by decide), if_pos rfl]
  exact ⟨by rw [sI_at, e, if_pos rfl], by rw [sI_ne _ _ (by decide), e]; simp; exact hR.2.1, fun k hk i hi => by rw [e, if_neg (by omega)]; exact hR.2.2 k hk i hi⟩
def windI (T : Tv) (N : Nat → Nat) (h : Nat) (σ s : Sg) : Prop := same [3, 4] [] [] false σ s ∧ ∀ k, (k = 3 ∨ k = 4) → ∀ i, i < 144 → s.A k i = nI (if 24 * N 1 + N 2 ≤ i ∧ i < 24 * N 1 + h then N (k + 1) else T k i)
theorem windI_0 {T : Tv} {N : Nat → Nat} {σ : Sg} (hR : RepC T σ) : windI T N (N 2) σ σ := by
  refine ⟨same_rf _ _ _ _ _, fun k hk i hi => ?_⟩
  rw [if_neg (by omega)]
  rcases hk with rfl | rfl
  · exact hR.2.2 3 (by decide) i hi
  · exact hR.2.2 4 (by decide) i hi
theorem windI_s {T : Tv} {N : Nat → Nat} {h : Nat} {σ s : Sg} (hI : windI T N h σ s) (hh : N 2 ≤ h) : windI T N (h + 1) σ ((s.sA 3 (upd (s.A 3) (24 * N 1 + h) (nI (N 4)))).sA 4 (upd (s.A 4) (24 * N 1 + h) (nI (N 5)))) := by
  refine ⟨same_sA (same_sA hI.1 (by simp) _) (by simp) _, fun k hk i hi => ?_⟩
  have h0 := hI.2 k hk i hi
  rw [sA_A, sA_A]
  rcases hk with rfl | rfl
  · rw [if_neg (by decide), if_pos rfl]
    unfold upd
    by_cases q : i = 24 * N 1 + h
    · rw [if_pos q, if_pos (by omega)]
    · rw [if_neg q, h0]
      by_cases z : 24 * N 1 + N 2 ≤ i ∧ i < 24 * N 1 + h
      · rw [if_pos z, if_pos (by omega)]
      · rw [if_neg z, if_neg (by omega)]
  · rw [if_pos rfl]
    unfold upd
    by_cases q : i = 24 * N 1 + h
    · rw [if_pos q, if_pos (by omega)]
    · rw [if_neg q, h0]
      by_cases z : 24 * N 1 + N 2 ≤ i ∧ i < 24 * N 1 + h
      · rw [if_pos z, if_pos (by omega)]
      · rw [if_neg z, if_neg (by omega)]
theorem windI_end {T : Tv} {N : Nat → Nat} {σ s : Sg} (hR : RepC T σ) (hI : windI T N (N 3 + 1) σ s) : RepC (tellS T 4 N) s := by
  have e : ∀ k i, tellS T 4 N k i = (if 24 * N 1 + N 2 ≤ i ∧ i ≤ 24 * N 1 + N 3 then (if k = 3 then N 4 else if k = 4 then N 5 else T k i) else T k i) := fun k i => by unfold tellS; rw [if_neg (by decide), if_neg (by decide), if_pos rfl]
  refine ⟨by rw [hI.1.2.1 0 (by simp), e]; simp; exact hR.1, by rw [hI.1.2.1 1 (by simp), e]; simp; exact hR.2.1, fun k hk i hi => ?_⟩
  rw [e]
  have hle : (24 * N 1 + N 2 ≤ i ∧ i < 24 * N 1 + (N 3 + 1)) = (24 * N 1 + N 2 ≤ i ∧ i ≤ 24 * N 1 + N 3) := propext ⟨fun z => by omega, fun z => by omega⟩
  by_cases k3 : k = 3
  · subst k3
    rw [hI.2 3 (Or.inl rfl) i hi]
    simp only [hle, if_true]
  · by_cases k4 : k = 4
    · subst k4
      rw [hI.2 4 (Or.inr rfl) i hi]
      simp only [hle, if_neg k3, if_true]
    · rw [hI.1.1 k (by simp; omega), if_neg k3, if_neg k4, ite_self]
      exact hR.2.2 k hk i hi
set_option maxHeartbeats 400000 in
set_option maxRecDepth 10000 in
theorem c_addReach {g : Gp} {lau : Launch} {ad : Nat → Nat} {σ : Sg} {T : Tv} (hT : TOk T) (hR : RepC T σ) {k a b : Nat} (hn8 : T 10 0 < 8) : Con g lau yX4_addReach cX4_addReach 4 (Option.none : Option Jvm.ClassFile.FieldType) 0 0 [.ref (ad 62), .int (nI (k)), .int (nI (a)), .int (nI (b))] ad σ (ex none ad (((((σ).sA 2 (upd ((σ).A 2) (T 10 0) ((nI (k))))).sA 0 (upd ((σ).A 0) (T 10 0) ((nI (a))))).sA 1 (upd ((σ).A 1) (T 10 0) ((nI (b))))).sI 0 ((nI ((T 10 0) + 1))))) := by
  refine con_mk (by decide) (Nat.le_of_ble_eq_true rfl) (fun x hxl K hr => ?_)
  subst hxl
  refine r_lv (lv' := [(0, .ref (ad 62)), (1, .int (nI (k))), (2, .int (nI (a))), (3, .int (nI (b)))]) rfl ?_
  refine r_aload_n K 0 rfl rfl dX4_addReach_0 ?_
  refine get_62_0 K fl_RX4_9 dX4_addReach_1 ?_
  refine r_topi (b := (nI (T 10 0))) (hR.1) ?_
  refine r_bipush K ((nI (8))) (by decide) dX4_addReach_4 ?_
  refine n_icmp_lt K 10 (by omega) (by omega) dX4_addReach_6 (by decide) (fun h6 => ?_) (fun h6 => absurd h6 (by omega))
  refine r_aload_n K 0 rfl rfl dX4_addReach_10 ?_
  refine get_62_4 K fl_RX4_25 dX4_addReach_11 ?_
  refine r_aload_n K 0 rfl rfl dX4_addReach_14 ?_
  refine get_62_0 K fl_RX4_9 dX4_addReach_15 ?_
  refine r_topi (b := (nI (T 10 0))) (hR.1) ?_
  refine r_iload_n K 1 rfl rfl dX4_addReach_18 ?_
  refine r_iast K 2 (n := 8) (by decide) rfl rfl (by decide) (by omega) dX4_addReach_19 ?_
  refine r_aload_n K 0 rfl rfl dX4_addReach_20 ?_
  refine get_62_2 K fl_RX4_18 dX4_addReach_21 ?_
  refine r_aload_n K 0 rfl rfl dX4_addReach_24 ?_
  refine get_62_0 K fl_RX4_9 dX4_addReach_25 ?_
  refine r_topi (b := σ.I 0) rfl ?_
  refine r_topi (b := (nI (T 10 0))) (hR.1) ?_
  refine r_iload_n K 2 rfl rfl dX4_addReach_28 ?_
  refine r_iast K 0 (n := 8) (by decide) rfl rfl (by decide) (by omega) dX4_addReach_29 ?_
  refine r_w (σ2 := ((σ).sA 2 (upd ((σ).A 2) (T 10 0) ((nI (k))))).sA 0 (upd ((σ).A 0) (T 10 0) ((nI (a))))) rfl ?_
  refine r_aload_n K 0 rfl rfl dX4_addReach_30 ?_
  refine get_62_3 K fl_RX4_22 dX4_addReach_31 ?_
  refine r_aload_n K 0 rfl rfl dX4_addReach_34 ?_
  refine get_62_0 K fl_RX4_9 dX4_addReach_35 ?_
  refine r_topi (b := σ.I 0) rfl ?_
  refine r_topi (b := (nI (T 10 0))) (hR.1) ?_
  refine r_iload_n K 3 rfl rfl dX4_addReach_38 ?_
  refine r_iast K 1 (n := 8) (by decide) rfl rfl (by decide) (by omega) dX4_addReach_39 ?_
  refine r_w (σ2 := (((σ).sA 2 (upd ((σ).A 2) (T 10 0) ((nI (k))))).sA 0 (upd ((σ).A 0) (T 10 0) ((nI (a))))).sA 1 (upd ((σ).A 1) (T 10 0) ((nI (b))))) rfl ?_
  refine r_aload_n K 0 rfl rfl dX4_addReach_40 ?_
  refine r_dup K rfl dX4_addReach_41 ?_
  refine get_62_0 K fl_RX4_9 dX4_addReach_42 ?_
  refine r_topi (b := σ.I 0) rfl ?_
  refine r_topi (b := (nI (T 10 0))) (hR.1) ?_
  refine r_iconst K ((nI (1))) (by decide) dX4_addReach_45 ?_
  refine r_iadd K dX4_addReach_46 ?_
  refine r_topi (nI_add _ _) ?_
  refine put_62_0 K fl_RX4_9 dX4_addReach_47 ?_
  exact r_vret K hr (⟨rfl, rfl, rfl⟩) dX4_addReach_50

set_option maxHeartbeats 400000 in
set_option maxRecDepth 10000 in
theorem c_tellBarge {g : Gp} {lau : Launch} {ad : Nat → Nat} {σ : Sg} {T : Tv} (hT : TOk T) (hR : RepC T σ) {N : Nat → Nat} (hN : ∀ j, j < 5 → σ.A 11 j = nI (N (j + 1))) (h1 : N 1 ≤ 3) : Con g lau yX4_tellBarge cX4_tellBarge 3 (Option.none : Option Jvm.ClassFile.FieldType) 0 0 [.ref (ad 62), .ref (ad 11)] ad σ (ex none ad ((((((σ).sA 5 (upd ((σ).A 5) (N 1) ((nI (1))))).sA 6 (upd ((σ).A 6) (N 1) ((nI (N 2))))).sA 7 (upd ((σ).A 7) (N 1) ((nI (N 3))))).sA 8 (upd ((σ).A 8) (N 1) ((nI (N 4))))).sA 9 (upd ((σ).A 9) (N 1) ((nI (N 5)))))) := by
  refine con_mk (by decide) (Nat.le_of_ble_eq_true rfl) (fun x hxl K hr => ?_)
  subst hxl
  refine r_lv (lv' := [(0, .ref (ad 62)), (1, .ref (ad 11))]) rfl ?_
  refine r_aload_n K 1 rfl rfl dX4_tellBarge_0 ?_
  refine r_iconst K ((nI (0))) (by decide) dX4_tellBarge_1 ?_
  refine r_iald K 11 (n := 5) (by decide) rfl rfl (by decide) (by omega) dX4_tellBarge_2 ?_
  refine r_topi (b := (nI (N 1))) (hN 0 (by decide)) ?_
  refine r_istore_n K (lv' := [(2, .int (nI (N 1))), (0, .ref (ad 62)), (1, .ref (ad 11))]) 2 rfl (by decide) rfl dX4_tellBarge_3 ?_
  refine r_aload_n K 0 rfl rfl dX4_tellBarge_4 ?_
  refine get_62_7 K fl_RX4_34 dX4_tellBarge_5 ?_
  refine r_iload_n K 2 rfl rfl dX4_tellBarge_8 ?_
  refine r_iconst K ((nI (1))) (by decide) dX4_tellBarge_9 ?_
  refine r_zast K 5 (n := 4) (by decide) rfl rfl (by decide) (by omega) (nar1) dX4_tellBarge_10 ?_
  refine r_aload_n K 0 rfl rfl dX4_tellBarge_11 ?_
  refine get_62_8 K fl_RX4_38 dX4_tellBarge_12 ?_
  refine r_iload_n K 2 rfl rfl dX4_tellBarge_15 ?_
  refine r_aload_n K 1 rfl rfl dX4_tellBarge_16 ?_
  refine r_iconst K ((nI (1))) (by decide) dX4_tellBarge_17 ?_
  refine r_iald K 11 (n := 5) (by decide) rfl rfl (by decide) (by omega) dX4_tellBarge_18 ?_
  refine r_topi (b := σ.A 11 (1)) rfl ?_
  refine r_topi (b := (nI (N 2))) (hN 1 (by decide)) ?_
  refine r_iast K 6 (n := 4) (by decide) rfl rfl (by decide) (by omega) dX4_tellBarge_19 ?_
  refine r_w (σ2 := ((σ).sA 5 (upd ((σ).A 5) (N 1) ((nI (1))))).sA 6 (upd ((σ).A 6) (N 1) ((nI (N 2))))) rfl ?_
  refine r_aload_n K 0 rfl rfl dX4_tellBarge_20 ?_
  refine get_62_9 K fl_RX4_41 dX4_tellBarge_21 ?_
  refine r_iload_n K 2 rfl rfl dX4_tellBarge_24 ?_
  refine r_aload_n K 1 rfl rfl dX4_tellBarge_25 ?_
  refine r_iconst K ((nI (2))) (by decide) dX4_tellBarge_26 ?_
  refine r_iald K 11 (n := 5) (by decide) rfl rfl (by decide) (by omega) dX4_tellBarge_27 ?_
  refine r_topi (b := σ.A 11 (2)) rfl ?_
  refine r_topi (b := (nI (N 3))) (hN 2 (by decide)) ?_
  refine r_iast K 7 (n := 4) (by decide) rfl rfl (by decide) (by omega) dX4_tellBarge_28 ?_
  refine r_w (σ2 := (((σ).sA 5 (upd ((σ).A 5) (N 1) ((nI (1))))).sA 6 (upd ((σ).A 6) (N 1) ((nI (N 2))))).sA 7 (upd ((σ).A 7) (N 1) ((nI (N 3))))) rfl ?_
  refine r_aload_n K 0 rfl rfl dX4_tellBarge_29 ?_
  refine get_62_10 K fl_RX4_44 dX4_tellBarge_30 ?_
  refine r_iload_n K 2 rfl rfl dX4_tellBarge_33 ?_
  refine r_aload_n K 1 rfl rfl dX4_tellBarge_34 ?_
  refine r_iconst K ((nI (3))) (by decide) dX4_tellBarge_35 ?_
  refine r_iald K 11 (n := 5) (by decide) rfl rfl (by decide) (by omega) dX4_tellBarge_36 ?_
  refine r_topi (b := σ.A 11 (3)) rfl ?_
  refine r_topi (b := (nI (N 4))) (hN 3 (by decide)) ?_
  refine r_iast K 8 (n := 4) (by decide) rfl rfl (by decide) (by omega) dX4_tellBarge_37 ?_
  refine r_w (σ2 := ((((σ).sA 5 (upd ((σ).A 5) (N 1) ((nI (1))))).sA 6 (upd ((σ).A 6) (N 1) ((nI (N 2))))).sA 7 (upd ((σ).A 7) (N 1) ((nI (N 3))))).sA 8 (upd ((σ).A 8) (N 1) ((nI (N 4))))) rfl ?_
  refine r_aload_n K 0 rfl rfl dX4_tellBarge_38 ?_
  refine get_62_11 K fl_RX4_47 dX4_tellBarge_39 ?_
  refine r_iload_n K 2 rfl rfl dX4_tellBarge_42 ?_
  refine r_aload_n K 1 rfl rfl dX4_tellBarge_43 ?_
  refine r_iconst K ((nI (4))) (by decide) dX4_tellBarge_44 ?_
  refine r_iald K 11 (n := 5) (by decide) rfl rfl (by decide) (by omega) dX4_tellBarge_45 ?_
  refine r_topi (b := σ.A 11 (4)) rfl ?_
  refine r_topi (b := (nI (N 5))) (hN 4 (by decide)) ?_
  refine r_iast K 9 (n := 4) (by decide) rfl rfl (by decide) (by omega) dX4_tellBarge_46 ?_
  refine r_w (σ2 := (((((σ).sA 5 (upd ((σ).A 5) (N 1) ((nI (1))))).sA 6 (upd ((σ).A 6) (N 1) ((nI (N 2))))).sA 7 (upd ((σ).A 7) (N 1) ((nI (N 3))))).sA 8 (upd ((σ).A 8) (N 1) ((nI (N 4))))).sA 9 (upd ((σ).A 9) (N 1) ((nI (N 5))))) rfl ?_
  exact r_vret K hr (⟨rfl, rfl, rfl⟩) dX4_tellBarge_47

set_option maxHeartbeats 400000 in
set_option maxRecDepth 10000 in
theorem c_tellWind {g : Gp} {lau : Launch} {ad : Nat → Nat} {σ : Sg} {T : Tv} (hT : TOk T) (hR : RepC T σ) {N : Nat → Nat} (hN : ∀ j, j < 5 → σ.A 11 j = nI (N (j + 1))) (hO : N 1 ≤ 5 ∧ N 2 ≤ 23 ∧ N 2 ≤ N 3 ∧ N 3 ≤ 23 ∧ N 4 ≤ 7 ∧ N 5 ≤ 9) : Con g lau yX4_tellWind cX4_tellWind 3 (Option.none : Option Jvm.ClassFile.FieldType) 0 0 [.ref (ad 62), .ref (ad 11)] ad σ (fun r a2 s2 => none = r ∧ ad = a2 ∧ same [3, 4] [] [] false σ s2 ∧ RepC (tellS T 4 N) s2) := by
  refine con_mk (by decide) (Nat.le_of_ble_eq_true rfl) (fun x hxl K hr => ?_)
  subst hxl
  refine r_lv (lv' := [(0, .ref (ad 62)), (1, .ref (ad 11))]) rfl ?_
  refine r_aload_n K 1 rfl rfl dX4_tellWind_0 ?_
  refine r_iconst K ((nI (1))) (by decide) dX4_tellWind_1 ?_
  refine r_iald K 11 (n := 5) (by decide) rfl rfl (by decide) (by omega) dX4_tellWind_2 ?_
  refine r_topi (b := (nI (N 2))) (hN 1 (by decide)) ?_
  refine r_istore_n K (lv' := [(2, .int (nI (N 2))), (0, .ref (ad 62)), (1, .ref (ad 11))]) 2 rfl (by decide) rfl dX4_tellWind_3 ?_
  refine r_pick [1, 2, 0] (lv' := [(0, .ref (ad 62)), (1, .ref (ad 11)), (2, .int (nI (N 2)))]) rfl ?_
  have lpA : ∀ (mm_ : Nat) (h : Nat) (s1 : Sg), mm_ = N 3 + 1 - h → (N 2 ≤ h ∧ h ≤ N 3 + 1) → (windI T N h σ s1) → GJ g x 3 4 [(0, .ref (ad 62)), (1, .ref (ad 11)), (2, .int (nI (h)))] [] ad (s1) := by
    intro mm_
    induction mm_ using Nat.strongRecOn with
    | _ mm_ ihA =>
      intro h s1 hmA hh hI
      refine r_iload_n K 2 rfl rfl dX4_tellWind_4 ?_
      refine r_aload_n K 1 rfl rfl dX4_tellWind_5 ?_
      refine r_iconst K ((nI (2))) (by decide) dX4_tellWind_6 ?_
      refine r_iald K 11 (n := 5) (by decide) rfl rfl (by decide) (by omega) dX4_tellWind_7 ?_
      refine r_topi (b := (nI (N 3))) (by rw [hI.1.1 11 (by simp)]; exact hN 2 (by decide)) ?_
      refine n_icmp_gt K 49 (by omega) (by omega) dX4_tellWind_8 (by decide) (fun h8 => ?_) (fun h8 => ?_)
      · exact r_vret K hr (⟨rfl, rfl, hI.1, windI_end hR ((show h = N 3 + 1 by omega) ▸ hI)⟩) dX4_tellWind_49
      · refine r_aload_n K 0 rfl rfl dX4_tellWind_11 ?_
        refine get_62_5 K fl_RX4_28 dX4_tellWind_12 ?_
        refine r_aload_n K 1 rfl rfl dX4_tellWind_15 ?_
        refine r_iconst K ((nI (0))) (by decide) dX4_tellWind_16 ?_
        refine r_iald K 11 (n := 5) (by decide) rfl rfl (by decide) (by omega) dX4_tellWind_17 ?_
        refine r_topi (b := (nI (N 1))) (by rw [hI.1.1 11 (by simp)]; exact hN 0 (by decide)) ?_
        refine r_bipush K ((nI (24))) (by decide) dX4_tellWind_18 ?_
        refine r_imul K dX4_tellWind_20 ?_
        refine r_topi (pk_mul _ _) ?_
        refine r_iload_n K 2 rfl rfl dX4_tellWind_21 ?_
        refine r_iadd K dX4_tellWind_22 ?_
        refine r_topi (nI_add _ _) ?_
        refine r_aload_n K 1 rfl rfl dX4_tellWind_23 ?_
        refine r_iconst K ((nI (3))) (by decide) dX4_tellWind_24 ?_
        refine r_iald K 11 (n := 5) (by decide) rfl rfl (by decide) (by omega) dX4_tellWind_25 ?_
        refine r_topi (b := (nI (N 4))) (by rw [hI.1.1 11 (by simp)]; exact hN 3 (by decide)) ?_
        refine r_iast K 3 (n := 144) (by decide) rfl rfl (by decide) (by omega) dX4_tellWind_26 ?_
        refine r_aload_n K 0 rfl rfl dX4_tellWind_27 ?_
        refine get_62_6 K fl_RX4_31 dX4_tellWind_28 ?_
        refine r_aload_n K 1 rfl rfl dX4_tellWind_31 ?_
        refine r_iconst K ((nI (0))) (by decide) dX4_tellWind_32 ?_
        refine r_iald K 11 (n := 5) (by decide) rfl rfl (by decide) (by omega) dX4_tellWind_33 ?_
        refine r_topi (b := s1.A 11 (0)) rfl ?_
        refine r_topi (b := (nI (N 1))) (by rw [hI.1.1 11 (by simp)]; exact hN 0 (by decide)) ?_
        refine r_bipush K ((nI (24))) (by decide) dX4_tellWind_34 ?_
        refine r_imul K dX4_tellWind_36 ?_
        refine r_topi (pk_mul _ _) ?_
        refine r_iload_n K 2 rfl rfl dX4_tellWind_37 ?_
        refine r_iadd K dX4_tellWind_38 ?_
        refine r_topi (nI_add _ _) ?_
        refine r_aload_n K 1 rfl rfl dX4_tellWind_39 ?_
        refine r_iconst K ((nI (4))) (by decide) dX4_tellWind_40 ?_
        refine r_iald K 11 (n := 5) (by decide) rfl rfl (by decide) (by omega) dX4_tellWind_41 ?_
        refine r_topi (b := s1.A 11 (4)) rfl ?_
        refine r_topi (b := (nI (N 5))) (by rw [hI.1.1 11 (by simp)]; exact hN 4 (by decide)) ?_
        refine r_iast K 4 (n := 144) (by decide) rfl rfl (by decide) (by omega) dX4_tellWind_42 ?_
        refine r_w (σ2 := ((s1).sA 3 (upd ((s1).A 3) (((N 1) * 24) + h) ((nI (N 4))))).sA 4 (upd ((s1).A 4) (((N 1) * 24) + h) ((nI (N 5))))) rfl ?_
        refine r_iinc K ((nI (h + 1))) rfl (nI_1 _) (lv' := [(2, .int (nI (h + 1))), (0, .ref (ad 62)), (1, .ref (ad 11))]) (by decide) rfl dX4_tellWind_43 ?_
        refine r_goto K 4 dX4_tellWind_46 (by decide) ?_
        refine r_pick [1, 2, 0] (lv' := [(0, .ref (ad 62)), (1, .ref (ad 11)), (2, .int (nI (h + 1)))]) rfl ?_
        exact ihA _ (by omega) (h + 1) (((s1).sA 3 (upd ((s1).A 3) (((N 1) * 24) + h) ((nI (N 4))))).sA 4 (upd ((s1).A 4) (((N 1) * 24) + h) ((nI (N 5))))) rfl (by omega) (by rw [show N 1 * 24 + h = 24 * N 1 + h by omega]; exact windI_s hI hh.1)
  exact lpA _ (N 2) (σ) rfl (by omega) (windI_0 hR)

set_option maxHeartbeats 400000 in
set_option maxRecDepth 10000 in
theorem c_tell {g : Gp} {lau : Launch} {ad : Nat → Nat} {σ : Sg} {T : Tv} (hT : TOk T) (hR : RepC T σ) {N : Nat → Nat} {w : Nat} (hO : NOk T w N) (hN : ∀ j, j < needS w → σ.A 11 j = nI (N (j + 1))) : Con g lau yX4_tell cX4_tell 3 (Option.none : Option Jvm.ClassFile.FieldType) 1 23 [.ref (ad 62), .int (nI (w)), .ref (ad 11)] ad σ (fun r a2 s2 => none = r ∧ ad = a2 ∧ same [0, 1, 2, 3, 4, 5, 6, 7, 8, 9] [0, 1] [] false σ s2 ∧ RepC (tellS T w N) s2) := by
  refine con_mk (by decide) (Nat.le_of_ble_eq_true rfl) (fun x hxl K hr => ?_)
  subst hxl
  refine r_lv (lv' := [(0, .ref (ad 62)), (1, .int (nI (w))), (2, .ref (ad 11))]) rfl ?_
  have hw7 := hO.2.2.2.2.2
  refine r_iload_n K 1 rfl rfl dX4_tell_0 ?_
  by_cases q1_3 : w = 3
  · refine r_topi (b := nI 3) (by rw [q1_3]) ?_
    refine r_tableIn K 36 dX4_tell_1 (by decide) (by decide) rfl (by decide) ?_
    refine r_aload_n K 0 rfl rfl dX4_tell_36 ?_
    refine r_iconst K ((nI (0))) (by decide) dX4_tell_37 ?_
    refine put_62_0 K fl_RX4_9 dX4_tell_38 ?_
    refine r_goto K 93 dX4_tell_41 (by decide) ?_
    exact r_vret K hr (⟨rfl, rfl, same_sI (same_rf _ _ _ _ _) (by simp) _, by rw [q1_3]; exact RepC_dry hR⟩) dX4_tell_93
  · by_cases q1_4 : w = 4
    · refine r_topi (b := nI 4) (by rw [q1_4]) ?_
      refine r_tableIn K 44 dX4_tell_1 (by decide) (by decide) rfl (by decide) ?_
      refine r_aload_n K 0 rfl rfl dX4_tell_44 ?_
      refine r_aload_n K 2 rfl rfl dX4_tell_45 ?_
      refine r_callV K 62 (As := [.ref (ad 11)]) (rest := []) mv_X4_tellWind ml_RX4_50 (c_tellWind hT hR (N := N) (fun j hj => hN j (need_lt (by omega))) (hO.2.1 (by omega))) (by decide) rfl rfl rfl rfl (Nat.le_of_ble_eq_true rfl) ⟨by decide, by decide⟩ dX4_tell_46 (fun r_ ad_ s_ h_ => ?_)
      obtain ⟨rfl, rfl, hs4, hR4⟩ := h_
      refine r_st (st' := []) rfl ?_
      refine r_goto K 93 dX4_tell_49 (by decide) ?_
      exact r_vret K hr (⟨rfl, rfl, same_w hs4 (by simp) (by simp) (by simp) id, by rw [q1_4]; exact hR4⟩) dX4_tell_93
    · by_cases q1_5 : w = 5
      · refine r_topi (b := nI 5) (by rw [q1_5]) ?_
        refine r_tableIn K 52 dX4_tell_1 (by decide) (by decide) rfl (by decide) ?_
        refine r_aload_n K 0 rfl rfl dX4_tell_52 ?_
        refine r_aload_n K 2 rfl rfl dX4_tell_53 ?_
        refine r_callV K 62 (As := [.ref (ad 11)]) (rest := []) mv_X4_tellBarge ml_RX4_54 (c_tellBarge hT hR (N := N) (fun j hj => hN j (need_lt (by omega))) (hO.2.2.1 (by omega)).1) (by decide) rfl rfl rfl rfl (Nat.le_of_ble_eq_true rfl) ⟨by decide, by decide⟩ dX4_tell_54 (fun r_ ad_ s_ h_ => ?_)
        obtain ⟨rfl, rfl, rfl⟩ := h_
        refine r_st (st' := []) rfl ?_
        refine r_goto K 93 dX4_tell_57 (by decide) ?_
        exact r_vret K hr (⟨rfl, rfl, same_sA (same_sA (same_sA (same_sA (same_sA (same_rf _ _ _ _ _) (by simp) _) (by simp) _) (by simp) _) (by simp) _) (by simp) _, by rw [q1_5]; exact RepC_barge hR⟩) dX4_tell_93
      · by_cases q1_6 : w = 6
        · refine r_topi (b := nI 6) (by rw [q1_6]) ?_
          refine r_tableIn K 60 dX4_tell_1 (by decide) (by decide) rfl (by decide) ?_
          have hb3 := hO.2.2.2.1 (by omega)
          refine r_aload_n K 0 rfl rfl dX4_tell_60 ?_
          refine get_62_7 K fl_RX4_34 dX4_tell_61 ?_
          refine r_aload_n K 2 rfl rfl dX4_tell_64 ?_
          refine r_iconst K ((nI (0))) (by decide) dX4_tell_65 ?_
          refine r_iald K 11 (n := 5) (by decide) rfl rfl (by decide) (by omega) dX4_tell_66 ?_
          refine r_topi (b := (nI (N 1))) (hN 0 (need_lt (by omega))) ?_
          refine r_iconst K ((nI (0))) (by decide) dX4_tell_67 ?_
          refine r_zast K 5 (n := 4) (by decide) rfl rfl (by decide) (by omega) (nar0) dX4_tell_68 ?_
          refine r_goto K 93 dX4_tell_69 (by decide) ?_
          exact r_vret K hr (⟨rfl, rfl, same_sA (same_rf _ _ _ _ _) (by simp) _, by rw [q1_6]; exact RepC_sold hR⟩) dX4_tell_93
        · by_cases q1_7 : w = 7
          · refine r_topi (b := nI 7) (by rw [q1_7]) ?_
            refine r_tableIn K 72 dX4_tell_1 (by decide) (by decide) rfl (by decide) ?_
            refine r_aload_n K 0 rfl rfl dX4_tell_72 ?_
            refine r_aload_n K 2 rfl rfl dX4_tell_73 ?_
            refine r_iconst K ((nI (0))) (by decide) dX4_tell_74 ?_
            refine r_iald K 11 (n := 5) (by decide) rfl rfl (by decide) (by omega) dX4_tell_75 ?_
            refine r_topi (b := (nI (N 1))) (hN 0 (need_lt (by omega))) ?_
            refine put_62_1 K fl_RX4_15 dX4_tell_76 ?_
            refine r_goto K 93 dX4_tell_79 (by decide) ?_
            exact r_vret K hr (⟨rfl, rfl, same_sI (same_rf _ _ _ _ _) (by simp) _, by rw [q1_7]; exact RepC_still hR⟩) dX4_tell_93
          · refine r_tableOut K 82 dX4_tell_1 (by rw [nI_toInt (by omega)]; omega) (by decide) ?_
            refine r_aload_n K 0 rfl rfl dX4_tell_82 ?_
            refine r_iload_n K 1 rfl rfl dX4_tell_83 ?_
            refine r_aload_n K 2 rfl rfl dX4_tell_84 ?_
            refine r_iconst K ((nI (0))) (by decide) dX4_tell_85 ?_
            refine r_iald K 11 (n := 5) (by decide) rfl rfl (by decide) (by omega) dX4_tell_86 ?_
            refine r_topi (b := (nI (N 1))) (hN 0 (need_lt (by omega))) ?_
            refine r_aload_n K 2 rfl rfl dX4_tell_87 ?_
            refine r_iconst K ((nI (1))) (by decide) dX4_tell_88 ?_
            refine r_iald K 11 (n := 5) (by decide) rfl rfl (by decide) (by omega) dX4_tell_89 ?_
            refine r_topi (b := (nI (N 2))) (hN 1 (need_lt (by omega))) ?_
            refine r_callV K 62 (As := [.int (nI (w)), .int (nI (N 1)), .int (nI (N 2))]) (rest := []) mv_X4_addReach ml_RX4_57 (c_addReach hT hR (k := w) (a := N 1) (b := N 2) (hO.1 (by omega)).1) (by decide) rfl rfl rfl rfl (Nat.le_of_ble_eq_true rfl) ⟨by decide, by decide⟩ dX4_tell_90 (fun r_ ad_ s_ h_ => ?_)
            obtain ⟨rfl, rfl, rfl⟩ := h_
            refine r_st (st' := []) rfl ?_
            exact r_vret K hr (⟨rfl, rfl, same_sI (same_sA (same_sA (same_sA (same_rf _ _ _ _ _) (by simp) _) (by simp) _) (by simp) _) (by simp) _, RepC_reach hR (by omega)⟩) dX4_tell_93

set_option maxHeartbeats 2000000 in
set_option maxRecDepth 10000 in
theorem c_read0 {g : Gp} {lau : Launch} {ad : Nat → Nat} {σ : Sg} {X : Tv} (hXo : XOk X) (hX : RepX 2 10 X σ) {T : Tv} (hT : TOk T) (hR : RepC T σ) (hI5 : ∃ a0, σ.I 5 = nI a0) : Con g lau yX5_read cX5_read 4 (Option.some .int) 8 168 [.ref (ad 63), .ref (ad 62), .int (nI (0))] ad σ (fun r a2 s2 => some (.int (if (rdS X T 7 0).1 = true then -1 else nI (rdS X T 7 0).2)) = r ∧ ad = a2 ∧ same [11] [3, 4, 5, 6, 7, 8, 9] [] false σ s2 ∧ ((rdS X T 7 0).1 = true → s2.I 3 = nI (rdS X T 7 0).2 ∧ True) ∧ ∃ a0, s2.I 5 = nI a0) := by
  refine con_mk (by decide) (Nat.le_of_ble_eq_true rfl) (fun x hxl K hr => ?_)
  subst hxl
  refine r_lv (lv' := [(0, .ref (ad 63)), (1, .ref (ad 62)), (2, .int (nI (0)))]) rfl ?_
  have hx200 := hXo.1
  refine r_aload_n K 0 rfl rfl dX5_read_0 ?_
  refine r_iconst K ((nI (0))) (by decide) dX5_read_1 ?_
  refine put_63_5 K fl_RX5_28 dX5_read_2 ?_
  refine r_aload_n K 0 rfl rfl dX5_read_5 ?_
  refine r_iconst K ((nI (0))) (by decide) dX5_read_6 ?_
  refine put_63_1 K fl_RX5_15 dX5_read_7 ?_
  refine r_aload_n K 0 rfl rfl dX5_read_10 ?_
  refine r_aload_n K 1 rfl rfl dX5_read_11 ?_
  refine get_62_0 K fl_RX5_45 dX5_read_12 ?_
  refine r_topi (b := σ.I 0) rfl ?_
  refine r_topi (b := (nI (T 10 0))) (hR.1) ?_
  refine put_63_9 K fl_RX5_40 dX5_read_15 ?_
  refine r_iconst K ((nI (0))) (by decide) dX5_read_18 ?_
  refine r_istore_n K (lv' := [(3, .int (nI (0))), (0, .ref (ad 63)), (1, .ref (ad 62)), (2, .int (nI (0)))]) 3 rfl (by decide) rfl dX5_read_19 ?_
  obtain ⟨a0, g5⟩ : ∃ a0, σ.I 5 = nI a0 := hI5
  refine r_pick [1, 2, 3, 0] (lv' := [(0, .ref (ad 63)), (1, .ref (ad 62)), (2, .int (nI (0))), (3, .int (nI (0)))]) rfl ?_
  have lpA : ∀ (mm_ : Nat) (k : Nat) (s1 : Sg) (a5 : Nat), mm_ = 8 - k → (k ≤ 8) → (same [11] [3, 4, 5, 6, 7, 8, 9] [] false σ s1) → (s1.I 3 = nI k) → (s1.I 6 = nI (lsS X T k).1) → (s1.I 9 = nI ((lsS X T k).2 10 0)) → (s1.I 5 = nI a5) → ((lsS X T k).1 ≤ X 0 0) → (TOk (lsS X T k).2) → (k < 8 → rdS X T 7 0 = rdS X T (7 - k) k) → (k = 8 → rdS X T 7 0 = (false, a5)) → (RepC T s1) → GJ g x 4 20 [(0, .ref (ad 63)), (1, .ref (ad 62)), (2, .int (nI (0))), (3, .int (nI (k)))] [] ad (s1) := by
    intro mm_
    induction mm_ using Nat.strongRecOn with
    | _ mm_ ihA =>
      intro k s1 a5 hmA hk hsk g3k g6k g9k g5k hpk hTk hr1 hr2 hRk
      have hXk : RepX 2 10 X s1 := RepX_same hX hsk (by simp) (by simp)
      refine r_iload_n K 3 rfl rfl dX5_read_20 ?_
      refine r_bipush K ((nI (8))) (by decide) dX5_read_21 ?_
      refine n_icmp_ge K 103 (by omega) (by omega) dX5_read_23 (by decide) (fun h23 => ?_) (fun h23 => ?_)
      · refine r_aload_n K 0 rfl rfl dX5_read_103 ?_
        refine get_63_4 K fl_RX5_25 dX5_read_104 ?_
        refine r_topi (b := (nI (a5))) (g5k) ?_
        exact r_iret K hr (⟨by rw [hr2 (by omega)]; rfl, rfl, hsk, fun z => (by rw [hr2 (by omega)] at z; cases z), ⟨_, g5k⟩⟩) dX5_read_107
      · refine r_aload_n K 0 rfl rfl dX5_read_26 ?_
        refine r_callV K 63 (As := []) (rest := []) mv_X5_readLine ml_RX5_48 (c_readLine hXo hXk (p := (lsS X T k).1) (rc := (lsS X T k).2 10 0) hpk g6k g9k hTk.2.1) (by decide) rfl rfl rfl rfl (Nat.le_of_ble_eq_true rfl) ⟨by decide, by decide⟩ dX5_read_27 (fun r_l ad_l s_l h_l => ?_)
        obtain ⟨rfl, rfl, lsm, lok, lno⟩ := h_l
        refine r_st (st' := [.int (bI (lnS X T k).1)]) rfl ?_
        have hXl : RepX 2 10 X s_l := RepX_same hXk lsm (by simp) (by simp)
        refine b_if_ne K 38 dX5_read_30 (by decide) (fun h30 => ?_) (fun h30 => ?_)
        · obtain ⟨l6, l7, l9, l11⟩ := lok h30
          have hno := lineR_ok (T := (lsS X T k).2) h30
          have hlle : (lnS X T k).2 ≤ X 0 0 := lineR_le hpk
          refine r_aload_n K 0 rfl rfl dX5_read_38 ?_
          refine r_dup K rfl dX5_read_39 ?_
          refine get_63_1 K fl_RX5_15 dX5_read_40 ?_
          refine r_topi (b := (nI (k))) ((lsm.2.1 3 (by simp)).trans g3k) ?_
          refine r_iconst K ((nI (1))) (by decide) dX5_read_43 ?_
          refine r_iadd K dX5_read_44 ?_
          refine r_topi (nI_add _ _) ?_
          refine put_63_1 K fl_RX5_15 dX5_read_45 ?_
          refine r_iload_n K 2 rfl rfl dX5_read_48 ?_
          refine n_if_eq K 64 (by omega) dX5_read_49 (by decide) (fun _ => ?_) (fun z => absurd z (by decide))
          have hXt : RepX 2 10 X ((s_l).sI 3 ((nI (k + 1)))) := ⟨by rw [sI_ne _ _ (by decide)]; exact hXl.1, hXl.2⟩
          have g6t : ((s_l).sI 3 ((nI (k + 1)))).I 6 = nI (lnS X T k).2 := by rw [sI_ne _ _ (by decide)]; exact l6
          have g3t : ((s_l).sI 3 ((nI (k + 1)))).I 3 = nI (k + 1) := sI_at _ _ _
          have g9t : ((s_l).sI 3 ((nI (k + 1)))).I 9 = nI (rcS (wordS X (lsS X T k).1) ((lsS X T k).2 10 0)) := by rw [sI_ne _ _ (by decide)]; exact l9
          have hst : same [11] [3, 4, 5, 6, 7, 8, 9] [] false σ ((s_l).sI 3 ((nI (k + 1)))) := same_sI (same_tr hsk (same_w lsm (by simp) (by simp) (by simp) id)) (by simp) _
          have hRt : RepC T ((s_l).sI 3 ((nI (k + 1)))) := hRk.same (same_sI (same_w lsm (by simp) (by simp) (by simp) id) (by simp) _ : same [11] [3, 4, 5, 6, 7, 8, 9] [] false s1 _) (by intro k hk; simp; omega) (by simp)
          generalize ez : (s_l).sI 3 ((nI (k + 1))) = s5 at hXt g6t g3t g9t hst hRt ⊢
          refine r_aload_n K 0 rfl rfl dX5_read_64 ?_
          refine r_callV K 63 (As := []) (rest := []) mv_X5_readToken ml_RX5_56 (c_readToken hXo hXt hlle (g6t)) (by decide) rfl rfl rfl rfl (Nat.le_of_ble_eq_true rfl) ⟨by decide, by decide⟩ dX5_read_65 (fun r_a ad_a s_a h_a => ?_)
          obtain ⟨rfl, rfl, tsa, t4a, t5a, t6a⟩ := h_a
          refine r_st (st' := []) rfl ?_
          have hXa : RepX 2 10 X s_a := RepX_same hXt tsa (by simp) (by simp)
          have hka := kdS_le X (tkS X ((lnS X T k).2))
          have htta := tk_te X ((lnS X T k).2)
          have htea := teS_le hlle
          have hsm6 := same_tr hst (same_w tsa (by simp) (by simp) (by simp) id : same [11] [3, 4, 5, 6, 7, 8, 9] [] false _ s_a)
          have hg3 : s_a.I 3 = nI (k + 1) := (tsa.2.1 3 (by simp)).trans g3t
          have hg9 : s_a.I 9 = nI ((lsS X T (k + 1)).2 10 0) := by rw [tsa.2.1 9 (by simp), g9t]; exact congrArg nI (tell_rc _ _ _).symm
          have hR6 : RepC T s_a := hRt.same tsa (by intro k hk; simp) (by simp)
          refine r_aload_n K 0 rfl rfl dX5_read_68 ?_
          refine get_63_3 K fl_RX5_22 dX5_read_69 ?_
          refine r_topi (b := (nI (kdS X (tkS X ((lnS X T k).2))))) (t4a) ?_
          refine r_iconst K ((nI (3))) (by decide) dX5_read_72 ?_
          refine n_icmp_ne K 78 (by omega) (by omega) dX5_read_73 (by decide) (fun h73 => ?_) (fun h73 => ?_)
          · have htl := kd_lt (X := X) (a := tkS X (lnS X T k).2) h73
            refine r_aload_n K 0 rfl rfl dX5_read_78 ?_
            refine get_63_2 K fl_RX5_18 dX5_read_79 ?_
            refine r_aload_n K 0 rfl rfl dX5_read_82 ?_
            refine get_63_4 K fl_RX5_25 dX5_read_83 ?_
            refine r_topi (b := (nI (tkS X ((lnS X T k).2)))) (t5a) ?_
            refine r_iald K 10 (n := 200) (by decide) rfl rfl (by decide) (by omega) dX5_read_86 ?_
            have hby381 := hXo.2 (tkS X ((lnS X T k).2))
            refine r_topi (b := (nI (X 1 (tkS X ((lnS X T k).2))))) (hXa.2 _ (by omega)) ?_
            refine r_bipush K ((nI (59))) (by decide) dX5_read_87 ?_
            refine n_icmp_eq K 97 (by omega) (by omega) dX5_read_89 (by decide) (fun h89 => ?_) (fun h89 => ?_)
            · refine r_iinc K ((nI (k + 1))) rfl (nI_1 _) (lv' := [(3, .int (nI (k + 1))), (0, .ref (ad 63)), (1, .ref (ad 62)), (2, .int (nI (0)))]) (by decide) rfl dX5_read_97 ?_
              refine r_goto K 20 dX5_read_100 (by decide) ?_
              refine r_pick [1, 2, 3, 0] (lv' := [(0, .ref (ad 63)), (1, .ref (ad 62)), (2, .int (nI (0))), (3, .int (nI (k + 1)))]) rfl ?_
              exact ihA _ (by omega) (k + 1) (s_a) (tkS X (lnS X T k).2) rfl (by omega) (hsm6) (hg3) (t6a) (hg9) (t5a) (teS_le hlle) (TOk_tell hTk hno) (fun z => by rw [hr1 (by omega), show 7 - k = (7 - (k + 1)) + 1 by omega, rdS, if_neg (by rw [h30]; decide), if_neg h73, if_pos h89]) (fun z => by rw [hr1 (by omega), show 7 - k = 0 by omega, rdS, if_neg (by rw [h30]; decide), if_neg h73]) (hR6)
            · refine r_aload_n K 0 rfl rfl dX5_read_92 ?_
              refine get_63_4 K fl_RX5_25 dX5_read_93 ?_
              refine r_topi (b := (nI (tkS X ((lnS X T k).2)))) (t5a) ?_
              exact r_iret K hr (⟨by rw [show rdS X T 7 0 = (false, tkS X (lnS X T k).2) from by rw [hr1 (by omega)]; cases hf : 7 - k; (rw [rdS, if_neg (by rw [h30]; decide), if_neg h73]); (rw [rdS, if_neg (by rw [h30]; decide), if_neg h73, if_neg h89])]; rfl, rfl, hsm6, fun z => (by rw [show rdS X T 7 0 = (false, tkS X (lnS X T k).2) from by rw [hr1 (by omega)]; cases hf : 7 - k; (rw [rdS, if_neg (by rw [h30]; decide), if_neg h73]); (rw [rdS, if_neg (by rw [h30]; decide), if_neg h73, if_neg h89])] at z; cases z), ⟨_, t5a⟩⟩) dX5_read_96
          · refine r_iconst K ((-1)) (by decide) dX5_read_76 ?_
            exact r_iret K hr (⟨by rw [show rdS X T 7 0 = (true, k + 1) from by rw [hr1 (by omega)]; cases hf : 7 - k <;> rw [rdS, if_neg (by rw [h30]; decide), if_pos h73]]; rfl, rfl, hsm6, fun _ => by rw [show rdS X T 7 0 = (true, k + 1) from by rw [hr1 (by omega)]; cases hf : 7 - k <;> rw [rdS, if_neg (by rw [h30]; decide), if_pos h73]]; exact ⟨hg3, trivial⟩, ⟨_, t5a⟩⟩) dX5_read_77
        · refine r_aload_n K 0 rfl rfl dX5_read_33 ?_
          refine get_63_4 K fl_RX5_25 dX5_read_34 ?_
          refine r_topi (b := (nI ((lnS X T k).2))) (lno h30) ?_
          exact r_iret K hr (⟨by rw [show rdS X T 7 0 = (false, (lnS X T k).2) from by rw [hr1 (by omega)]; cases hf : 7 - k <;> rw [rdS, if_pos h30]]; rfl, rfl, same_tr hsk (same_w lsm (by simp) (by simp) (by simp) id), fun z => (by rw [show rdS X T 7 0 = (false, (lnS X T k).2) from by rw [hr1 (by omega)]; cases hf : 7 - k <;> rw [rdS, if_pos h30]] at z; cases z), ⟨_, lno h30⟩⟩) dX5_read_37
  exact lpA _ (0) ((((σ).sI 6 ((nI (0)))).sI 3 ((nI (0)))).sI 9 ((nI (T 10 0)))) (a0) rfl (by omega) (same_sI (same_sI (same_sI (same_rf _ _ _ _ _) (by simp) _) (by simp) _) (by simp) _) (by rw [sI_ne _ _ (by decide), sI_at]) (by rw [sI_ne _ _ (by decide), sI_ne _ _ (by decide), sI_at]; rfl) (by rw [sI_at]; rfl) (by rw [sI_ne _ _ (by decide), sI_ne _ _ (by decide), sI_ne _ _ (by decide)]; exact g5) (Nat.zero_le _) (hT) (fun _ => rfl) (fun z => by omega) (⟨hR.1, hR.2.1, hR.2.2⟩)

set_option maxHeartbeats 2000000 in
set_option maxRecDepth 10000 in
theorem c_read1 {g : Gp} {lau : Launch} {ad : Nat → Nat} {σ : Sg} {X : Tv} (hXo : XOk X) (hX : RepX 2 10 X σ) {T : Tv} (hT : TOk T) (hR : RepC T σ) (hI5 : ∃ a0, σ.I 5 = nI a0) : Con g lau yX5_read cX5_read 4 (Option.some .int) 8 168 [.ref (ad 63), .ref (ad 62), .int (nI (1))] ad σ (fun r a2 s2 => some (.int (if (rdS X T 7 0).1 = true then -1 else nI (rdS X T 7 0).2)) = r ∧ ad = a2 ∧ same [0, 1, 2, 3, 4, 5, 6, 7, 8, 9, 11] [0, 1, 3, 4, 5, 6, 7, 8, 9] [] false σ s2 ∧ ((rdS X T 7 0).1 = true → s2.I 3 = nI (rdS X T 7 0).2 ∧ RepC (lsS X T (rdS X T 7 0).2).2 s2) ∧ ∃ a0, s2.I 5 = nI a0) := by
  refine con_mk (by decide) (Nat.le_of_ble_eq_true rfl) (fun x hxl K hr => ?_)
  subst hxl
  refine r_lv (lv' := [(0, .ref (ad 63)), (1, .ref (ad 62)), (2, .int (nI (1)))]) rfl ?_
  have hx200 := hXo.1
  refine r_aload_n K 0 rfl rfl dX5_read_0 ?_
  refine r_iconst K ((nI (0))) (by decide) dX5_read_1 ?_
  refine put_63_5 K fl_RX5_28 dX5_read_2 ?_
  refine r_aload_n K 0 rfl rfl dX5_read_5 ?_
  refine r_iconst K ((nI (0))) (by decide) dX5_read_6 ?_
  refine put_63_1 K fl_RX5_15 dX5_read_7 ?_
  refine r_aload_n K 0 rfl rfl dX5_read_10 ?_
  refine r_aload_n K 1 rfl rfl dX5_read_11 ?_
  refine get_62_0 K fl_RX5_45 dX5_read_12 ?_
  refine r_topi (b := σ.I 0) rfl ?_
  refine r_topi (b := (nI (T 10 0))) (hR.1) ?_
  refine put_63_9 K fl_RX5_40 dX5_read_15 ?_
  refine r_iconst K ((nI (0))) (by decide) dX5_read_18 ?_
  refine r_istore_n K (lv' := [(3, .int (nI (0))), (0, .ref (ad 63)), (1, .ref (ad 62)), (2, .int (nI (1)))]) 3 rfl (by decide) rfl dX5_read_19 ?_
  obtain ⟨a0, g5⟩ : ∃ a0, σ.I 5 = nI a0 := hI5
  refine r_pick [1, 2, 3, 0] (lv' := [(0, .ref (ad 63)), (1, .ref (ad 62)), (2, .int (nI (1))), (3, .int (nI (0)))]) rfl ?_
  have lpA : ∀ (mm_ : Nat) (k : Nat) (s1 : Sg) (a5 : Nat), mm_ = 8 - k → (k ≤ 8) → (same [0, 1, 2, 3, 4, 5, 6, 7, 8, 9, 11] [0, 1, 3, 4, 5, 6, 7, 8, 9] [] false σ s1) → (s1.I 3 = nI k) → (s1.I 6 = nI (lsS X T k).1) → (s1.I 9 = nI ((lsS X T k).2 10 0)) → (s1.I 5 = nI a5) → ((lsS X T k).1 ≤ X 0 0) → (TOk (lsS X T k).2) → (k < 8 → rdS X T 7 0 = rdS X T (7 - k) k) → (k = 8 → rdS X T 7 0 = (false, a5)) → (RepC (lsS X T k).2 s1) → GJ g x 4 20 [(0, .ref (ad 63)), (1, .ref (ad 62)), (2, .int (nI (1))), (3, .int (nI (k)))] [] ad (s1) := by
    intro mm_
    induction mm_ using Nat.strongRecOn with
    | _ mm_ ihA =>
      intro k s1 a5 hmA hk hsk g3k g6k g9k g5k hpk hTk hr1 hr2 hRk
      have hXk : RepX 2 10 X s1 := RepX_same hX hsk (by simp) (by simp)
      refine r_iload_n K 3 rfl rfl dX5_read_20 ?_
      refine r_bipush K ((nI (8))) (by decide) dX5_read_21 ?_
      refine n_icmp_ge K 103 (by omega) (by omega) dX5_read_23 (by decide) (fun h23 => ?_) (fun h23 => ?_)
      · refine r_aload_n K 0 rfl rfl dX5_read_103 ?_
        refine get_63_4 K fl_RX5_25 dX5_read_104 ?_
        refine r_topi (b := (nI (a5))) (g5k) ?_
        exact r_iret K hr (⟨by rw [hr2 (by omega)]; rfl, rfl, hsk, fun z => (by rw [hr2 (by omega)] at z; cases z), ⟨_, g5k⟩⟩) dX5_read_107
      · refine r_aload_n K 0 rfl rfl dX5_read_26 ?_
        refine r_callV K 63 (As := []) (rest := []) mv_X5_readLine ml_RX5_48 (c_readLine hXo hXk (p := (lsS X T k).1) (rc := (lsS X T k).2 10 0) hpk g6k g9k hTk.2.1) (by decide) rfl rfl rfl rfl (Nat.le_of_ble_eq_true rfl) ⟨by decide, by decide⟩ dX5_read_27 (fun r_l ad_l s_l h_l => ?_)
        obtain ⟨rfl, rfl, lsm, lok, lno⟩ := h_l
        refine r_st (st' := [.int (bI (lnS X T k).1)]) rfl ?_
        have hXl : RepX 2 10 X s_l := RepX_same hXk lsm (by simp) (by simp)
        refine b_if_ne K 38 dX5_read_30 (by decide) (fun h30 => ?_) (fun h30 => ?_)
        · obtain ⟨l6, l7, l9, l11⟩ := lok h30
          have hno := lineR_ok (T := (lsS X T k).2) h30
          have hlle : (lnS X T k).2 ≤ X 0 0 := lineR_le hpk
          refine r_aload_n K 0 rfl rfl dX5_read_38 ?_
          refine r_dup K rfl dX5_read_39 ?_
          refine get_63_1 K fl_RX5_15 dX5_read_40 ?_
          refine r_topi (b := (nI (k))) ((lsm.2.1 3 (by simp)).trans g3k) ?_
          refine r_iconst K ((nI (1))) (by decide) dX5_read_43 ?_
          refine r_iadd K dX5_read_44 ?_
          refine r_topi (nI_add _ _) ?_
          refine put_63_1 K fl_RX5_15 dX5_read_45 ?_
          refine r_iload_n K 2 rfl rfl dX5_read_48 ?_
          refine n_if_eq K 64 (by omega) dX5_read_49 (by decide) (fun z => absurd z (by decide)) (fun _ => ?_)
          refine r_aload_n K 1 rfl rfl dX5_read_52 ?_
          refine r_aload_n K 0 rfl rfl dX5_read_53 ?_
          refine get_63_6 K fl_RX5_31 dX5_read_54 ?_
          refine r_topi (b := s_l.I 7) rfl ?_
          refine r_topi (b := (nI (wordS X (lsS X T k).1))) (l7) ?_
          refine r_aload_n K 0 rfl rfl dX5_read_57 ?_
          refine get_63_8 K fl_RX5_37 dX5_read_58 ?_
          have hXu : RepX 2 10 X ((s_l).sI 3 ((nI (k + 1)))) := ⟨by rw [sI_ne _ _ (by decide)]; exact hXl.1, hXl.2⟩
          have g6u : ((s_l).sI 3 ((nI (k + 1)))).I 6 = nI (lnS X T k).2 := by rw [sI_ne _ _ (by decide)]; exact l6
          have g3u : ((s_l).sI 3 ((nI (k + 1)))).I 3 = nI (k + 1) := sI_at _ _ _
          have g9u : ((s_l).sI 3 ((nI (k + 1)))).I 9 = nI (rcS (wordS X (lsS X T k).1) ((lsS X T k).2 10 0)) := by rw [sI_ne _ _ (by decide)]; exact l9
          have hsu : same [0, 1, 2, 3, 4, 5, 6, 7, 8, 9, 11] [0, 1, 3, 4, 5, 6, 7, 8, 9] [] false σ ((s_l).sI 3 ((nI (k + 1)))) := same_sI (same_tr hsk (same_w lsm (by simp) (by simp) (by simp) id)) (by simp) _
          have hRu : RepC (lsS X T k).2 ((s_l).sI 3 ((nI (k + 1)))) := hRk.same (same_sI (same_w lsm (by simp) (by simp) (by simp) id) (by simp) _ : same [11] [3, 4, 5, 6, 7, 8, 9] [] false s1 _) (by intro k hk; simp; omega) (by simp)
          have l11u : ∀ j, j < needS (wordS X (lsS X T k).1) → ((s_l).sI 3 ((nI (k + 1)))).A 11 j = nI (numS X (lsS X T k).1 (j + 1)) := l11
          generalize ez : (s_l).sI 3 ((nI (k + 1))) = s4 at hXu g6u g3u g9u hsu hRu l11u ⊢
          refine r_callV K 62 (As := [.int (nI (wordS X (lsS X T k).1)), .ref (ad 11)]) (rest := []) mv_X4_tell ml_RX5_52 (c_tell hTk hRu (N := numS X (lsS X T k).1) (w := wordS X (lsS X T k).1) hno l11u) (by decide) rfl rfl rfl rfl (Nat.le_of_ble_eq_true rfl) ⟨by decide, by decide⟩ dX5_read_61 (fun r_t ad_t s_t h_t => ?_)
          obtain ⟨rfl, rfl, tsm, hRt⟩ := h_t
          refine r_st (st' := []) rfl ?_
          have hXt : RepX 2 10 X s_t := RepX_same hXu tsm (by simp) (by simp)
          have g6t : s_t.I 6 = nI (lnS X T k).2 := (tsm.2.1 6 (by simp)).trans g6u
          have g3t : s_t.I 3 = nI (k + 1) := (tsm.2.1 3 (by simp)).trans g3u
          have g9t : s_t.I 9 = nI (rcS (wordS X (lsS X T k).1) ((lsS X T k).2 10 0)) := (tsm.2.1 9 (by simp)).trans g9u
          have hst := same_tr hsu (same_w tsm (by simp) (by simp) (by simp) id : same [0, 1, 2, 3, 4, 5, 6, 7, 8, 9, 11] [0, 1, 3, 4, 5, 6, 7, 8, 9] [] false _ s_t)
          refine r_aload_n K 0 rfl rfl dX5_read_64 ?_
          refine r_callV K 63 (As := []) (rest := []) mv_X5_readToken ml_RX5_56 (c_readToken hXo hXt hlle (g6t)) (by decide) rfl rfl rfl rfl (Nat.le_of_ble_eq_true rfl) ⟨by decide, by decide⟩ dX5_read_65 (fun r_a ad_a s_a h_a => ?_)
          obtain ⟨rfl, rfl, tsa, t4a, t5a, t6a⟩ := h_a
          refine r_st (st' := []) rfl ?_
          have hXa : RepX 2 10 X s_a := RepX_same hXt tsa (by simp) (by simp)
          have hka := kdS_le X (tkS X ((lnS X T k).2))
          have htta := tk_te X ((lnS X T k).2)
          have htea := teS_le hlle
          have hsm6 := same_tr hst (same_w tsa (by simp) (by simp) (by simp) id : same [0, 1, 2, 3, 4, 5, 6, 7, 8, 9, 11] [0, 1, 3, 4, 5, 6, 7, 8, 9] [] false _ s_a)
          have hg3 : s_a.I 3 = nI (k + 1) := (tsa.2.1 3 (by simp)).trans g3t
          have hg9 : s_a.I 9 = nI ((lsS X T (k + 1)).2 10 0) := by rw [tsa.2.1 9 (by simp), g9t]; exact congrArg nI (tell_rc _ _ _).symm
          have hR6 : RepC (lsS X T (k + 1)).2 s_a := hRt.same tsa (by intro k hk; simp) (by simp)
          refine r_aload_n K 0 rfl rfl dX5_read_68 ?_
          refine get_63_3 K fl_RX5_22 dX5_read_69 ?_
          refine r_topi (b := (nI (kdS X (tkS X ((lnS X T k).2))))) (t4a) ?_
          refine r_iconst K ((nI (3))) (by decide) dX5_read_72 ?_
          refine n_icmp_ne K 78 (by omega) (by omega) dX5_read_73 (by decide) (fun h73 => ?_) (fun h73 => ?_)
          · have htl := kd_lt (X := X) (a := tkS X (lnS X T k).2) h73
            refine r_aload_n K 0 rfl rfl dX5_read_78 ?_
            refine get_63_2 K fl_RX5_18 dX5_read_79 ?_
            refine r_aload_n K 0 rfl rfl dX5_read_82 ?_
            refine get_63_4 K fl_RX5_25 dX5_read_83 ?_
            refine r_topi (b := (nI (tkS X ((lnS X T k).2)))) (t5a) ?_
            refine r_iald K 10 (n := 200) (by decide) rfl rfl (by decide) (by omega) dX5_read_86 ?_
            have hby390 := hXo.2 (tkS X ((lnS X T k).2))
            refine r_topi (b := (nI (X 1 (tkS X ((lnS X T k).2))))) (hXa.2 _ (by omega)) ?_
            refine r_bipush K ((nI (59))) (by decide) dX5_read_87 ?_
            refine n_icmp_eq K 97 (by omega) (by omega) dX5_read_89 (by decide) (fun h89 => ?_) (fun h89 => ?_)
            · refine r_iinc K ((nI (k + 1))) rfl (nI_1 _) (lv' := [(3, .int (nI (k + 1))), (0, .ref (ad 63)), (1, .ref (ad 62)), (2, .int (nI (1)))]) (by decide) rfl dX5_read_97 ?_
              refine r_goto K 20 dX5_read_100 (by decide) ?_
              refine r_pick [1, 2, 3, 0] (lv' := [(0, .ref (ad 63)), (1, .ref (ad 62)), (2, .int (nI (1))), (3, .int (nI (k + 1)))]) rfl ?_
              exact ihA _ (by omega) (k + 1) (s_a) (tkS X (lnS X T k).2) rfl (by omega) (hsm6) (hg3) (t6a) (hg9) (t5a) (teS_le hlle) (TOk_tell hTk hno) (fun z => by rw [hr1 (by omega), show 7 - k = (7 - (k + 1)) + 1 by omega, rdS, if_neg (by rw [h30]; decide), if_neg h73, if_pos h89]) (fun z => by rw [hr1 (by omega), show 7 - k = 0 by omega, rdS, if_neg (by rw [h30]; decide), if_neg h73]) (hR6)
            · refine r_aload_n K 0 rfl rfl dX5_read_92 ?_
              refine get_63_4 K fl_RX5_25 dX5_read_93 ?_
              refine r_topi (b := (nI (tkS X ((lnS X T k).2)))) (t5a) ?_
              exact r_iret K hr (⟨by rw [show rdS X T 7 0 = (false, tkS X (lnS X T k).2) from by rw [hr1 (by omega)]; cases hf : 7 - k; (rw [rdS, if_neg (by rw [h30]; decide), if_neg h73]); (rw [rdS, if_neg (by rw [h30]; decide), if_neg h73, if_neg h89])]; rfl, rfl, hsm6, fun z => (by rw [show rdS X T 7 0 = (false, tkS X (lnS X T k).2) from by rw [hr1 (by omega)]; cases hf : 7 - k; (rw [rdS, if_neg (by rw [h30]; decide), if_neg h73]); (rw [rdS, if_neg (by rw [h30]; decide), if_neg h73, if_neg h89])] at z; cases z), ⟨_, t5a⟩⟩) dX5_read_96
          · refine r_iconst K ((-1)) (by decide) dX5_read_76 ?_
            exact r_iret K hr (⟨by rw [show rdS X T 7 0 = (true, k + 1) from by rw [hr1 (by omega)]; cases hf : 7 - k <;> rw [rdS, if_neg (by rw [h30]; decide), if_pos h73]]; rfl, rfl, hsm6, fun _ => by rw [show rdS X T 7 0 = (true, k + 1) from by rw [hr1 (by omega)]; cases hf : 7 - k <;> rw [rdS, if_neg (by rw [h30]; decide), if_pos h73]]; exact ⟨hg3, hR6⟩, ⟨_, t5a⟩⟩) dX5_read_77
        · refine r_aload_n K 0 rfl rfl dX5_read_33 ?_
          refine get_63_4 K fl_RX5_25 dX5_read_34 ?_
          refine r_topi (b := (nI ((lnS X T k).2))) (lno h30) ?_
          exact r_iret K hr (⟨by rw [show rdS X T 7 0 = (false, (lnS X T k).2) from by rw [hr1 (by omega)]; cases hf : 7 - k <;> rw [rdS, if_pos h30]]; rfl, rfl, same_tr hsk (same_w lsm (by simp) (by simp) (by simp) id), fun z => (by rw [show rdS X T 7 0 = (false, (lnS X T k).2) from by rw [hr1 (by omega)]; cases hf : 7 - k <;> rw [rdS, if_pos h30]] at z; cases z), ⟨_, lno h30⟩⟩) dX5_read_37
  exact lpA _ (0) ((((σ).sI 6 ((nI (0)))).sI 3 ((nI (0)))).sI 9 ((nI (T 10 0)))) (a0) rfl (by omega) (same_sI (same_sI (same_sI (same_rf _ _ _ _ _) (by simp) _) (by simp) _) (by simp) _) (by rw [sI_ne _ _ (by decide), sI_at]) (by rw [sI_ne _ _ (by decide), sI_ne _ _ (by decide), sI_at]; rfl) (by rw [sI_at]; rfl) (by rw [sI_ne _ _ (by decide), sI_ne _ _ (by decide), sI_ne _ _ (by decide)]; exact g5) (Nat.zero_le _) (hT) (fun _ => rfl) (fun z => by omega) (⟨hR.1, hR.2.1, hR.2.2⟩)

