theorem rdS_lines (X T : Tv) : ∀ (f k : Nat), (rdS X T f k).1 = true → k < (rdS X T f k).2 ∧ ∀ i, k ≤ i → i < (rdS X T f k).2 → (lnS X T i).1 = true
  | 0, k, h => by
    rw [rdS] at h ⊢
    by_cases a : (lnS X T k).1 = false
    · rw [if_pos a] at h; cases h
    · rw [if_neg a] at h ⊢
      by_cases b : kdS X (tkS X (lnS X T k).2) = 3
      · rw [if_pos b]
        refine ⟨Nat.lt_succ_self k, fun i h1 h2 => ?_⟩
        have : i = k := Nat.le_antisymm (Nat.lt_succ_iff.mp h2) h1
        subst this
        exact eq_true_of_ne_false a
      · rw [if_neg b] at h; cases h
  | f + 1, k, h => by
    rw [rdS] at h ⊢
    by_cases a : (lnS X T k).1 = false
    · rw [if_pos a] at h; cases h
    · rw [if_neg a] at h ⊢
      by_cases b : kdS X (tkS X (lnS X T k).2) = 3
      · rw [if_pos b]
        refine ⟨Nat.lt_succ_self k, fun i h1 h2 => ?_⟩
        have : i = k := Nat.le_antisymm (Nat.lt_succ_iff.mp h2) h1
        subst this
        exact eq_true_of_ne_false a
      · rw [if_neg b] at h ⊢
        by_cases c : X 1 (tkS X (lnS X T k).2) = 59
        · rw [if_pos c] at h ⊢
          obtain ⟨h1, h2⟩ := rdS_lines X T f (k + 1) h
          refine ⟨by omega, fun i h3 h4 => ?_⟩
          by_cases e : i = k
          · subst e; exact eq_true_of_ne_false a
          · exact h2 i (by omega) h4
        · rw [if_neg c] at h; cases h
theorem ls_ok {X T : Tv} (hT : TOk T) (c : Nat) (h : ∀ i, i < c → (lnS X T i).1 = true) : ∀ k, k ≤ c → TOk (lsS X T k).2
  | 0, _ => hT
  | k + 1, hk => TOk_tell (ls_ok hT c h k (by omega)) (lineR_ok (h k (by omega)))
theorem ls_le (X T : Tv) : ∀ k, (lsS X T k).1 ≤ X 0 0
  | 0 => Nat.zero_le _
  | k + 1 => teS_le (lineR_le (ls_le X T k))
theorem rdS_le (X T : Tv) : ∀ (f k : Nat), (rdS X T f k).1 = false → (rdS X T f k).2 ≤ X 0 0
  | 0, k, h => by
    have h1 : (lnS X T k).2 ≤ X 0 0 := lineR_le (ls_le X T k)
    rw [rdS] at h ⊢
    split
    · exact h1
    · split
      · rename_i a b; rw [if_neg a, if_pos b] at h; cases h
      · exact tkS_le h1
  | f + 1, k, h => by
    have h1 : (lnS X T k).2 ≤ X 0 0 := lineR_le (ls_le X T k)
    rw [rdS] at h ⊢
    by_cases a : (lnS X T k).1 = false
    · rw [if_pos a]; exact h1
    · rw [if_neg a] at h ⊢
      by_cases b : kdS X (tkS X (lnS X T k).2) = 3
      · rw [if_pos b] at h; cases h
      · rw [if_neg b] at h ⊢
        by_cases c : X 1 (tkS X (lnS X T k).2) = 59
        · rw [if_pos c] at h ⊢; exact rdS_le X T f (k + 1) h
        · rw [if_neg c]; exact tkS_le h1
theorem nI_m1 {n : Nat} (h : n < 2 ^ 31) (z : nI n = -1) : False := by
  have := nI_toInt h
  rw [z] at this
  have h2 : (-1 : Int32).toInt = -1 := by decide
  omega
def begF (T : Tv) : Tv := fun k _ => if k = 0 then startS T else 0
theorem FOk_beg {T : Tv} (hT : TOk T) : FOk T (begF T) := ⟨fun _ => ⟨validP_le hT (validP_start hT), fun _ => validP_start hT⟩, fun _ => ⟨by show 0 < 6; omega, by show 0 < 6; omega⟩, Nat.zero_le _, fun _ _ => rfl⟩
def rivT (X T : Tv) : Tv := if (rdS X T 7 0).1 = true then (lsS X T (rdS X T 7 0).2).2 else T
def rivX (X T : Tv) : Tv := if (rdS X T 7 0).1 = true then eraS X else X
def rivF (X T F : Tv) : Tv := if (rdS X T 7 0).1 = true then begF (rivT X T) else F
def rivK (X T : Tv) (kf : Nat → Nat) : Nat → Nat := if (rdS X T 7 0).1 = true then (fun _ => 0) else kf
def rivR (X T : Tv) : Int32 := if (rdS X T 7 0).1 = true then nI (rdS X T 7 0).2 else -4
def fltR (X T : Tv) : Int32 := if (rdS X T 7 0).1 = true then -1 else nI (rdS X T 7 0).2
theorem rivT_ok {X T : Tv} (hT : TOk T) : TOk (rivT X T) := by
  unfold rivT
  split
  · rename_i h
    obtain ⟨h1, h2⟩ := rdS_lines X T 7 0 h
    exact ls_ok hT _ (fun i hi => h2 i (Nat.zero_le _) hi) _ (Nat.le_refl _)
  · exact hT
set_option maxHeartbeats 400000 in
set_option maxRecDepth 10000 in
theorem m_begin {g : Gp} {lau : Launch} {ad : Nat → Nat} {σ : Sg} {T : Tv} (hT : TOk T) (hR : RepM T σ) : Con g lau yX7_begin cX7_begin 2 (Option.none : Option Jvm.ClassFile.FieldType) 1 20 [.ref (ad 71)] ad σ (fun r a2 s2 => none = r ∧ ad = a2 ∧ same [51] [] [] false σ s2 ∧ RepN 51 0 (begF T) s2) := by
  refine con_mk (by decide) (Nat.le_of_ble_eq_true rfl) (fun x hxl K hr => ?_)
  subst hxl
  refine r_lv (lv' := [(0, .ref (ad 71))]) rfl ?_
  refine r_iconst K ((nI (0))) (by decide) dX7_begin_0 ?_
  refine r_istore_n K (lv' := [(1, .int (nI (0))), (0, .ref (ad 71))]) 1 rfl (by decide) rfl dX7_begin_1 ?_
  refine r_pick [1, 0] (lv' := [(0, .ref (ad 71)), (1, .int (nI (0)))]) rfl ?_
  have lpA : ∀ (mm_ : Nat) (i : Nat) (s1 : Sg), mm_ = 21 - i → (i ≤ 21) → (same [51] [] [] false σ s1) → (∀ j, j < i → s1.A 51 j = nI (if j < 4 then startS T else 0)) → GJ g x 2 2 [(0, .ref (ad 71)), (1, .int (nI (i)))] [] ad (s1) := by
    intro mm_
    induction mm_ using Nat.strongRecOn with
    | _ mm_ ihA =>
      intro i s1 hmA hi hs hA
      refine r_iload_n K 1 rfl rfl dX7_begin_2 ?_
      refine r_bipush K ((nI (21))) (by decide) dX7_begin_3 ?_
      refine n_icmp_ge K 33 (by omega) (by omega) dX7_begin_5 (by decide) (fun h5 => ?_) (fun h5 => ?_)
      · exact r_vret K hr (⟨rfl, rfl, hs, fun b hb => ⟨(hA _ (by omega)).trans (by rw [if_pos (by omega)]; rfl), (hA _ (by omega)).trans (by rw [if_neg (by omega)]; rfl), (hA _ (by omega)).trans (by rw [if_neg (by omega)]; rfl), (hA _ (by omega)).trans (by rw [if_neg (by omega)]; rfl), (hA _ (by omega)).trans (by rw [if_neg (by omega)]; rfl)⟩, (hA _ (by omega)).trans (by rw [if_neg (by omega)]; rfl)⟩) dX7_begin_33
      · refine r_aload_n K 0 rfl rfl dX7_begin_8 ?_
        refine get_71_17 K fl_RX7_29 dX7_begin_9 ?_
        refine r_iload_n K 1 rfl rfl dX7_begin_12 ?_
        refine r_iload_n K 1 rfl rfl dX7_begin_13 ?_
        refine r_iconst K ((nI (4))) (by decide) dX7_begin_14 ?_
        refine n_icmp_ge K 25 (by omega) (by omega) dX7_begin_15 (by decide) (fun h15 => ?_) (fun h15 => ?_)
        · refine r_iconst K ((nI (0))) (by decide) dX7_begin_25 ?_
          refine r_iast K 51 (n := 21) (by decide) rfl rfl (by decide) (by omega) dX7_begin_26 ?_
          refine r_iinc K ((nI (i + 1))) rfl (nI_1 _) (lv' := [(1, .int (nI (i + 1))), (0, .ref (ad 71))]) (by decide) rfl dX7_begin_27 ?_
          refine r_goto K 2 dX7_begin_30 (by decide) ?_
          refine r_pick [1, 0] (lv' := [(0, .ref (ad 71)), (1, .int (nI (i + 1)))]) rfl ?_
          exact ihA _ (by omega) (i + 1) ((s1).sA 51 (upd ((s1).A 51) (i) ((nI (0))))) rfl (by omega) (same_sA hs (by simp) _) (fun j hj => by rw [sA_at]; unfold upd; by_cases e : j = i; (rw [if_pos e, if_neg (by omega)]); (rw [if_neg e]; exact hA j (by omega)))
        · refine r_aload_n K 0 rfl rfl dX7_begin_18 ?_
          refine r_callVp K 71 (As := []) mv_X7_start ml_RX7_169 (m_start hT (hR.same hs (by simp) (by simp))) (by decide) rfl rfl rfl rfl (Nat.le_of_ble_eq_true rfl) ⟨by decide, by decide⟩ dX7_begin_19 ?_
          refine r_goto K 26 dX7_begin_22 (by decide) ?_
          refine r_iast K 51 (n := 21) (by decide) rfl rfl (by decide) (by omega) dX7_begin_26 ?_
          refine r_iinc K ((nI (i + 1))) rfl (nI_1 _) (lv' := [(1, .int (nI (i + 1))), (0, .ref (ad 71))]) (by decide) rfl dX7_begin_27 ?_
          refine r_goto K 2 dX7_begin_30 (by decide) ?_
          refine r_pick [1, 0] (lv' := [(0, .ref (ad 71)), (1, .int (nI (i + 1)))]) rfl ?_
          exact ihA _ (by omega) (i + 1) ((s1).sA 51 (upd ((s1).A 51) (i) ((nI (startS T))))) rfl (by omega) (same_sA hs (by simp) _) (fun j hj => by rw [sA_at]; unfold upd; by_cases e : j = i; (rw [if_pos e, if_pos (by omega)]); (rw [if_neg e]; exact hA j (by omega)))
  exact lpA _ (0) (σ) rfl (by omega) (same_rf _ _ _ _ _) (fun j hj => absurd hj (Nat.not_lt_zero j))

set_option maxHeartbeats 400000 in
set_option maxRecDepth 10000 in
theorem m_fault {g : Gp} {lau : Launch} {ad : Nat → Nat} {σ : Sg} {X T : Tv} (hXo : XOk X) (hX : RepX 16 49 X σ) (hT : TOk T) (hR : RepM T σ) : Con g lau yX7_fault cX7_fault 1 (Option.some .int) 6 130 [.ref (ad 71)] ad σ (fun r a2 s2 => some (.int (fltR X T)) = r ∧ ad = a2 ∧ same [50] [17, 18, 19, 20, 21, 22, 23] [] true σ s2) := by
  refine con_mk (by decide) (Nat.le_of_ble_eq_true rfl) (fun x hxl K hr => ?_)
  subst hxl
  refine r_lv (lv' := [(0, .ref (ad 71))]) rfl ?_
  refine r_aload_n K 0 rfl rfl dX7_fault_0 ?_
  refine r_callV K 71 (As := []) (rest := []) mv_X7_isRead ml_RX7_166 (m_isRead hXo hX hT hR) (by decide) rfl rfl rfl rfl (Nat.le_of_ble_eq_true rfl) ⟨by decide, by decide⟩ dX7_fault_1 (fun r_r ad_r s_r h_r => ?_)
  obtain ⟨rfl, rfl, rsm, rok, rno⟩ := h_r
  refine r_st (st' := [.int (bI (rdS X T 7 0).1)]) rfl ?_
  refine b_if_eq K 11 dX7_fault_4 (by decide) (fun h4 => ?_) (fun h4 => ?_)
  · refine r_aload_n K 0 rfl rfl dX7_fault_11 ?_
    refine get_71_13 K fl_RX7_105 dX7_fault_12 ?_
    refine r_topi (b := (nI ((rdS X T 7 0).2))) (rno h4) ?_
    exact r_iret K hr (⟨by rw [fltR, if_neg (by rw [h4]; decide)], rfl, rsm⟩) dX7_fault_15
  · refine r_iconst K ((-1)) (by decide) dX7_fault_7 ?_
    refine r_goto K 15 dX7_fault_8 (by decide) ?_
    exact r_iret K hr (⟨by rw [fltR, if_pos h4], rfl, rsm⟩) dX7_fault_15

theorem RepK_zero {q : Nat} {s : Sg} : RepK q (fun _ => 0) ((s.sA q (upd (s.A q) 0 (nI 0))).sA q (upd ((s.sA q (upd (s.A q) 0 (nI 0))).A q) 1 (nI 0))) := by
  intro i hi
  rw [sA_at, sA_at]
  unfold upd
  rcases (show i = 0 ∨ i = 1 by omega) with rfl | rfl
  · rw [if_neg (by decide), if_pos rfl]
  · rw [if_pos rfl]
set_option maxHeartbeats 2000000 in
set_option maxRecDepth 10000 in
theorem m_river {g : Gp} {lau : Launch} {ad : Nat → Nat} {σ : Sg} {X T : Tv} (hXo : XOk X) (hX : RepX 16 49 X σ) (hT : TOk T) (hR : RepM T σ) {F : Tv} {kf : Nat → Nat} (hF : RepN 51 0 F σ) (hkf : RepK 53 kf σ) : Con g lau yX7_river cX7_river 2 (Option.some .int) 6 130 [.ref (ad 71)] ad σ (fun r a2 s2 => some (.int (rivR X T)) = r ∧ ad = a2 ∧ same [46, 47, 48, 50, 51, 53] [13, 14, 15, 16, 17, 18, 19, 20, 21, 22, 23] [] true σ s2 ∧ RepM (rivT X T) s2 ∧ RepX 16 49 (rivX X T) s2 ∧ RepN 51 0 (rivF X T F) s2 ∧ RepK 53 (rivK X T kf) s2) := by
  refine con_mk (by decide) (Nat.le_of_ble_eq_true rfl) (fun x hxl K hr => ?_)
  subst hxl
  refine r_lv (lv' := [(0, .ref (ad 71))]) rfl ?_
  refine r_aload_n K 0 rfl rfl dX7_river_0 ?_
  refine r_callV K 71 (As := []) (rest := []) mv_X7_isRead ml_RX7_166 (m_isRead hXo hX hT hR) (by decide) rfl rfl rfl rfl (Nat.le_of_ble_eq_true rfl) ⟨by decide, by decide⟩ dX7_river_1 (fun r_r ad_r s_r h_r => ?_)
  obtain ⟨rfl, rfl, rsm, rok, rno⟩ := h_r
  refine r_st (st' := [.int (bI (rdS X T 7 0).1)]) rfl ?_
  refine b_if_ne K 10 dX7_river_4 (by decide) (fun h4 => ?_) (fun h4 => ?_)
  · obtain ⟨g22, hrow, hc8⟩ := rok h4
    obtain ⟨hc0, hln⟩ := rdS_lines X T 7 0 h4
    have hTi := ls_ok hT _ (fun i hi => hln i (Nat.zero_le _) hi)
    refine r_iconst K ((nI (0))) (by decide) dX7_river_10 ?_
    refine r_istore_n K (lv' := [(1, .int (nI (0))), (0, .ref (ad 71))]) 1 rfl (by decide) rfl dX7_river_11 ?_
    refine r_pick [1, 0] (lv' := [(0, .ref (ad 71)), (1, .int (nI (0)))]) rfl ?_
    have lpA : ∀ (mm_ : Nat) (k : Nat) (s1 : Sg), mm_ = (rdS X T 7 0).2 - k → (k ≤ (rdS X T 7 0).2) → (same [46, 47, 48] [13, 14, 15] [] false s_r s1) → (RepM (lsS X T k).2 s1) → GJ g x 2 12 [(0, .ref (ad 71)), (1, .int (nI (k)))] [] ad (s1) := by
      intro mm_
      induction mm_ using Nat.strongRecOn with
      | _ mm_ ihA =>
        intro k s1 hmA hk hs1 hRk
        refine r_iload_n K 1 rfl rfl dX7_river_12 ?_
        refine r_aload_n K 0 rfl rfl dX7_river_13 ?_
        refine get_71_14 K fl_RX7_157 dX7_river_14 ?_
        refine r_topi (b := (nI ((rdS X T 7 0).2))) (by first | exact g22 | (rw [hs1.2.1 22 (by simp)]; exact g22)) ?_
        refine n_icmp_ge K 34 (by omega) (by omega) dX7_river_17 (by decide) (fun h17 => ?_) (fun h17 => ?_)
        · have hkc : k = (rdS X T 7 0).2 := by omega
          rw [hkc] at hRk
          have hT9 : TOk (rivT X T) := rivT_ok hT
          have eT : rivT X T = (lsS X T (rdS X T 7 0).2).2 := by rw [rivT, if_pos h4]
          rw [← eT] at hRk
          refine r_aload_n K 0 rfl rfl dX7_river_34 ?_
          refine r_iconst K ((nI (0))) (by decide) dX7_river_35 ?_
          refine put_71_6 K fl_RX7_72 dX7_river_36 ?_
          refine r_aload_n K 0 rfl rfl dX7_river_39 ?_
          refine r_callV K 71 (As := []) (rest := []) mv_X7_begin ml_RX7_58 (m_begin hT9 (show RepM (rivT X T) (s1.sI 16 (nI 0)) from hRk.same (same_sI (same_rf [] [16] [] false s1) (by simp) _) (by simp) (by simp))) (by decide) rfl rfl rfl rfl (Nat.le_of_ble_eq_true rfl) ⟨by decide, by decide⟩ dX7_river_40 (fun r_b ad_b s_b h_b => ?_)
          obtain ⟨rfl, rfl, bsm, bN⟩ := h_b
          refine r_st (st' := []) rfl ?_
          refine r_aload_n K 0 rfl rfl dX7_river_43 ?_
          refine get_71_19 K fl_RX7_35 dX7_river_44 ?_
          refine r_iconst K ((nI (0))) (by decide) dX7_river_47 ?_
          refine r_iconst K ((nI (0))) (by decide) dX7_river_48 ?_
          refine r_zast K 53 (n := 2) (by decide) rfl rfl (by decide) (by omega) (nar0) dX7_river_49 ?_
          refine r_aload_n K 0 rfl rfl dX7_river_50 ?_
          refine get_71_19 K fl_RX7_35 dX7_river_51 ?_
          refine r_iconst K ((nI (1))) (by decide) dX7_river_54 ?_
          refine r_iconst K ((nI (0))) (by decide) dX7_river_55 ?_
          refine r_zast K 53 (n := 2) (by decide) rfl rfl (by decide) (by omega) (nar0) dX7_river_56 ?_
          refine r_aload_n K 0 rfl rfl dX7_river_57 ?_
          refine get_71_14 K fl_RX7_157 dX7_river_58 ?_
          refine r_topi (b := s_b.I 22) rfl ?_
          refine r_topi (b := (nI ((rdS X T 7 0).2))) (by rw [bsm.2.1 22 (by simp), sI_ne _ _ (by decide), hs1.2.1 22 (by simp)]; exact g22) ?_
          exact r_iret K hr (⟨by rw [rivR, if_pos h4], rfl, same_sA (same_sA (same_tr (same_sI (same_tr (same_w rsm (by simp) (by simp) (by simp) id) (same_w hs1 (by simp) (by simp) (by simp) (fun _ => rfl))) (by simp) _) (same_w bsm (by simp) (by simp) (by simp) (fun _ => rfl))) (by simp) _) (by simp) _, (RepM.same (hRk.same (same_sI (same_rf [] [16] [] false s1) (by simp) (nI 0)) (by simp) (by simp)) bsm (by simp) (by simp)).same (same_sA (same_sA (same_rf [53] [] [] false s_b) (by simp) _) (by simp) _) (by simp) (by simp), by rw [rivX, if_pos h4]; exact ⟨(bsm.2.1 16 (by simp)).trans (sI_at _ _ _), fun i hi => by rw [sA_A, if_neg (by decide), sA_A, if_neg (by decide), bsm.1 49 (by simp), sI_A, hs1.1 49 (by simp), rsm.1 49 (by simp)]; exact hX.2 i hi⟩, by rw [rivF, if_pos h4]; exact RepN_sA (RepN_sA bN (by decide)) (by decide), by rw [rivK, if_pos h4]; exact RepK_zero⟩) dX7_river_61
        · refine r_aload_n K 0 rfl rfl dX7_river_20 ?_
          refine r_bipush K ((nI (6))) (by decide) dX7_river_21 ?_
          refine r_iload_n K 1 rfl rfl dX7_river_23 ?_
          refine r_imul K dX7_river_24 ?_
          refine r_topi (pk_mul _ _) ?_
          refine r_callV K 71 (As := [.int (nI (6 * k))]) (rest := []) mv_X7_doLine ml_RX7_173 (m_doLine (hTi k (by omega)) hRk (N := numS X (lsS X T k).1) (w := wordS X (lsS X T k).1) (wh := 6 * k) (by omega) (lineR_ok (hln k (Nat.zero_le _) (by omega))) (by rw [hs1.1 50 (by simp)]; exact (hrow k (by omega)).1) (fun j hj => by rw [hs1.1 50 (by simp)]; exact (hrow k (by omega)).2 j hj)) (by decide) rfl rfl rfl rfl (Nat.le_of_ble_eq_true rfl) ⟨by decide, by decide⟩ dX7_river_25 (fun r_d ad_d s_d h_d => ?_)
          obtain ⟨rfl, rfl, dsm, dR⟩ := h_d
          refine r_st (st' := []) rfl ?_
          refine r_iinc K ((nI (k + 1))) rfl (nI_1 _) (lv' := [(1, .int (nI (k + 1))), (0, .ref (ad 71))]) (by decide) rfl dX7_river_28 ?_
          refine r_goto K 12 dX7_river_31 (by decide) ?_
          refine r_pick [1, 0] (lv' := [(0, .ref (ad 71)), (1, .int (nI (k + 1)))]) rfl ?_
          exact ihA _ (by omega) (k + 1) (s_d) rfl (by omega) (same_tr hs1 dsm) (dR)
    exact lpA _ (0) (s_r) rfl (Nat.zero_le _) (same_rf _ _ _ _ _) (hR.same rsm (by simp) (by simp))
  · refine r_bipush K ((-4)) (by decide) dX7_river_7 ?_
    exact r_iret K hr (⟨by rw [rivR, if_neg (by rw [h4]; decide)], rfl, same_w rsm (by simp) (by simp) (by simp) id, by rw [rivT, if_neg (by rw [h4]; decide)]; exact hR.same rsm (by simp) (by simp), by rw [rivX, if_neg (by rw [h4]; decide)]; exact RepX_same hX rsm (by simp) (by simp), by rw [rivF, if_neg (by rw [h4]; decide)]; exact RepN_same hF rsm (by simp), by rw [rivK, if_neg (by rw [h4]; decide)]; exact RepK_same hkf rsm (by simp)⟩) dX7_river_9

set_option maxHeartbeats 400000 in
set_option maxRecDepth 10000 in
theorem c_fault {g : Gp} {lau : Launch} {ad : Nat → Nat} {σ : Sg} {X T : Tv} (hXo : XOk X) (hX : RepX 2 10 X σ) (hT : TOk T) (hR : RepC T σ) (hI5 : ∃ a0, σ.I 5 = nI a0) : Con g lau yX6_fault cX6_fault 1 (Option.some .int) 9 191 [.ref (ad 61)] ad σ (fun r a2 s2 => some (.int (fltR X T)) = r ∧ ad = a2 ∧ same [11] [3, 4, 5, 6, 7, 8, 9] [] false σ s2 ∧ ∃ a0, s2.I 5 = nI a0) := by
  refine con_mk (by decide) (Nat.le_of_ble_eq_true rfl) (fun x hxl K hr => ?_)
  subst hxl
  refine r_lv (lv' := [(0, .ref (ad 61))]) rfl ?_
  refine r_aload_n K 0 rfl rfl dX6_fault_0 ?_
  refine get_61_1 K fl_RX6_19 dX6_fault_1 ?_
  refine r_aload_n K 0 rfl rfl dX6_fault_4 ?_
  refine get_61_0 K fl_RX6_12 dX6_fault_5 ?_
  refine r_iconst K ((nI (0))) (by decide) dX6_fault_8 ?_
  refine r_callV K 63 (As := [.ref (ad 62), .int (nI (0))]) (rest := []) mv_X5_read ml_RX6_62 (c_read0 hXo hX hT hR hI5) (by decide) rfl rfl rfl rfl (Nat.le_of_ble_eq_true rfl) ⟨by decide, by decide⟩ dX6_fault_9 (fun r_r ad_r s_r h_r => ?_)
  obtain ⟨rfl, rfl, rsm, rok, r5⟩ := h_r
  refine r_st (st' := [.int (fltR X T)]) rfl ?_
  exact r_iret K hr (⟨rfl, rfl, rsm, r5⟩) dX6_fault_12

set_option maxHeartbeats 400000 in
set_option maxRecDepth 10000 in
theorem c_forget {g : Gp} {lau : Launch} {ad : Nat → Nat} {σ : Sg}  : Con g lau yX3_forget cX3_forget 1 (Option.none : Option Jvm.ClassFile.FieldType) 1 23 [.ref (ad 69)] ad σ (ex none ad ((σ).sA 28 (fillA ((σ).A 28) ((-2)) 112))) := by
  refine con_mk (by decide) (Nat.le_of_ble_eq_true rfl) (fun x hxl K hr => ?_)
  subst hxl
  refine r_lv (lv' := [(0, .ref (ad 69))]) rfl ?_
  refine r_aload_n K 0 rfl rfl dX3_forget_0 ?_
  refine get_69_0 K fl_RX3_11 dX3_forget_1 ?_
  refine r_bipush K ((-2)) (by decide) dX3_forget_4 ?_
  refine r_callS K (As := [.ref (ad 28), .int (-2)]) (rest := []) ms_J7_fill_53178 ml_RX3_48 (c_fillI 28 (n := 112) (by decide) rfl rfl (by decide) ((-2))) rfl rfl (Nat.le_of_ble_eq_true rfl) ⟨by decide, by decide⟩ dX3_forget_6 (fun r_ ad_ s_ h_ => ?_)
  obtain ⟨rfl, rfl, rfl⟩ := h_
  refine r_st (st' := []) rfl ?_
  exact r_vret K hr (⟨rfl, rfl, rfl⟩) dX3_forget_9

theorem same_beg (σ : Sg) (v : Int32) : same [12, 13, 14, 15, 16] [10] [] false σ (((((((σ).sI 10 ((nI (0)))).sA 12 (fillA ((σ).A 12) ((v)) 4)).sA 13 (fillA ((σ).A 13) ((nI (0))) 4)).sA 14 (fillA ((σ).A 14) ((nI (0))) 4)).sA 15 (fillA ((σ).A 15) ((nI (0))) 4)).sA 16 (fillA ((σ).A 16) ((nI (0))) 4)) := same_sA (same_sA (same_sA (same_sA (same_sA (same_sI (same_rf _ _ _ _ _) (by simp) _) (by simp) _) (by simp) _) (by simp) _) (by simp) _) (by simp) _
theorem fill_at {f : Nat → Int32} {v : Int32} {b n : Nat} (hb : b < n) : fillA f v n b = v := by unfold fillA; rw [if_pos hb]
theorem RepF_beg {T : Tv} (σ : Sg) : RepF 12 10 (begF T) (((((((σ).sI 10 ((nI (0)))).sA 12 (fillA ((σ).A 12) ((nI (startS T))) 4)).sA 13 (fillA ((σ).A 13) ((nI (0))) 4)).sA 14 (fillA ((σ).A 14) ((nI (0))) 4)).sA 15 (fillA ((σ).A 15) ((nI (0))) 4)).sA 16 (fillA ((σ).A 16) ((nI (0))) 4)) := by
  refine ⟨fun k hk b hb => ?_, (sI_at σ 10 (nI 0))⟩
  rcases (show k = 0 ∨ k = 1 ∨ k = 2 ∨ k = 3 ∨ k = 4 by omega) with rfl | rfl | rfl | rfl | rfl
  · exact (show fillA (σ.A 12) (nI (startS T)) 4 b = _ from fill_at hb)
  · exact (show fillA (σ.A 13) (nI 0) 4 b = _ from fill_at hb)
  · exact (show fillA (σ.A 14) (nI 0) 4 b = _ from fill_at hb)
  · exact (show fillA (σ.A 15) (nI 0) 4 b = _ from fill_at hb)
  · exact (show fillA (σ.A 16) (nI 0) 4 b = _ from fill_at hb)
set_option maxHeartbeats 2000000 in
set_option maxRecDepth 10000 in
theorem c_river {g : Gp} {lau : Launch} {ad : Nat → Nat} {σ : Sg} {X T : Tv} (hXo : XOk X) (hX : RepX 2 10 X σ) (hT : TOk T) (hR : RepC T σ) (hI5 : ∃ a0, σ.I 5 = nI a0) {F : Tv} {kf : Nat → Nat} (hF : RepF 12 10 F σ) (hkf : RepK 27 kf σ) : Con g lau yX6_river cX6_river 2 (Option.some .int) 9 191 [.ref (ad 61)] ad σ (fun r a2 s2 => some (.int (rivR X T)) = r ∧ ad = a2 ∧ same [0, 1, 2, 3, 4, 5, 6, 7, 8, 9, 11, 12, 13, 14, 15, 16, 27, 28] [0, 1, 2, 3, 4, 5, 6, 7, 8, 9, 10] [] false σ s2 ∧ RepC (rivT X T) s2 ∧ RepX 2 10 (rivX X T) s2 ∧ RepF 12 10 (rivF X T F) s2 ∧ RepK 27 (rivK X T kf) s2 ∧ (∃ a0, s2.I 5 = nI a0) ∧ ((rdS X T 7 0).1 = true → ∀ i, i < 112 → s2.A 28 i = -2) ∧ ((rdS X T 7 0).1 = false → s2.A 28 = σ.A 28)) := by
  refine con_mk (by decide) (Nat.le_of_ble_eq_true rfl) (fun x hxl K hr => ?_)
  subst hxl
  refine r_lv (lv' := [(0, .ref (ad 61))]) rfl ?_
  refine r_aload_n K 0 rfl rfl dX6_river_0 ?_
  refine get_61_1 K fl_RX6_19 dX6_river_1 ?_
  refine r_aload_n K 0 rfl rfl dX6_river_4 ?_
  refine get_61_0 K fl_RX6_12 dX6_river_5 ?_
  refine r_iconst K ((nI (0))) (by decide) dX6_river_8 ?_
  refine r_callV K 63 (As := [.ref (ad 62), .int (nI (0))]) (rest := []) mv_X5_read ml_RX6_62 (c_read0 hXo hX hT hR hI5) (by decide) rfl rfl rfl rfl (Nat.le_of_ble_eq_true rfl) ⟨by decide, by decide⟩ dX6_river_9 (fun r_r ad_r s_r h_r => ?_)
  obtain ⟨rfl, rfl, rsm, rok, r5⟩ := h_r
  refine r_st (st' := [.int (fltR X T)]) rfl ?_
  rcases Bool.eq_false_or_eq_true (rdS X T 7 0).1 with hz | hz
  · refine r_topi (b := -1) (by rw [fltR, if_pos hz]) ?_
    refine r_iconst K ((-1)) (by decide) dX6_river_12 ?_
    refine r_icmp_eq K 19 dX6_river_13 (by decide) (fun _ => ?_) (fun z => absurd z (by decide))
    refine r_aload_n K 0 rfl rfl dX6_river_19 ?_
    refine get_61_1 K fl_RX6_19 dX6_river_20 ?_
    refine r_aload_n K 0 rfl rfl dX6_river_23 ?_
    refine get_61_0 K fl_RX6_12 dX6_river_24 ?_
    refine r_iconst K ((nI (1))) (by decide) dX6_river_27 ?_
    refine r_callV K 63 (As := [.ref (ad 62), .int (nI (1))]) (rest := []) mv_X5_read ml_RX6_62 (c_read1 hXo (RepX_same hX rsm (by simp) (by simp)) hT (hR.same rsm (by intro k hk; simp; omega) (by simp)) r5) (by decide) rfl rfl rfl rfl (Nat.le_of_ble_eq_true rfl) ⟨by decide, by decide⟩ dX6_river_28 (fun r_u ad_u s_u h_u => ?_)
    obtain ⟨rfl, rfl, usm, uok, u5⟩ := h_u
    refine r_st (st' := [.int (fltR X T)]) rfl ?_
    obtain ⟨u3, uR⟩ := uok hz
    have eT : rivT X T = (lsS X T (rdS X T 7 0).2).2 := by rw [rivT, if_pos hz]
    rw [← eT] at uR
    have hT9 : TOk (rivT X T) := rivT_ok hT
    refine r_pop K rfl dX6_river_31 ?_
    refine r_aload_n K 0 rfl rfl dX6_river_32 ?_
    refine get_61_1 K fl_RX6_19 dX6_river_33 ?_
    refine r_iconst K ((nI (0))) (by decide) dX6_river_36 ?_
    refine put_63_0 K fl_RX6_58 dX6_river_37 ?_
    refine r_aload_n K 0 rfl rfl dX6_river_40 ?_
    refine get_61_2 K fl_RX6_26 dX6_river_41 ?_
    refine r_aload_n K 0 rfl rfl dX6_river_44 ?_
    refine get_61_0 K fl_RX6_12 dX6_river_45 ?_
    refine r_callVp K 62 (As := []) mv_X4_begin ml_RX6_66 (c_begin hT9 (show RepC (rivT X T) (s_u.sI 2 (nI 0)) from uR.same (same_sI (same_rf [] [2] [] false s_u) (by simp) _) (by intro k hk; simp) (by simp))) (by decide) rfl rfl rfl rfl (Nat.le_of_ble_eq_true rfl) ⟨by decide, by decide⟩ dX6_river_48 ?_
    refine r_callV K 64 (As := [.int (nI (startS (rivT X T)))]) (rest := []) mv_X0_begin ml_RX6_70 (c_fbegin (nI (startS (rivT X T)))) (by decide) rfl rfl rfl rfl (Nat.le_of_ble_eq_true rfl) ⟨by decide, by decide⟩ dX6_river_51 (fun r_b ad_b s_b h_b => ?_)
    obtain ⟨rfl, rfl, rfl⟩ := h_b
    refine r_st (st' := []) rfl ?_
    have hF9 := RepF_beg (T := rivT X T) ((s_u).sI 2 ((nI (0))))
    have hsm9 := same_beg ((s_u).sI 2 ((nI (0)))) (nI (startS (rivT X T)))
    generalize ezz : (((((((s_u).sI 2 ((nI (0)))).sI 10 ((nI (0)))).sA 12 (fillA (((s_u).sI 2 ((nI (0)))).A 12) ((nI (startS (rivT X T)))) 4)).sA 13 (fillA (((s_u).sI 2 ((nI (0)))).A 13) ((nI (0))) 4)).sA 14 (fillA (((s_u).sI 2 ((nI (0)))).A 14) ((nI (0))) 4)).sA 15 (fillA (((s_u).sI 2 ((nI (0)))).A 15) ((nI (0))) 4)).sA 16 (fillA (((s_u).sI 2 ((nI (0)))).A 16) ((nI (0))) 4) = s7 at hF9 hsm9 ⊢
    refine r_iconst K ((nI (0))) (by decide) dX6_river_54 ?_
    refine r_istore_n K (lv' := [(1, .int (nI (0))), (0, .ref (ad 61))]) 1 rfl (by decide) rfl dX6_river_55 ?_
    refine r_pick [1, 0] (lv' := [(0, .ref (ad 61)), (1, .int (nI (0)))]) rfl ?_
    have lpA : ∀ (mm_ : Nat) (i : Nat) (s8 : Sg), mm_ = 2 - i → (i ≤ 2) → (same [27] [] [] false s7 s8) → (∀ j, j < i → s8.A 27 j = nI 0) → GJ g x 2 56 [(0, .ref (ad 61)), (1, .int (nI (i)))] [] ad (s8) := by
      intro mm_
      induction mm_ using Nat.strongRecOn with
      | _ mm_ ihA =>
        intro i s8 hmA hi hs8 hk8
        refine r_iload_n K 1 rfl rfl dX6_river_56 ?_
        refine r_iconst K ((nI (2))) (by decide) dX6_river_57 ?_
        refine n_icmp_ge K 74 (by omega) (by omega) dX6_river_58 (by decide) (fun h58 => ?_) (fun h58 => ?_)
        · refine r_aload_n K 0 rfl rfl dX6_river_74 ?_
          refine get_61_5 K fl_RX6_43 dX6_river_75 ?_
          refine r_callV K 69 (As := []) (rest := []) mv_X3_forget ml_RX6_73 (c_forget) (by decide) rfl rfl rfl rfl (Nat.le_of_ble_eq_true rfl) ⟨by decide, by decide⟩ dX6_river_78 (fun r_f ad_f s_f h_f => ?_)
          obtain ⟨rfl, rfl, rfl⟩ := h_f
          refine r_st (st' := []) rfl ?_
          refine r_aload_n K 0 rfl rfl dX6_river_81 ?_
          refine get_61_1 K fl_RX6_19 dX6_river_82 ?_
          refine get_63_1 K fl_RX6_76 dX6_river_85 ?_
          refine r_topi (b := (nI ((rdS X T 7 0).2))) (by rw [show ((s8).sA 28 (fillA ((s8).A 28) ((-2)) 112)).I 3 = s8.I 3 from rfl, hs8.2.1 3 (by simp), hsm9.2.1 3 (by simp), sI_ne _ _ (by decide)]; exact u3) ?_
          exact r_iret K hr (⟨by rw [rivR, if_pos hz], rfl, same_sA (same_tr (same_tr (same_sI (same_tr (same_w rsm (by simp) (by simp) (by simp) id) (same_w usm (by simp) (by simp) (by simp) id)) (by simp) _) (same_w hsm9 (by simp) (by simp) (by simp) id)) (same_w hs8 (by simp) (by simp) (by simp) id)) (by simp) _, ((uR.same (same_sI (same_rf [] [2] [] false s_u) (by simp) (nI 0)) (by intro k hk; simp) (by simp)).same hsm9 (by intro k hk; simp; omega) (by simp)).same (same_sA (same_w hs8 (by simp) (by simp) (by simp) id : same [27, 28] [] [] false s7 s8) (by simp) _) (by intro k hk; simp; omega) (by simp), by rw [rivX, if_pos hz]; exact ⟨by rw [sA_I, hs8.2.1 2 (by simp), hsm9.2.1 2 (by simp), sI_at]; rfl, fun i hi => by rw [sA_A, if_neg (by decide), hs8.1 10 (by simp), hsm9.1 10 (by simp), sI_A, usm.1 10 (by simp), rsm.1 10 (by simp)]; exact hX.2 i hi⟩, by rw [rivF, if_pos hz]; exact RepF_same hF9 (same_sA (same_w hs8 (by simp) (by simp) (by simp) id : same [27, 28] [] [] false s7 s8) (by simp) _) (by intro j hj; simp; omega) (by simp), by rw [rivK, if_pos hz]; exact (fun j hj => by rw [sA_A, if_neg (by decide)]; exact hk8 j (by omega)), (by obtain ⟨a0, h0⟩ := u5; exact ⟨a0, by rw [sA_I, hs8.2.1 5 (by simp), hsm9.2.1 5 (by simp), sI_ne _ _ (by decide)]; exact h0⟩), fun _ i hi => by rw [sA_at]; exact fill_at hi, fun z => (by rw [hz] at z; cases z)⟩) dX6_river_88
        · refine r_aload_n K 0 rfl rfl dX6_river_61 ?_
          refine get_61_4 K fl_RX6_34 dX6_river_62 ?_
          refine r_iload_n K 1 rfl rfl dX6_river_65 ?_
          refine r_iconst K ((nI (0))) (by decide) dX6_river_66 ?_
          refine r_zast K 27 (n := 2) (by decide) rfl rfl (by decide) (by omega) (nar0) dX6_river_67 ?_
          refine r_iinc K ((nI (i + 1))) rfl (nI_1 _) (lv' := [(1, .int (nI (i + 1))), (0, .ref (ad 61))]) (by decide) rfl dX6_river_68 ?_
          refine r_goto K 56 dX6_river_71 (by decide) ?_
          refine r_pick [1, 0] (lv' := [(0, .ref (ad 61)), (1, .int (nI (i + 1)))]) rfl ?_
          exact ihA _ (by omega) (i + 1) ((s8).sA 27 (upd ((s8).A 27) (i) ((nI (0))))) rfl (by omega) (same_sA hs8 (by simp) _) (fun j hj => by rw [sA_at]; unfold upd; by_cases e : j = i; (rw [if_pos e]); (rw [if_neg e]; exact hk8 j (by omega)))
    exact lpA _ (0) (s7) rfl (by omega) (same_rf _ _ _ _ _) (fun j hj => absurd hj (Nat.not_lt_zero j))
  · refine r_topi (b := nI (rdS X T 7 0).2) (by rw [fltR, if_neg (by rw [hz]; decide)]) ?_
    refine r_iconst K ((-1)) (by decide) dX6_river_12 ?_
    refine r_icmp_eq K 19 dX6_river_13 (by decide) (fun h13 => absurd h13 (fun z => nI_m1 (by have := rdS_le X T 7 0 hz; have := hXo.1; omega) z)) (fun h13 => ?_)
    refine r_bipush K ((-4)) (by decide) dX6_river_16 ?_
    exact r_iret K hr (⟨by rw [rivR, if_neg (by rw [hz]; decide)], rfl, same_w rsm (by simp) (by simp) (by simp) id, by rw [rivT, if_neg (by rw [hz]; decide)]; exact hR.same rsm (by intro k hk; simp; omega) (by simp), by rw [rivX, if_neg (by rw [hz]; decide)]; exact RepX_same hX rsm (by simp) (by simp), by rw [rivF, if_neg (by rw [hz]; decide)]; exact RepF_same hF rsm (by intro j hj; simp; omega) (by simp), by rw [rivK, if_neg (by rw [hz]; decide)]; exact RepK_same hkf rsm (by simp), r5, fun z => (by rw [hz] at z; cases z), fun _ => rsm.1 28 (by simp)⟩) dX6_river_18

