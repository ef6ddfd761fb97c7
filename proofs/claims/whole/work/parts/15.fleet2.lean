def changeS (F : Tv) (b l : Nat) : Tv := fun k c => if k = 1 ∧ c = b then l else if k = 3 ∧ c = b then F 3 b + offS l (F 1 b) else F k c
theorem RepF_change {F : Tv} {σ : Sg} {b l : Nat} (hF : RepF 12 10 F σ) (hb : b < 4) : RepF 12 10 (changeS F b l) ((σ.sA 13 (upd (σ.A 13) b (nI l))).sA 15 (upd ((σ.sA 13 (upd (σ.A 13) b (nI l))).A 15) b (nI (F 3 b + offS l (F 1 b))))) := by
  refine ⟨fun k hk c hc => ?_, hF.2⟩
  have h0 := hF.1 k hk c hc
  rcases (show k = 0 ∨ k = 1 ∨ k = 2 ∨ k = 3 ∨ k = 4 by omega) with rfl | rfl | rfl | rfl | rfl
  · exact h0
  · show upd (σ.A 13) b (nI l) c = nI (if (1 = 1 ∧ c = b) then l else _)
    unfold upd
    by_cases hcb : c = b
    · rw [if_pos hcb, if_pos ⟨rfl, hcb⟩]
    · rw [if_neg hcb, if_neg (fun z => hcb z.2), if_neg (fun z => hcb z.2)]
      exact h0
  · exact h0
  · show upd (σ.A 15) b _ c = nI (if (3 = 1 ∧ c = b) then l else if (3 = 3 ∧ c = b) then _ else _)
    unfold upd
    rw [if_neg (c := 3 = 1 ∧ c = b) (fun z => by omega)]
    by_cases hcb : c = b
    · rw [if_pos hcb, if_pos ⟨rfl, hcb⟩]
    · rw [if_neg hcb, if_neg (fun z => hcb z.2)]
      exact h0
  · exact h0
set_option maxHeartbeats 400000 in
set_option maxRecDepth 10000 in
theorem c_change {g : Gp} {lau : Launch} {ad : Nat → Nat} {σ : Sg} {F : Tv} (hF : RepF 12 10 F σ) {b l : Nat} (hb : b < 4) (hl6 : l < 6) (hf6 : F 1 b < 6) : Con g lau yX0_change cX0_change 4 (Option.some .int) 1 24 [.ref (ad 64), .int (nI (b)), .int (nI (l))] ad σ (ex (some (.int (nI (offS l (F 1 b))))) ad (((σ).sA 13 (upd ((σ).A 13) (b) ((nI (l))))).sA 15 (upd ((σ).A 15) (b) ((nI ((F 3 b) + (offS l (F 1 b)))))))) := by
  refine con_mk (by decide) (Nat.le_of_ble_eq_true rfl) (fun x hxl K hr => ?_)
  subst hxl
  refine r_lv (lv' := [(0, .ref (ad 64)), (1, .int (nI (b))), (2, .int (nI (l)))]) rfl ?_
  refine r_iload_n K 2 rfl rfl dX0_change_0 ?_
  refine r_aload_n K 0 rfl rfl dX0_change_1 ?_
  refine get_64_2 K fl_RX0_19 dX0_change_2 ?_
  refine r_iload_n K 1 rfl rfl dX0_change_5 ?_
  refine r_iald K 13 (n := 4) (by decide) rfl rfl (by decide) (by omega) dX0_change_6 ?_
  refine r_topi (b := (nI (F 1 b))) (hF.1 1 (by decide) (b) hb) ?_
  refine r_isub K dX0_change_7 ?_
  refine r_mabs K ml_RX0_43 (by decide) (Nat.le_of_ble_eq_true rfl) dX0_change_8 ?_
  refine r_topi (b := (nI (offS l (F 1 b)))) (abs_sub (by omega) (by omega)) ?_
  refine r_istore_n K (lv' := [(3, .int (nI (offS l (F 1 b)))), (0, .ref (ad 64)), (1, .int (nI (b))), (2, .int (nI (l)))]) 3 rfl (by decide) rfl dX0_change_11 ?_
  refine r_aload_n K 0 rfl rfl dX0_change_12 ?_
  refine get_64_2 K fl_RX0_19 dX0_change_13 ?_
  refine r_iload_n K 1 rfl rfl dX0_change_16 ?_
  refine r_iload_n K 2 rfl rfl dX0_change_17 ?_
  refine r_iast K 13 (n := 4) (by decide) rfl rfl (by decide) (by omega) dX0_change_18 ?_
  refine r_aload_n K 0 rfl rfl dX0_change_19 ?_
  refine get_64_4 K fl_RX0_25 dX0_change_20 ?_
  refine r_iload_n K 1 rfl rfl dX0_change_23 ?_
  refine r_dup2_11 K rfl rfl dX0_change_24 ?_
  refine r_iald K 15 (n := 4) (by decide) rfl rfl (by decide) (by omega) dX0_change_25 ?_
  refine r_topi (b := σ.A 15 (b)) rfl ?_
  refine r_topi (b := (nI (F 3 b))) (hF.1 3 (by decide) (b) hb) ?_
  refine r_iload_n K 3 rfl rfl dX0_change_26 ?_
  refine r_iadd K dX0_change_27 ?_
  refine r_topi (nI_add _ _) ?_
  refine r_iast K 15 (n := 4) (by decide) rfl rfl (by decide) (by omega) dX0_change_28 ?_
  refine r_w (σ2 := ((σ).sA 13 (upd ((σ).A 13) (b) ((nI (l))))).sA 15 (upd ((σ).A 15) (b) ((nI ((F 3 b) + (offS l (F 1 b))))))) rfl ?_
  refine r_iload_n K 3 rfl rfl dX0_change_29 ?_
  exact r_iret K hr (⟨rfl, rfl, rfl⟩) dX0_change_30

set_option maxHeartbeats 400000 in
set_option maxRecDepth 10000 in
theorem c_areKnotted {g : Gp} {lau : Launch} {ad : Nat → Nat} {σ : Sg} {T F : Tv} (hT : TOk T) (hV : FOk T F) (hF : RepF 12 10 F σ) {b c : Nat} (hb : b < 4) (hc : c < 4) : Con g lau yX0_areKnotted cX0_areKnotted 3 (Option.some .boolean) 2 47 [.ref (ad 64), .int (nI (b)), .int (nI (c))] ad σ (pu (.int (bI (knotS (F 0 b) (F 1 b) (F 0 c) (F 1 c)))) ad σ) := by
  refine con_mk (by decide) (Nat.le_of_ble_eq_true rfl) (fun x hxl K hr => ?_)
  subst hxl
  refine r_lv (lv' := [(0, .ref (ad 64)), (1, .int (nI (b))), (2, .int (nI (c)))]) rfl ?_
  refine r_aload_n K 0 rfl rfl dX0_areKnotted_0 ?_
  refine get_64_1 K fl_RX0_15 dX0_areKnotted_1 ?_
  refine r_iload_n K 1 rfl rfl dX0_areKnotted_4 ?_
  refine r_iald K 12 (n := 4) (by decide) rfl rfl (by decide) (by omega) dX0_areKnotted_5 ?_
  refine r_topi (b := (nI (F 0 b))) (hF.1 0 (by decide) (b) (by omega)) ?_
  refine r_aload_n K 0 rfl rfl dX0_areKnotted_6 ?_
  refine get_64_2 K fl_RX0_19 dX0_areKnotted_7 ?_
  refine r_iload_n K 1 rfl rfl dX0_areKnotted_10 ?_
  refine r_iald K 13 (n := 4) (by decide) rfl rfl (by decide) (by omega) dX0_areKnotted_11 ?_
  refine r_topi (b := (nI (F 1 b))) (hF.1 1 (by decide) (b) (by omega)) ?_
  refine r_aload_n K 0 rfl rfl dX0_areKnotted_12 ?_
  refine get_64_1 K fl_RX0_15 dX0_areKnotted_13 ?_
  refine r_iload_n K 2 rfl rfl dX0_areKnotted_16 ?_
  refine r_iald K 12 (n := 4) (by decide) rfl rfl (by decide) (by omega) dX0_areKnotted_17 ?_
  refine r_topi (b := (nI (F 0 c))) (hF.1 0 (by decide) (c) (by omega)) ?_
  refine r_aload_n K 0 rfl rfl dX0_areKnotted_18 ?_
  refine get_64_2 K fl_RX0_19 dX0_areKnotted_19 ?_
  refine r_iload_n K 2 rfl rfl dX0_areKnotted_22 ?_
  refine r_iald K 13 (n := 4) (by decide) rfl rfl (by decide) (by omega) dX0_areKnotted_23 ?_
  refine r_topi (b := (nI (F 1 c))) (hF.1 1 (by decide) (c) (by omega)) ?_
  refine r_callSN K (As := [.int (nI (F 0 b)), .int (nI (F 1 b)), .int (nI (F 0 c)), .int (nI (F 1 c))]) ms_X6_isKnot K.2.2.2.2.2.1.2.2.2.1 (c_isKnot (p := F 0 b) (l := F 1 b) (q := F 0 c) (m := F 1 c) ((hV.1 _).1) ((hV.2.1 _).1) ((hV.1 _).1) (by have := (hV.2.1 c).1; omega)) rfl rfl (Nat.le_of_ble_eq_true rfl) ⟨by decide, by decide⟩ dX0_areKnotted_24 ?_
  exact r_zret K (b := knotS (F 0 b) (F 1 b) (F 0 c) (F 1 c)) hr (⟨rfl, rfl, rfl⟩) dX0_areKnotted_27

def passI (T F : Tv) (h i : Nat) (σ s1 : Sg) : Prop := same [12, 14, 16] [] [] false σ s1 ∧ ∀ k, k < 5 → ∀ b, b < 4 → s1.A (12 + k) b = nI (if b < i then passS T F h k b else F k b)
theorem passI_at {T F : Tv} {h i : Nat} {σ s1 : Sg} (hI : passI T F h i σ s1) {k : Nat} (hk : k < 5) (hi : i < 4) : s1.A (12 + k) i = nI (F k i) := by
  rw [hI.2 k hk i hi, if_neg (Nat.lt_irrefl i)]
theorem passI_stay {T F : Tv} {h i : Nat} {σ s1 : Sg} (hI : passI T F h i σ s1) (hn : ¬ (T 5 i = 1 ∧ F 0 i ≠ 160)) : passI T F h (i + 1) σ (s1.sA 14 (upd (s1.A 14) i (nI (F 1 i)))) := by
  refine ⟨same_sA hI.1 (by simp) _, fun k hk b hb => ?_⟩
  have h0 := hI.2 k hk b hb
  by_cases hbi : b = i
  · subst hbi
    rw [if_pos (Nat.lt_succ_self b)]
    rw [if_neg (Nat.lt_irrefl b)] at h0
    rcases (show k = 0 ∨ k = 1 ∨ k = 2 ∨ k = 3 ∨ k = 4 by omega) with rfl | rfl | rfl | rfl | rfl
    · show s1.A 12 b = nI (if T 5 b = 1 ∧ F 0 b ≠ 160 then _ else _)
      rw [if_neg hn]; exact h0
    · exact h0
    · show upd (s1.A 14) b (nI (F 1 b)) b = _
      unfold upd
      rw [if_pos rfl]; rfl
    · exact h0
    · show s1.A 16 b = nI (if T 5 b = 1 ∧ F 0 b ≠ 160 then _ else _)
      rw [if_neg hn]; exact h0
  · have e : (b < i + 1) = (b < i) := propext ⟨fun _ => by omega, fun _ => by omega⟩
    simp only [e]
    rw [← h0]
    rcases (show k = 0 ∨ k = 1 ∨ k = 2 ∨ k = 3 ∨ k = 4 by omega) with rfl | rfl | rfl | rfl | rfl
    · rfl
    · rfl
    · show upd (s1.A 14) i (nI (F 1 i)) b = _
      unfold upd
      rw [if_neg hbi]
    · rfl
    · rfl
theorem passI_move {T F : Tv} {h i : Nat} {σ s1 : Sg} (hI : passI T F h i σ s1) (hn : T 5 i = 1 ∧ F 0 i ≠ 160) {z : Nat} (hz : z = if goS T i (F 0 i) (F 1 i) h = F 0 i then 1 else 0) : passI T F h (i + 1) σ (((s1.sA 16 (upd (s1.A 16) i (nI (F 4 i + z)))).sA 12 (upd (s1.A 12) i (nI (goS T i (F 0 i) (F 1 i) h)))).sA 14 (upd (s1.A 14) i (nI (F 1 i)))) := by
  refine ⟨same_sA (same_sA (same_sA hI.1 (by simp) _) (by simp) _) (by simp) _, fun k hk b hb => ?_⟩
  have h0 := hI.2 k hk b hb
  by_cases hbi : b = i
  · subst hbi
    rw [if_pos (Nat.lt_succ_self b)]
    rw [if_neg (Nat.lt_irrefl b)] at h0
    rcases (show k = 0 ∨ k = 1 ∨ k = 2 ∨ k = 3 ∨ k = 4 by omega) with rfl | rfl | rfl | rfl | rfl
    · show upd (s1.A 12) b _ b = nI (if T 5 b = 1 ∧ F 0 b ≠ 160 then _ else _)
      unfold upd
      rw [if_pos hn, if_pos rfl]
    · exact h0
    · show upd (s1.A 14) b (nI (F 1 b)) b = _
      unfold upd
      rw [if_pos rfl]; rfl
    · exact h0
    · show upd (s1.A 16) b _ b = nI (if T 5 b = 1 ∧ F 0 b ≠ 160 then _ else _)
      unfold upd
      rw [if_pos hn, if_pos rfl, hz]
  · have e : (b < i + 1) = (b < i) := propext ⟨fun _ => by omega, fun _ => by omega⟩
    simp only [e]
    rw [← h0]
    rcases (show k = 0 ∨ k = 1 ∨ k = 2 ∨ k = 3 ∨ k = 4 by omega) with rfl | rfl | rfl | rfl | rfl
    · show upd (s1.A 12) i _ b = _
      unfold upd
      rw [if_neg hbi]
    · rfl
    · show upd (s1.A 14) i _ b = _
      unfold upd
      rw [if_neg hbi]
    · rfl
    · show upd (s1.A 16) i _ b = _
      unfold upd
      rw [if_neg hbi]
set_option maxHeartbeats 400000 in
set_option maxRecDepth 10000 in
theorem c_passHour {g : Gp} {lau : Launch} {ad : Nat → Nat} {σ : Sg} {T F : Tv} (hT : TOk T) (hR0 : RepC T σ) (hV : FOk T F) (hF : RepF 12 10 F σ) {h : Nat} (hh : h < 24) : Con g lau yX0_passHour cX0_passHour 5 (Option.none : Option Jvm.ClassFile.FieldType) 3 75 [.ref (ad 64), .ref (ad 62), .int (nI (h))] ad σ (fun r a2 s2 => none = r ∧ ad = a2 ∧ same [12, 14, 16] [10] [] false σ s2 ∧ RepF 12 10 (passS T F h) s2) := by
  refine con_mk (by decide) (Nat.le_of_ble_eq_true rfl) (fun x hxl K hr => ?_)
  subst hxl
  refine r_lv (lv' := [(0, .ref (ad 64)), (1, .ref (ad 62)), (2, .int (nI (h)))]) rfl ?_
  refine r_iconst K ((nI (0))) (by decide) dX0_passHour_0 ?_
  refine r_istore_n K (lv' := [(3, .int (nI (0))), (0, .ref (ad 64)), (1, .ref (ad 62)), (2, .int (nI (h)))]) 3 rfl (by decide) rfl dX0_passHour_1 ?_
  refine r_pick [1, 2, 3, 0] (lv' := [(0, .ref (ad 64)), (1, .ref (ad 62)), (2, .int (nI (h))), (3, .int (nI (0)))]) rfl ?_
  have lpA : ∀ (mm_ : Nat) (i : Nat) (s1 : Sg), mm_ = 4 - i → (i ≤ 4) → (passI T F h i σ s1) → GJ g x 5 2 [(0, .ref (ad 64)), (1, .ref (ad 62)), (2, .int (nI (h))), (3, .int (nI (i)))] [] ad (s1) := by
    intro mm_
    induction mm_ using Nat.strongRecOn with
    | _ mm_ ihA =>
      intro i s1 hmA hi hI
      have hR : RepC T s1 := hR0.same hI.1 (by intro k hk; simp; omega) (by simp)
      have hv1 := (hV.1 i).1
      have hv2 := (hV.2.1 i).1
      have ht5 := (hT.2.2.2.2.2.2.1 i).1
      refine r_iload_n K 3 rfl rfl dX0_passHour_2 ?_
      refine r_iconst K ((nI (4))) (by decide) dX0_passHour_3 ?_
      refine n_icmp_ge K 99 (by omega) (by omega) dX0_passHour_4 (by decide) (fun h4 => ?_) (fun h4 => ?_)
      · refine r_aload_n K 0 rfl rfl dX0_passHour_99 ?_
        refine r_iload_n K 2 rfl rfl dX0_passHour_100 ?_
        refine r_iconst K ((nI (1))) (by decide) dX0_passHour_101 ?_
        refine r_iadd K dX0_passHour_102 ?_
        refine r_topi (nI_add _ _) ?_
        refine put_64_0 K fl_RX0_9 dX0_passHour_103 ?_
        exact r_vret K hr (⟨rfl, rfl, by exact same_sI (same_w hI.1 (by simp) (by simp) (by simp) id) (by simp) _, fun k hk b hb => by have := hI.2 k hk b hb; rw [if_pos (by omega)] at this; exact this, rfl⟩) dX0_passHour_106
      · refine r_aload_n K 1 rfl rfl dX0_passHour_7 ?_
        refine get_62_7 K fl_RX0_49 dX0_passHour_8 ?_
        refine r_iload_n K 3 rfl rfl dX0_passHour_11 ?_
        refine r_zald K 5 (n := 4) (by decide) rfl rfl (by decide) (by omega) dX0_passHour_12 ?_
        refine r_topi (b := (nI (T 5 i))) (hR.2.2 5 (by decide) i (show i < 4 by omega)) ?_
        refine n_if_eq K 81 (by omega) dX0_passHour_13 (by decide) (fun h13 => ?_) (fun h13 => ?_)
        · refine r_aload_n K 0 rfl rfl dX0_passHour_81 ?_
          refine get_64_3 K fl_RX0_22 dX0_passHour_82 ?_
          refine r_iload_n K 3 rfl rfl dX0_passHour_85 ?_
          refine r_aload_n K 0 rfl rfl dX0_passHour_86 ?_
          refine get_64_2 K fl_RX0_19 dX0_passHour_87 ?_
          refine r_iload_n K 3 rfl rfl dX0_passHour_90 ?_
          refine r_iald K 13 (n := 4) (by decide) rfl rfl (by decide) (by omega) dX0_passHour_91 ?_
          refine r_topi (b := (nI (F 1 i))) (passI_at hI (k := 1) (by decide) (show i < 4 by omega)) ?_
          refine r_iast K 14 (n := 4) (by decide) rfl rfl (by decide) (by omega) dX0_passHour_92 ?_
          refine r_iinc K ((nI (i + 1))) rfl (nI_1 _) (lv' := [(3, .int (nI (i + 1))), (0, .ref (ad 64)), (1, .ref (ad 62)), (2, .int (nI (h)))]) (by decide) rfl dX0_passHour_93 ?_
          refine r_goto K 2 dX0_passHour_96 (by decide) ?_
          refine r_pick [1, 2, 3, 0] (lv' := [(0, .ref (ad 64)), (1, .ref (ad 62)), (2, .int (nI (h))), (3, .int (nI (i + 1)))]) rfl ?_
          exact ihA _ (by omega) (i + 1) ((s1).sA 14 (upd ((s1).A 14) (i) ((nI (F 1 i))))) rfl (by omega) (passI_stay hI (fun z => by omega))
        · refine r_aload_n K 0 rfl rfl dX0_passHour_16 ?_
          refine get_64_1 K fl_RX0_15 dX0_passHour_17 ?_
          refine r_iload_n K 3 rfl rfl dX0_passHour_20 ?_
          refine r_iald K 12 (n := 4) (by decide) rfl rfl (by decide) (by omega) dX0_passHour_21 ?_
          refine r_topi (b := (nI (F 0 i))) (passI_at hI (k := 0) (by decide) (show i < 4 by omega)) ?_
          refine r_sipush K ((nI (160))) (by decide) dX0_passHour_22 ?_
          refine n_icmp_eq K 81 (by omega) (by omega) dX0_passHour_25 (by decide) (fun h25 => ?_) (fun h25 => ?_)
          · refine r_aload_n K 0 rfl rfl dX0_passHour_81 ?_
            refine get_64_3 K fl_RX0_22 dX0_passHour_82 ?_
            refine r_iload_n K 3 rfl rfl dX0_passHour_85 ?_
            refine r_aload_n K 0 rfl rfl dX0_passHour_86 ?_
            refine get_64_2 K fl_RX0_19 dX0_passHour_87 ?_
            refine r_iload_n K 3 rfl rfl dX0_passHour_90 ?_
            refine r_iald K 13 (n := 4) (by decide) rfl rfl (by decide) (by omega) dX0_passHour_91 ?_
            refine r_topi (b := (nI (F 1 i))) (passI_at hI (k := 1) (by decide) (show i < 4 by omega)) ?_
            refine r_iast K 14 (n := 4) (by decide) rfl rfl (by decide) (by omega) dX0_passHour_92 ?_
            refine r_iinc K ((nI (i + 1))) rfl (nI_1 _) (lv' := [(3, .int (nI (i + 1))), (0, .ref (ad 64)), (1, .ref (ad 62)), (2, .int (nI (h)))]) (by decide) rfl dX0_passHour_93 ?_
            refine r_goto K 2 dX0_passHour_96 (by decide) ?_
            refine r_pick [1, 2, 3, 0] (lv' := [(0, .ref (ad 64)), (1, .ref (ad 62)), (2, .int (nI (h))), (3, .int (nI (i + 1)))]) rfl ?_
            exact ihA _ (by omega) (i + 1) ((s1).sA 14 (upd ((s1).A 14) (i) ((nI (F 1 i))))) rfl (by omega) (passI_stay hI (fun z => by omega))
          · refine r_aload_n K 1 rfl rfl dX0_passHour_28 ?_
            refine r_iload_n K 3 rfl rfl dX0_passHour_29 ?_
            refine r_aload_n K 0 rfl rfl dX0_passHour_30 ?_
            refine get_64_1 K fl_RX0_15 dX0_passHour_31 ?_
            refine r_iload_n K 3 rfl rfl dX0_passHour_34 ?_
            refine r_iald K 12 (n := 4) (by decide) rfl rfl (by decide) (by omega) dX0_passHour_35 ?_
            refine r_topi (b := (nI (F 0 i))) (passI_at hI (k := 0) (by decide) (show i < 4 by omega)) ?_
            refine r_aload_n K 0 rfl rfl dX0_passHour_36 ?_
            refine get_64_2 K fl_RX0_19 dX0_passHour_37 ?_
            refine r_iload_n K 3 rfl rfl dX0_passHour_40 ?_
            refine r_iald K 13 (n := 4) (by decide) rfl rfl (by decide) (by omega) dX0_passHour_41 ?_
            refine r_topi (b := (nI (F 1 i))) (passI_at hI (k := 1) (by decide) (show i < 4 by omega)) ?_
            refine r_iload_n K 2 rfl rfl dX0_passHour_42 ?_
            refine r_callVp K 62 (As := [.int (nI (i)), .int (nI (F 0 i)), .int (nI (F 1 i)), .int (nI (h))]) mv_X4_moved ml_RX0_55 (c_moved hT hR (b := i) (p := F 0 i) (l := F 1 i) (h := h) (by omega) (hv2) (by omega) (validP_or ((hV.1 i).2 (by omega)))) (by decide) rfl rfl rfl rfl (Nat.le_of_ble_eq_true rfl) ⟨by decide, by decide⟩ dX0_passHour_43 ?_
            have hgo := validP_le hT (validP_go hT ((hV.1 i).2 (by omega)) i (F 1 i) h)
            refine r_istore K (lv' := [(4, .int (nI (goS T i (F 0 i) (F 1 i) h))), (0, .ref (ad 64)), (1, .ref (ad 62)), (2, .int (nI (h))), (3, .int (nI (i)))]) (by decide) rfl dX0_passHour_46 ?_
            refine r_aload_n K 0 rfl rfl dX0_passHour_48 ?_
            refine get_64_5 K fl_RX0_28 dX0_passHour_49 ?_
            refine r_iload_n K 3 rfl rfl dX0_passHour_52 ?_
            refine r_dup2_11 K rfl rfl dX0_passHour_53 ?_
            refine r_iald K 16 (n := 4) (by decide) rfl rfl (by decide) (by omega) dX0_passHour_54 ?_
            refine r_topi (b := (nI (F 4 i))) (passI_at hI (k := 4) (by decide) (show i < 4 by omega)) ?_
            refine r_iload K rfl dX0_passHour_55 ?_
            refine r_aload_n K 0 rfl rfl dX0_passHour_57 ?_
            refine get_64_1 K fl_RX0_15 dX0_passHour_58 ?_
            refine r_iload_n K 3 rfl rfl dX0_passHour_61 ?_
            refine r_iald K 12 (n := 4) (by decide) rfl rfl (by decide) (by omega) dX0_passHour_62 ?_
            refine r_topi (b := (nI (F 0 i))) (passI_at hI (k := 0) (by decide) (show i < 4 by omega)) ?_
            refine n_icmp_ne K 70 (by omega) (by omega) dX0_passHour_63 (by decide) (fun h63 => ?_) (fun h63 => ?_)
            · refine r_iconst K ((nI (0))) (by decide) dX0_passHour_70 ?_
              refine r_iadd K dX0_passHour_71 ?_
              refine r_topi (nI_add _ _) ?_
              refine r_iast K 16 (n := 4) (by decide) rfl rfl (by decide) (by omega) dX0_passHour_72 ?_
              refine r_aload_n K 0 rfl rfl dX0_passHour_73 ?_
              refine get_64_1 K fl_RX0_15 dX0_passHour_74 ?_
              refine r_iload_n K 3 rfl rfl dX0_passHour_77 ?_
              refine r_iload K rfl dX0_passHour_78 ?_
              refine r_iast K 12 (n := 4) (by decide) rfl rfl (by decide) (by omega) dX0_passHour_80 ?_
              refine r_w (σ2 := ((s1).sA 16 (upd ((s1).A 16) (i) ((nI ((F 4 i) + 0))))).sA 12 (upd ((s1).A 12) (i) ((nI (goS T i (F 0 i) (F 1 i) h))))) rfl ?_
              refine r_aload_n K 0 rfl rfl dX0_passHour_81 ?_
              refine get_64_3 K fl_RX0_22 dX0_passHour_82 ?_
              refine r_iload_n K 3 rfl rfl dX0_passHour_85 ?_
              refine r_aload_n K 0 rfl rfl dX0_passHour_86 ?_
              refine get_64_2 K fl_RX0_19 dX0_passHour_87 ?_
              refine r_iload_n K 3 rfl rfl dX0_passHour_90 ?_
              refine r_iald K 13 (n := 4) (by decide) rfl rfl (by decide) (by omega) dX0_passHour_91 ?_
              refine r_topi (b := s1.A 13 (i)) rfl ?_
              refine r_topi (b := (nI (F 1 i))) (passI_at hI (k := 1) (by decide) (show i < 4 by omega)) ?_
              refine r_iast K 14 (n := 4) (by decide) rfl rfl (by decide) (by omega) dX0_passHour_92 ?_
              refine r_w (σ2 := (((s1).sA 16 (upd ((s1).A 16) (i) ((nI ((F 4 i) + 0))))).sA 12 (upd ((s1).A 12) (i) ((nI (goS T i (F 0 i) (F 1 i) h))))).sA 14 (upd ((s1).A 14) (i) ((nI (F 1 i))))) rfl ?_
              refine r_iinc K ((nI (i + 1))) rfl (nI_1 _) (lv' := [(3, .int (nI (i + 1))), (4, .int (nI (goS T i (F 0 i) (F 1 i) h))), (0, .ref (ad 64)), (1, .ref (ad 62)), (2, .int (nI (h)))]) (by decide) rfl dX0_passHour_93 ?_
              refine r_goto K 2 dX0_passHour_96 (by decide) ?_
              refine r_pick [2, 3, 4, 0] (lv' := [(0, .ref (ad 64)), (1, .ref (ad 62)), (2, .int (nI (h))), (3, .int (nI (i + 1)))]) rfl ?_
              exact ihA _ (by omega) (i + 1) ((((s1).sA 16 (upd ((s1).A 16) (i) ((nI ((F 4 i) + 0))))).sA 12 (upd ((s1).A 12) (i) ((nI (goS T i (F 0 i) (F 1 i) h))))).sA 14 (upd ((s1).A 14) (i) ((nI (F 1 i))))) rfl (by omega) (passI_move hI ⟨by omega, h25⟩ (by rw [if_neg h63]))
            · refine r_iconst K ((nI (1))) (by decide) dX0_passHour_66 ?_
              refine r_goto K 71 dX0_passHour_67 (by decide) ?_
              refine r_iadd K dX0_passHour_71 ?_
              refine r_topi (nI_add _ _) ?_
              refine r_iast K 16 (n := 4) (by decide) rfl rfl (by decide) (by omega) dX0_passHour_72 ?_
              refine r_aload_n K 0 rfl rfl dX0_passHour_73 ?_
              refine get_64_1 K fl_RX0_15 dX0_passHour_74 ?_
              refine r_iload_n K 3 rfl rfl dX0_passHour_77 ?_
              refine r_iload K rfl dX0_passHour_78 ?_
              refine r_iast K 12 (n := 4) (by decide) rfl rfl (by decide) (by omega) dX0_passHour_80 ?_
              refine r_w (σ2 := ((s1).sA 16 (upd ((s1).A 16) (i) ((nI ((F 4 i) + 1))))).sA 12 (upd ((s1).A 12) (i) ((nI (goS T i (F 0 i) (F 1 i) h))))) rfl ?_
              refine r_aload_n K 0 rfl rfl dX0_passHour_81 ?_
              refine get_64_3 K fl_RX0_22 dX0_passHour_82 ?_
              refine r_iload_n K 3 rfl rfl dX0_passHour_85 ?_
              refine r_aload_n K 0 rfl rfl dX0_passHour_86 ?_
              refine get_64_2 K fl_RX0_19 dX0_passHour_87 ?_
              refine r_iload_n K 3 rfl rfl dX0_passHour_90 ?_
              refine r_iald K 13 (n := 4) (by decide) rfl rfl (by decide) (by omega) dX0_passHour_91 ?_
              refine r_topi (b := s1.A 13 (i)) rfl ?_
              refine r_topi (b := (nI (F 1 i))) (passI_at hI (k := 1) (by decide) (show i < 4 by omega)) ?_
              refine r_iast K 14 (n := 4) (by decide) rfl rfl (by decide) (by omega) dX0_passHour_92 ?_
              refine r_w (σ2 := (((s1).sA 16 (upd ((s1).A 16) (i) ((nI ((F 4 i) + 1))))).sA 12 (upd ((s1).A 12) (i) ((nI (goS T i (F 0 i) (F 1 i) h))))).sA 14 (upd ((s1).A 14) (i) ((nI (F 1 i))))) rfl ?_
              refine r_iinc K ((nI (i + 1))) rfl (nI_1 _) (lv' := [(3, .int (nI (i + 1))), (4, .int (nI (goS T i (F 0 i) (F 1 i) h))), (0, .ref (ad 64)), (1, .ref (ad 62)), (2, .int (nI (h)))]) (by decide) rfl dX0_passHour_93 ?_
              refine r_goto K 2 dX0_passHour_96 (by decide) ?_
              refine r_pick [2, 3, 4, 0] (lv' := [(0, .ref (ad 64)), (1, .ref (ad 62)), (2, .int (nI (h))), (3, .int (nI (i + 1)))]) rfl ?_
              exact ihA _ (by omega) (i + 1) ((((s1).sA 16 (upd ((s1).A 16) (i) ((nI ((F 4 i) + 1))))).sA 12 (upd ((s1).A 12) (i) ((nI (goS T i (F 0 i) (F 1 i) h))))).sA 14 (upd ((s1).A 14) (i) ((nI (F 1 i))))) rfl (by omega) (passI_move hI ⟨by omega, h25⟩ (by rw [if_pos h63]))
  exact lpA _ (0) (σ) rfl (by omega) (⟨same_rf _ _ _ _ _, fun k hk b hb => by rw [if_neg (Nat.not_lt_zero b)]; exact hF.1 k hk b hb⟩)
