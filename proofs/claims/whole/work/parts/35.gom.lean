def passN (T G : Tv) (h i : Nat) (σ s : Sg) : Prop := same [51] [] [] false σ s ∧ (∀ b, b < 4 → s.A 51 b = nI (if b < i then passS T G h 0 b else G 0 b) ∧ s.A 51 (4 + b) = nI (if b < i then G 1 b else G 2 b) ∧ s.A 51 (8 + b) = nI (G 1 b) ∧ s.A 51 (12 + b) = nI (G 3 b) ∧ s.A 51 (16 + b) = nI (if b < i then passS T G h 4 b else G 4 b)) ∧ s.A 51 20 = nI (G 5 0)
theorem passN_0 {T G : Tv} {h : Nat} {σ s : Sg} (hs : same [51] [] [] false σ s) (hN : RepN 51 0 G s) : passN T G h 0 σ s := by
  refine ⟨hs, fun b hb => ?_, by have := hN.2; rw [Nat.zero_add] at this; exact this⟩
  obtain ⟨h1, h2, h3, h4, h5⟩ := hN.1 b hb
  rw [Nat.zero_add] at h1 h2 h3 h4 h5
  simp only [Nat.not_lt_zero, if_false]
  exact ⟨h1, h2, h3, h4, h5⟩
theorem passN_at {T G : Tv} {h i : Nat} {σ s : Sg} (hI : passN T G h i σ s) (hi : i < 4) : s.A 51 i = nI (G 0 i) ∧ s.A 51 (4 + i) = nI (G 2 i) ∧ s.A 51 (8 + i) = nI (G 1 i) ∧ s.A 51 (12 + i) = nI (G 3 i) ∧ s.A 51 (16 + i) = nI (G 4 i) := by
  obtain ⟨h1, h2, h3, h4, h5⟩ := hI.2.1 i hi
  rw [if_neg (Nat.lt_irrefl i)] at h1 h2 h5
  exact ⟨h1, h2, h3, h4, h5⟩
theorem passN_stay {T G : Tv} {h i : Nat} {σ s : Sg} (hI : passN T G h i σ s) (hn : ¬ (T 5 i = 1 ∧ G 0 i ≠ 160)) (hl : G 1 i = G 2 i) : passN T G h (i + 1) σ s := by
  refine ⟨hI.1, fun b hb => ?_, hI.2.2⟩
  obtain ⟨h1, h2, h3, h4, h5⟩ := hI.2.1 b hb
  by_cases e : b = i
  · subst e
    rw [if_neg (Nat.lt_irrefl b)] at h1 h2 h5
    simp only [Nat.lt_succ_self, if_true]
    refine ⟨?_, by rw [hl]; exact h2, h3, h4, ?_⟩
    · rw [h1]; show _ = nI (if T 5 b = 1 ∧ G 0 b ≠ 160 then _ else _); rw [if_neg hn]
    · rw [h5]; show _ = nI (if T 5 b = 1 ∧ G 0 b ≠ 160 then _ else _); rw [if_neg hn]
  · have e2 : (b < i + 1) = (b < i) := propext ⟨fun _ => by omega, fun _ => by omega⟩
    simp only [e2]
    exact ⟨h1, h2, h3, h4, h5⟩
theorem passN_move {T G : Tv} {h i z : Nat} {σ s : Sg} {f : Nat → Int32} (hI : passN T G h i σ s) (hi : i < 4) (hn : T 5 i = 1 ∧ G 0 i ≠ 160) (hz : z = if goS T i (G 0 i) (G 1 i) h = G 0 i then 1 else 0) (hf : f = upd (upd (upd (s.A 51) (4 + i) (nI (G 1 i))) (16 + i) (nI (G 4 i + z))) i (nI (goS T i (G 0 i) (G 1 i) h))) : passN T G h (i + 1) σ (s.sA 51 f) := by
  subst hf
  refine ⟨same_sA hI.1 (by simp) _, fun b hb => ?_, ?_⟩
  · obtain ⟨h1, h2, h3, h4, h5⟩ := hI.2.1 b hb
    rw [sA_at]
    unfold upd
    by_cases e : b = i
    · subst e
      simp only [Nat.lt_succ_self, if_true]
      refine ⟨?_, ?_, ?_, ?_, ?_⟩
      · show _ = nI (if T 5 b = 1 ∧ G 0 b ≠ 160 then _ else _); rw [if_pos hn]
      · rw [if_neg (show ¬ 4 + b = b by omega), if_neg (show ¬ 4 + b = 16 + b by omega)]
      · rw [if_neg (show ¬ 8 + b = b by omega), if_neg (show ¬ 8 + b = 16 + b by omega), if_neg (show ¬ 8 + b = 4 + b by omega)]; exact h3
      · rw [if_neg (show ¬ 12 + b = b by omega), if_neg (show ¬ 12 + b = 16 + b by omega), if_neg (show ¬ 12 + b = 4 + b by omega)]; exact h4
      · rw [if_neg (show ¬ 16 + b = b by omega)]; show _ = nI (if T 5 b = 1 ∧ G 0 b ≠ 160 then _ else _); rw [if_pos hn, hz]
    · have e2 : (b < i + 1) = (b < i) := propext ⟨fun _ => by omega, fun _ => by omega⟩
      simp only [e2]
      refine ⟨?_, ?_, ?_, ?_, ?_⟩
      · rw [if_neg e, if_neg (show ¬ b = 16 + i by omega), if_neg (show ¬ b = 4 + i by omega)]; exact h1
      · rw [if_neg (show ¬ 4 + b = i by omega), if_neg (show ¬ 4 + b = 16 + i by omega), if_neg (show ¬ 4 + b = 4 + i by omega)]; exact h2
      · rw [if_neg (show ¬ 8 + b = i by omega), if_neg (show ¬ 8 + b = 16 + i by omega), if_neg (show ¬ 8 + b = 4 + i by omega)]; exact h3
      · rw [if_neg (show ¬ 12 + b = i by omega), if_neg (show ¬ 12 + b = 16 + i by omega), if_neg (show ¬ 12 + b = 4 + i by omega)]; exact h4
      · rw [if_neg (show ¬ 16 + b = i by omega), if_neg (show ¬ 16 + b = 16 + i by omega), if_neg (show ¬ 16 + b = 4 + i by omega)]; exact h5
  · rw [sA_at]
    unfold upd
    rw [if_neg (show ¬ 20 = i by omega), if_neg (show ¬ 20 = 16 + i by omega), if_neg (show ¬ 20 = 4 + i by omega)]
    exact hI.2.2
theorem passN_end {T G : Tv} {h : Nat} {σ s : Sg} (hI : passN T G h 4 σ s) : RepN 51 0 (passS T G h) (s.sA 51 (upd (s.A 51) 20 (nI (h + 1)))) := by
  unfold RepN
  rw [sA_at]
  unfold upd
  refine ⟨fun b hb => ?_, ?_⟩
  · obtain ⟨h1, h2, h3, h4, h5⟩ := hI.2.1 b hb
    rw [if_pos hb] at h1 h2 h5
    simp only [Nat.zero_add]
    rw [if_neg (show ¬ b = 20 by omega), if_neg (show ¬ 4 + b = 20 by omega), if_neg (show ¬ 8 + b = 20 by omega), if_neg (show ¬ 12 + b = 20 by omega), if_neg (show ¬ 16 + b = 20 by omega)]
    exact ⟨h1, h2, h3, h4, h5⟩
  · rw [if_pos rfl]; rfl
set_option maxHeartbeats 2000000 in
set_option maxRecDepth 10000 in
theorem m_go {g : Gp} {lau : Launch} {ad : Nat → Nat} {σ : Sg} {T F : Tv} (hT : TOk T) (hR : RepM T σ) (hV : FOk T F) (hF : RepN 51 0 F σ) (n : Int32) : Con g lau yX7_go cX7_go 6 (Option.some .int) 3 74 [.ref (ad 71), .int (n)] ad σ (fun r a2 s2 => some (.int (goR F n)) = r ∧ ad = a2 ∧ same [51] [] [] false σ s2 ∧ RepN 51 0 (goF T F n) s2) := by
  refine con_mk (by decide) (Nat.le_of_ble_eq_true rfl) (fun x hxl K hr => ?_)
  subst hxl
  refine r_lv (lv' := [(0, .ref (ad 71)), (1, .int (n))]) rfl ?_
  have hn8 := hT.2.1
  have hn9 := hT.2.2.1
  have htb := tbits_lt hT
  have hh24 := hV.2.2.1
  refine r_iload_n K 1 rfl rfl dX7_go_0 ?_
  refine r_iconst K ((nI (1))) (by decide) dX7_go_1 ?_
  refine r_bipush K ((nI (24))) (by decide) dX7_go_2 ?_
  refine r_callSp K (As := [.int (n), .int (nI (1)), .int (nI (24))]) ms_X7_in ml_RX7_61 (m_in ((n)) ((nI (1))) ((nI (24)))) rfl rfl (Nat.le_of_ble_eq_true rfl) ⟨by decide, by decide⟩ dX7_go_4 ?_
  refine b_if_ne K 13 dX7_go_7 (by decide) (fun h7 => ?_) (fun h7 => ?_)
  · obtain ⟨m, hm1, hm8, rfl⟩ := inS_t (by decide) (by decide) h7
    have e_m : (nI m).toInt.toNat = m := nI_nat (by omega)
    refine r_iconst K ((nI (0))) (by decide) dX7_go_13 ?_
    refine r_istore_n K (lv' := [(2, .int (nI (0))), (0, .ref (ad 71)), (1, .int (nI (m)))]) 2 rfl (by decide) rfl dX7_go_14 ?_
    refine r_pick [1, 2, 0] (lv' := [(0, .ref (ad 71)), (1, .int (nI (m))), (2, .int (nI (0)))]) rfl ?_
    have lpA : ∀ (mm_ : Nat) (j : Nat) (s1 : Sg), mm_ = m - j → (j ≤ m) → (F 5 0 + j ≤ 24) → (same [51] [] [] false σ s1) → (RepN 51 0 (runS T F j) s1) → GJ g x 6 15 [(0, .ref (ad 71)), (1, .int (nI (m))), (2, .int (nI (j)))] [] ad (s1) := by
      intro mm_
      induction mm_ using Nat.strongRecOn with
      | _ mm_ ihA =>
        intro j s1 hmA hj hj2 hs1 hN1
        have hV1 := runS_ok hT hV j hj2
        have hhj := runS_h T F j
        refine r_iload_n K 2 rfl rfl dX7_go_15 ?_
        refine r_iload_n K 1 rfl rfl dX7_go_16 ?_
        refine n_icmp_ge K 164 (by omega) (by omega) dX7_go_17 (by decide) (fun h17 => ?_) (fun h17 => ?_)
        · refine r_aload_n K 0 rfl rfl dX7_go_164 ?_
          refine get_71_17 K fl_RX7_29 dX7_go_165 ?_
          refine r_bipush K ((nI (20))) (by decide) dX7_go_168 ?_
          refine r_iald K 51 (n := 21) (by decide) rfl rfl (by decide) (by omega) dX7_go_170 ?_
          refine r_topi (b := (nI (F 5 0 + j))) (by have hz := hN1.2; rw [runS_h, Nat.zero_add] at hz; exact hz) ?_
          exact r_iret K hr (⟨by rw [goR, if_pos h7, e_m, show goN F m = F 5 0 + j by unfold goN; omega], rfl, hs1, by rw [goF, if_pos h7, e_m, show goN F m - F 5 0 = j by unfold goN; omega]; exact hN1⟩) dX7_go_171
        · refine r_aload_n K 0 rfl rfl dX7_go_20 ?_
          refine get_71_17 K fl_RX7_29 dX7_go_21 ?_
          refine r_bipush K ((nI (20))) (by decide) dX7_go_24 ?_
          refine r_iald K 51 (n := 21) (by decide) rfl rfl (by decide) (by omega) dX7_go_26 ?_
          refine r_topi (b := (nI (F 5 0 + j))) (by have hz := hN1.2; rw [runS_h, Nat.zero_add] at hz; exact hz) ?_
          refine r_bipush K ((nI (24))) (by decide) dX7_go_27 ?_
          refine n_icmp_ge K 164 (by omega) (by omega) dX7_go_29 (by decide) (fun h29 => ?_) (fun h29 => ?_)
          · refine r_aload_n K 0 rfl rfl dX7_go_164 ?_
            refine get_71_17 K fl_RX7_29 dX7_go_165 ?_
            refine r_bipush K ((nI (20))) (by decide) dX7_go_168 ?_
            refine r_iald K 51 (n := 21) (by decide) rfl rfl (by decide) (by omega) dX7_go_170 ?_
            refine r_topi (b := (nI (F 5 0 + j))) (by have hz := hN1.2; rw [runS_h, Nat.zero_add] at hz; exact hz) ?_
            exact r_iret K hr (⟨by rw [goR, if_pos h7, e_m, show goN F m = F 5 0 + j by unfold goN; omega], rfl, hs1, by rw [goF, if_pos h7, e_m, show goN F m - F 5 0 = j by unfold goN; omega]; exact hN1⟩) dX7_go_171
          · refine r_iconst K ((nI (0))) (by decide) dX7_go_32 ?_
            refine r_istore_n K (lv' := [(3, .int (nI (0))), (0, .ref (ad 71)), (1, .int (nI (m))), (2, .int (nI (j)))]) 3 rfl (by decide) rfl dX7_go_33 ?_
            refine r_pick [1, 2, 3, 0] (lv' := [(0, .ref (ad 71)), (1, .int (nI (m))), (2, .int (nI (j))), (3, .int (nI (0)))]) rfl ?_
            have lpB : ∀ (mm_ : Nat) (i : Nat) (s2 : Sg), mm_ = 4 - i → (i ≤ 4) → (passN T (runS T F j) (F 5 0 + j) i σ s2) → GJ g x 6 34 [(0, .ref (ad 71)), (1, .int (nI (m))), (2, .int (nI (j))), (3, .int (nI (i)))] [] ad (s2) := by
              intro mm_
              induction mm_ using Nat.strongRecOn with
              | _ mm_ ihB =>
                intro i s2 hmB hi hI
                have hR2 : RepM T s2 := hR.same hI.1 (by simp) (by simp)
                have ht5 := (hT.2.2.2.2.2.2.1 i).1
                refine r_iload_n K 3 rfl rfl dX7_go_34 ?_
                refine r_iconst K ((nI (4))) (by decide) dX7_go_35 ?_
                refine n_icmp_ge K 147 (by omega) (by omega) dX7_go_36 (by decide) (fun h36 => ?_) (fun h36 => ?_)
                · refine r_aload_n K 0 rfl rfl dX7_go_147 ?_
                  refine get_71_17 K fl_RX7_29 dX7_go_148 ?_
                  refine r_bipush K ((nI (20))) (by decide) dX7_go_151 ?_
                  refine r_dup2_11 K rfl rfl dX7_go_153 ?_
                  refine r_iald K 51 (n := 21) (by decide) rfl rfl (by decide) (by omega) dX7_go_154 ?_
                  refine r_topi (b := (nI (F 5 0 + j))) (hI.2.2.trans (by rw [runS_h])) ?_
                  refine r_iconst K ((nI (1))) (by decide) dX7_go_155 ?_
                  refine r_iadd K dX7_go_156 ?_
                  refine r_topi (nI_add _ _) ?_
                  refine r_iast K 51 (n := 21) (by decide) rfl rfl (by decide) (by omega) dX7_go_157 ?_
                  refine r_iinc K ((nI (j + 1))) rfl (nI_1 _) (lv' := [(2, .int (nI (j + 1))), (0, .ref (ad 71)), (1, .int (nI (m))), (3, .int (nI (i)))]) (by decide) rfl dX7_go_158 ?_
                  refine r_goto K 15 dX7_go_161 (by decide) ?_
                  refine r_pick [1, 2, 0] (lv' := [(0, .ref (ad 71)), (1, .int (nI (m))), (2, .int (nI (j + 1)))]) rfl ?_
                  exact ihA _ (by omega) (j + 1) ((s2).sA 51 (upd ((s2).A 51) (20) ((nI ((F 5 0 + j) + 1))))) rfl (by omega) (by omega) (same_sA hI.1 (by simp) _) (by have := passN_end ((show i = 4 by omega) ▸ hI); rw [show runS T F (j + 1) = passS T (runS T F j) (F 5 0 + j) from rfl]; exact this)
                · refine r_aload_n K 0 rfl rfl dX7_go_39 ?_
                  refine get_71_4 K fl_RX7_65 dX7_go_40 ?_
                  refine r_topi (b := (nI (tbits T))) (hR2.2.2.1) ?_
                  refine r_iload_n K 3 rfl rfl dX7_go_43 ?_
                  refine r_callSp K (As := [.int (nI (tbits T)), .int (nI (i))]) ms_X7_has ml_RX7_68 (m_has (s := tbits T) (k := i) (by omega) (by omega)) rfl rfl (Nat.le_of_ble_eq_true rfl) ⟨by decide, by decide⟩ dX7_go_44 ?_
                  refine b_if_eq K 141 dX7_go_47 (by decide) (fun h47 => ?_) (fun h47 => ?_)
                  · have ht0 : ¬ T 5 i = 1 := by rw [tbits_at hT (by omega)] at h47; exact of_decide_eq_false h47
                    refine r_iinc K ((nI (i + 1))) rfl (nI_1 _) (lv' := [(3, .int (nI (i + 1))), (0, .ref (ad 71)), (1, .int (nI (m))), (2, .int (nI (j)))]) (by decide) rfl dX7_go_141 ?_
                    refine r_goto K 34 dX7_go_144 (by decide) ?_
                    refine r_pick [1, 2, 3, 0] (lv' := [(0, .ref (ad 71)), (1, .int (nI (m))), (2, .int (nI (j))), (3, .int (nI (i + 1)))]) rfl ?_
                    exact ihB _ (by omega) (i + 1) (s2) rfl (by omega) (passN_stay hI (fun z => by first | exact absurd z.1 ht0 | exact absurd h59 z.2) (hV1.2.2.2 i (by first | exact Or.inl (by omega) | exact Or.inr h59)))
                  · have hv0 := (hV1.1 i).1
                    have ht1 : T 5 i = 1 := by rw [tbits_at hT (by omega)] at h47; exact of_decide_eq_true h47
                    refine r_aload_n K 0 rfl rfl dX7_go_50 ?_
                    refine get_71_17 K fl_RX7_29 dX7_go_51 ?_
                    refine r_iload_n K 3 rfl rfl dX7_go_54 ?_
                    refine r_iald K 51 (n := 21) (by decide) rfl rfl (by decide) (by omega) dX7_go_55 ?_
                    refine r_topi (b := (nI (runS T F j 0 i))) ((passN_at hI (by omega)).1) ?_
                    refine r_sipush K ((nI (160))) (by decide) dX7_go_56 ?_
                    refine n_icmp_eq K 141 (by omega) (by omega) dX7_go_59 (by decide) (fun h59 => ?_) (fun h59 => ?_)
                    · refine r_iinc K ((nI (i + 1))) rfl (nI_1 _) (lv' := [(3, .int (nI (i + 1))), (0, .ref (ad 71)), (1, .int (nI (m))), (2, .int (nI (j)))]) (by decide) rfl dX7_go_141 ?_
                      refine r_goto K 34 dX7_go_144 (by decide) ?_
                      refine r_pick [1, 2, 3, 0] (lv' := [(0, .ref (ad 71)), (1, .int (nI (m))), (2, .int (nI (j))), (3, .int (nI (i + 1)))]) rfl ?_
                      exact ihB _ (by omega) (i + 1) (s2) rfl (by omega) (passN_stay hI (fun z => by first | exact absurd z.1 ht0 | exact absurd h59 z.2) (hV1.2.2.2 i (by first | exact Or.inl (by omega) | exact Or.inr h59)))
                    · have hv0 := (hV1.1 i).1
                      refine r_aload_n K 0 rfl rfl dX7_go_62 ?_
                      refine get_71_17 K fl_RX7_29 dX7_go_63 ?_
                      refine r_bipush K ((nI (8))) (by decide) dX7_go_66 ?_
                      refine r_iload_n K 3 rfl rfl dX7_go_68 ?_
                      refine r_iadd K dX7_go_69 ?_
                      refine r_topi (nI_add _ _) ?_
                      refine r_iald K 51 (n := 21) (by decide) rfl rfl (by decide) (by omega) dX7_go_70 ?_
                      refine r_topi (b := (nI (runS T F j 1 i))) ((passN_at hI (by omega)).2.2.1) ?_
                      refine r_istore K (lv' := [(4, .int (nI (runS T F j 1 i))), (0, .ref (ad 71)), (1, .int (nI (m))), (2, .int (nI (j))), (3, .int (nI (i)))]) (by decide) rfl dX7_go_71 ?_
                      refine r_aload_n K 0 rfl rfl dX7_go_73 ?_
                      refine r_iload_n K 3 rfl rfl dX7_go_74 ?_
                      refine r_aload_n K 0 rfl rfl dX7_go_75 ?_
                      refine get_71_17 K fl_RX7_29 dX7_go_76 ?_
                      refine r_iload_n K 3 rfl rfl dX7_go_79 ?_
                      refine r_iald K 51 (n := 21) (by decide) rfl rfl (by decide) (by omega) dX7_go_80 ?_
                      refine r_topi (b := (nI (runS T F j 0 i))) ((passN_at hI (by omega)).1) ?_
                      refine r_iload K rfl dX7_go_81 ?_
                      refine r_aload_n K 0 rfl rfl dX7_go_83 ?_
                      refine get_71_17 K fl_RX7_29 dX7_go_84 ?_
                      refine r_bipush K ((nI (20))) (by decide) dX7_go_87 ?_
                      refine r_iald K 51 (n := 21) (by decide) rfl rfl (by decide) (by omega) dX7_go_89 ?_
                      refine r_topi (b := (nI (F 5 0 + j))) (hI.2.2.trans (by rw [runS_h])) ?_
                      refine r_callVp K 71 (As := [.int (nI (i)), .int (nI (runS T F j 0 i)), .int (nI (runS T F j 1 i)), .int (nI (F 5 0 + j))]) mv_X7_goes ml_RX7_205 (m_goes hT hR2 (b := i) (p := runS T F j 0 i) (l := runS T F j 1 i) (h := F 5 0 + j) (by omega) (hT.2.2.2.2.2.2.2 _ ht1).1 (hV1.2.1 i).1 (by omega) (validP_or ((hV1.1 i).2 ht1))) (by decide) rfl rfl rfl rfl (Nat.le_of_ble_eq_true rfl) ⟨by decide, by decide⟩ dX7_go_90 ?_
                      have hgo := validP_le hT (validP_go hT ((hV1.1 i).2 ht1) i (runS T F j 1 i) (F 5 0 + j))
                      refine r_istore K (lv' := [(5, .int (nI (goS T i (runS T F j 0 i) (runS T F j 1 i) (F 5 0 + j)))), (4, .int (nI (runS T F j 1 i))), (0, .ref (ad 71)), (1, .int (nI (m))), (2, .int (nI (j))), (3, .int (nI (i)))]) (by decide) rfl dX7_go_93 ?_
                      refine r_aload_n K 0 rfl rfl dX7_go_95 ?_
                      refine get_71_17 K fl_RX7_29 dX7_go_96 ?_
                      refine r_iconst K ((nI (4))) (by decide) dX7_go_99 ?_
                      refine r_iload_n K 3 rfl rfl dX7_go_100 ?_
                      refine r_iadd K dX7_go_101 ?_
                      refine r_topi (nI_add _ _) ?_
                      refine r_iload K rfl dX7_go_102 ?_
                      refine r_iast K 51 (n := 21) (by decide) rfl rfl (by decide) (by omega) dX7_go_104 ?_
                      refine r_aload_n K 0 rfl rfl dX7_go_105 ?_
                      refine get_71_17 K fl_RX7_29 dX7_go_106 ?_
                      refine r_bipush K ((nI (16))) (by decide) dX7_go_109 ?_
                      refine r_iload_n K 3 rfl rfl dX7_go_111 ?_
                      refine r_iadd K dX7_go_112 ?_
                      refine r_topi (nI_add _ _) ?_
                      refine r_dup2_11 K rfl rfl dX7_go_113 ?_
                      refine r_iald K 51 (n := 21) (by decide) rfl rfl (by decide) (by omega) dX7_go_114 ?_
                      refine r_topi (b := (nI (runS T F j 4 i))) (by rw [sA_at]; unfold upd; rw [if_neg (by omega)]; exact (passN_at hI (by omega)).2.2.2.2) ?_
                      refine r_iload K rfl dX7_go_115 ?_
                      refine r_aload_n K 0 rfl rfl dX7_go_117 ?_
                      refine get_71_17 K fl_RX7_29 dX7_go_118 ?_
                      refine r_iload_n K 3 rfl rfl dX7_go_121 ?_
                      refine r_iald K 51 (n := 21) (by decide) rfl rfl (by decide) (by omega) dX7_go_122 ?_
                      refine r_topi (b := (nI (runS T F j 0 i))) (by rw [sA_at]; unfold upd; rw [if_neg (by omega)]; exact (passN_at hI (by omega)).1) ?_
                      refine n_icmp_ne K 130 (by omega) (by omega) dX7_go_123 (by decide) (fun h123 => ?_) (fun h123 => ?_)
                      · refine r_iconst K ((nI (0))) (by decide) dX7_go_130 ?_
                        refine r_iadd K dX7_go_131 ?_
                        refine r_topi (nI_add _ _) ?_
                        refine r_iast K 51 (n := 21) (by decide) rfl rfl (by decide) (by omega) dX7_go_132 ?_
                        refine r_aload_n K 0 rfl rfl dX7_go_133 ?_
                        refine get_71_17 K fl_RX7_29 dX7_go_134 ?_
                        refine r_iload_n K 3 rfl rfl dX7_go_137 ?_
                        refine r_iload K rfl dX7_go_138 ?_
                        refine r_iast K 51 (n := 21) (by decide) rfl rfl (by decide) (by omega) dX7_go_140 ?_
                        refine r_iinc K ((nI (i + 1))) rfl (nI_1 _) (lv' := [(3, .int (nI (i + 1))), (5, .int (nI (goS T i (runS T F j 0 i) (runS T F j 1 i) (F 5 0 + j)))), (4, .int (nI (runS T F j 1 i))), (0, .ref (ad 71)), (1, .int (nI (m))), (2, .int (nI (j)))]) (by decide) rfl dX7_go_141 ?_
                        refine r_goto K 34 dX7_go_144 (by decide) ?_
                        refine r_pick [3, 4, 5, 0] (lv' := [(0, .ref (ad 71)), (1, .int (nI (m))), (2, .int (nI (j))), (3, .int (nI (i + 1)))]) rfl ?_
                        exact ihB _ (by omega) (i + 1) ((((s2).sA 51 (upd ((s2).A 51) (4 + i) ((nI (runS T F j 1 i))))).sA 51 (upd (((s2).sA 51 (upd ((s2).A 51) (4 + i) ((nI (runS T F j 1 i))))).A 51) (16 + i) ((nI ((runS T F j 4 i) + 0))))).sA 51 (upd ((((s2).sA 51 (upd ((s2).A 51) (4 + i) ((nI (runS T F j 1 i))))).sA 51 (upd (((s2).sA 51 (upd ((s2).A 51) (4 + i) ((nI (runS T F j 1 i))))).A 51) (16 + i) ((nI ((runS T F j 4 i) + 0))))).A 51) (i) ((nI (goS T i (runS T F j 0 i) (runS T F j 1 i) (F 5 0 + j)))))) rfl (by omega) (by rw [sA_sA, sA_sA]; exact passN_move hI (by omega) ⟨ht1, h59⟩ (z := 0) (by rw [if_neg h123]) (by rw [sA_at, sA_at]))
                      · refine r_iconst K ((nI (1))) (by decide) dX7_go_126 ?_
                        refine r_goto K 131 dX7_go_127 (by decide) ?_
                        refine r_iadd K dX7_go_131 ?_
                        refine r_topi (nI_add _ _) ?_
                        refine r_iast K 51 (n := 21) (by decide) rfl rfl (by decide) (by omega) dX7_go_132 ?_
                        refine r_aload_n K 0 rfl rfl dX7_go_133 ?_
                        refine get_71_17 K fl_RX7_29 dX7_go_134 ?_
                        refine r_iload_n K 3 rfl rfl dX7_go_137 ?_
                        refine r_iload K rfl dX7_go_138 ?_
                        refine r_iast K 51 (n := 21) (by decide) rfl rfl (by decide) (by omega) dX7_go_140 ?_
                        refine r_iinc K ((nI (i + 1))) rfl (nI_1 _) (lv' := [(3, .int (nI (i + 1))), (5, .int (nI (goS T i (runS T F j 0 i) (runS T F j 1 i) (F 5 0 + j)))), (4, .int (nI (runS T F j 1 i))), (0, .ref (ad 71)), (1, .int (nI (m))), (2, .int (nI (j)))]) (by decide) rfl dX7_go_141 ?_
                        refine r_goto K 34 dX7_go_144 (by decide) ?_
                        refine r_pick [3, 4, 5, 0] (lv' := [(0, .ref (ad 71)), (1, .int (nI (m))), (2, .int (nI (j))), (3, .int (nI (i + 1)))]) rfl ?_
                        exact ihB _ (by omega) (i + 1) ((((s2).sA 51 (upd ((s2).A 51) (4 + i) ((nI (runS T F j 1 i))))).sA 51 (upd (((s2).sA 51 (upd ((s2).A 51) (4 + i) ((nI (runS T F j 1 i))))).A 51) (16 + i) ((nI ((runS T F j 4 i) + 1))))).sA 51 (upd ((((s2).sA 51 (upd ((s2).A 51) (4 + i) ((nI (runS T F j 1 i))))).sA 51 (upd (((s2).sA 51 (upd ((s2).A 51) (4 + i) ((nI (runS T F j 1 i))))).A 51) (16 + i) ((nI ((runS T F j 4 i) + 1))))).A 51) (i) ((nI (goS T i (runS T F j 0 i) (runS T F j 1 i) (F 5 0 + j)))))) rfl (by omega) (by rw [sA_sA, sA_sA]; exact passN_move hI (by omega) ⟨ht1, h59⟩ (z := 1) (by rw [if_pos h123]) (by rw [sA_at, sA_at]))
            exact lpB _ (0) (s1) rfl (by omega) (passN_0 hs1 hN1)
    exact lpA _ (0) (σ) rfl (Nat.zero_le _) (by omega) (same_rf _ _ _ _ _) (hF)
  · refine r_bipush K ((-3)) (by decide) dX7_go_10 ?_
    exact r_iret K hr (⟨by rw [goR, if_neg (by rw [h7]; decide)], rfl, same_rf _ _ _ _ _, by rw [goF, if_neg (by rw [h7]; decide)]; exact hF⟩) dX7_go_12

