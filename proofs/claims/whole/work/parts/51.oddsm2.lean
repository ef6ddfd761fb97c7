theorem six_le4 {n : Nat} (h : n ≤ 4) : 6 ^ n ≤ 1296 := by
  have : (6 : Nat) ^ n ≤ 6 ^ 4 := Nat.pow_le_pow_right (by decide) h
  omega
theorem dgt_lt (c h : Nat) : dgt c h < 6 := Nat.mod_lt _ (by decide)
theorem div_6 (c h : Nat) : c / 6 ^ h / 6 = c / 6 ^ (h + 1) := by rw [Nat.div_div_eq_div_mul, Nat.pow_succ]
theorem prevL_s (ls : Nat → Nat) (h : Nat) : prevL ls (h + 1) = ls h := by unfold prevL; rw [if_neg (by omega)]; rfl
theorem prevL_lt (c : Nat) : ∀ h, prevL (dgt c) h < 6
  | 0 => by unfold prevL; rw [if_pos rfl]; decide
  | h + 1 => by rw [prevL_s]; exact dgt_lt c h
set_option maxHeartbeats 1000000 in
set_option maxRecDepth 10000 in
theorem m_blindOf {g : Gp} {lau : Launch} {ad : Nat → Nat} {σ : Sg} {T : Tv} (hT : TOk T) (hR : RepM T σ) {b n p : Nat} (hb : b < 4) (hw1 : 1 ≤ T 6 b) (hn : n ≤ 4) (hp : p ≤ 10) : Con g lau yX7_blindOf cX7_blindOf 12 (Option.some .long) 4 107 [.ref (ad 71), .int (nI (b)), .int (nI (n)), .int (nI (p))] ad σ (fun r a2 s2 => some (.long (lN (blV T b p n))) = r ∧ ad = a2 ∧ same [55] [] [] false σ s2 ∧ blS T b p n (blV T b p n)) := by
  refine con_mk (by decide) (Nat.le_of_ble_eq_true rfl) (fun x hxl K hr => ?_)
  subst hxl
  refine r_lv (lv' := [(0, .ref (ad 71)), (1, .int (nI (b))), (2, .int (nI (n))), (3, .int (nI (p)))]) rfl ?_
  have hn8 := hT.2.1
  have hn9 := hT.2.2.1
  have h1296 := six_le4 hn
  refine r_lconst K (lN 0) rfl dX7_blindOf_0 ?_
  refine r_lstore K (lv' := [(4, .long (lN (0))), (0, .ref (ad 71)), (1, .int (nI (b))), (2, .int (nI (n))), (3, .int (nI (p)))]) (by decide) rfl dX7_blindOf_1 ?_
  refine r_iconst K ((nI (0))) (by decide) dX7_blindOf_3 ?_
  refine r_istore K (lv' := [(6, .int (nI (0))), (4, .long (lN (0))), (0, .ref (ad 71)), (1, .int (nI (b))), (2, .int (nI (n))), (3, .int (nI (p)))]) (by decide) rfl dX7_blindOf_4 ?_
  refine r_pick [2, 3, 4, 5, 1, 0] (lv' := [(0, .ref (ad 71)), (1, .int (nI (b))), (2, .int (nI (n))), (3, .int (nI (p))), (4, .long (lN (0))), (6, .int (nI (0)))]) rfl ?_
  have lpA : ∀ (mm_ : Nat) (c : Nat) (X : Nat) (s1 : Sg), mm_ = 6 ^ n - c → (c ≤ 6 ^ n) → (same [55] [] [] false σ s1) → (cdH T b p n c X) → GJ g x 12 6 [(0, .ref (ad 71)), (1, .int (nI (b))), (2, .int (nI (n))), (3, .int (nI (p))), (4, .long (lN (X))), (6, .int (nI (c)))] [] ad (s1) := by
    intro mm_
    induction mm_ using Nat.strongRecOn with
    | _ mm_ ihA =>
      intro c X s1 hmA hc hs1 hX
      refine r_iload K rfl dX7_blindOf_6 ?_
      refine r_bipush K ((nI (6))) (by decide) dX7_blindOf_8 ?_
      refine r_iload_n K 2 rfl rfl dX7_blindOf_10 ?_
      refine r_callSp K (As := [.int (nI (6)), .int (nI (n))]) ms_X7_power ml_RX7_250 (m_power (v := 6) (n := n) (by decide) (by omega)) rfl rfl (Nat.le_of_ble_eq_true rfl) ⟨by decide, by decide⟩ dX7_blindOf_11 ?_
      refine r_l2i K dX7_blindOf_14 ?_
      refine r_topi (lN_i _) ?_
      refine n_icmp_ge K 145 (by omega) (by omega) dX7_blindOf_15 (by decide) (fun h15 => ?_) (fun h15 => ?_)
      · refine r_lload K rfl dX7_blindOf_145 ?_
        exact r_lret K hr (⟨by rw [blV_is (cdH_bl (by omega) hX)], rfl, hs1, by rw [blV_is (cdH_bl (by omega) hX)]; exact cdH_bl (by omega) hX⟩) dX7_blindOf_147
      · refine r_iload K rfl dX7_blindOf_18 ?_
        refine r_istore K (lv' := [(7, .int (nI (c))), (0, .ref (ad 71)), (1, .int (nI (b))), (2, .int (nI (n))), (3, .int (nI (p))), (4, .long (lN (X))), (6, .int (nI (c)))]) (by decide) rfl dX7_blindOf_20 ?_
        refine r_iconst K ((nI (0))) (by decide) dX7_blindOf_22 ?_
        refine r_istore K (lv' := [(8, .int (nI (0))), (7, .int (nI (c))), (0, .ref (ad 71)), (1, .int (nI (b))), (2, .int (nI (n))), (3, .int (nI (p))), (4, .long (lN (X))), (6, .int (nI (c)))]) (by decide) rfl dX7_blindOf_23 ?_
        refine r_iconst K ((nI (1))) (by decide) dX7_blindOf_25 ?_
        refine r_istore K (lv' := [(9, .int (nI (1))), (8, .int (nI (0))), (7, .int (nI (c))), (0, .ref (ad 71)), (1, .int (nI (b))), (2, .int (nI (n))), (3, .int (nI (p))), (4, .long (lN (X))), (6, .int (nI (c)))]) (by decide) rfl dX7_blindOf_26 ?_
        refine r_iconst K ((nI (0))) (by decide) dX7_blindOf_28 ?_
        refine r_istore K (lv' := [(10, .int (nI (0))), (9, .int (nI (1))), (8, .int (nI (0))), (7, .int (nI (c))), (0, .ref (ad 71)), (1, .int (nI (b))), (2, .int (nI (n))), (3, .int (nI (p))), (4, .long (lN (X))), (6, .int (nI (c)))]) (by decide) rfl dX7_blindOf_29 ?_
        refine r_lv (lv' := [(10, .int (nI (0))), (9, .int (bI (mayB T b c 0))), (8, .int (nI (prevL (dgt c) 0))), (7, .int (nI (c / 6 ^ 0))), (0, .ref (ad 71)), (1, .int (nI (b))), (2, .int (nI (n))), (3, .int (nI (p))), (4, .long (lN (X))), (6, .int (nI (c)))]) (by rw [Nat.pow_zero, Nat.div_one]; rfl) ?_
        refine r_pick [4, 5, 6, 7, 8, 9, 3, 2, 1, 0] (lv' := [(0, .ref (ad 71)), (1, .int (nI (b))), (2, .int (nI (n))), (3, .int (nI (p))), (4, .long (lN (X))), (6, .int (nI (c))), (7, .int (nI (c / 6 ^ 0))), (8, .int (nI (prevL (dgt c) 0))), (9, .int (bI (mayB T b c 0))), (10, .int (nI (0)))]) rfl ?_
        have lpB : ∀ (mm_ : Nat) (h : Nat) (s2 : Sg), mm_ = n - h → (h ≤ n) → (same [55] [] [] false σ s2) → (∀ i, i < h → s2.A 55 i = nI (dgt c i)) → GJ g x 12 31 [(0, .ref (ad 71)), (1, .int (nI (b))), (2, .int (nI (n))), (3, .int (nI (p))), (4, .long (lN (X))), (6, .int (nI (c))), (7, .int (nI (c / 6 ^ h))), (8, .int (nI (prevL (dgt c) h))), (9, .int (bI (mayB T b c h))), (10, .int (nI (h)))] [] ad (s2) := by
          intro mm_
          induction mm_ using Nat.strongRecOn with
          | _ mm_ ihB =>
            intro h s2 hmB hh hs2 hpl
            refine r_iload K rfl dX7_blindOf_31 ?_
            refine r_iload_n K 2 rfl rfl dX7_blindOf_33 ?_
            refine n_icmp_ge K 103 (by omega) (by omega) dX7_blindOf_34 (by decide) (fun h34 => ?_) (fun h34 => ?_)
            · have hhn : h = n := by omega
              have hmm : mayB T b c h = mayB T b c n := by rw [hhn]
              refine r_iload K rfl dX7_blindOf_103 ?_
              refine b_if_eq K 119 dX7_blindOf_105 (by decide) (fun h105 => ?_) (fun h105 => ?_)
              · have hmay : mayB T b c n = false := by rw [← hmm]; exact h105
                refine r_lconst K (lN 0) rfl dX7_blindOf_119 ?_
                refine r_lstore K (lv' := [(10, .long (lN (0))), (0, .ref (ad 71)), (1, .int (nI (b))), (2, .int (nI (n))), (3, .int (nI (p))), (4, .long (lN (X))), (6, .int (nI (c))), (7, .int (nI (c / 6 ^ h))), (8, .int (nI (prevL (dgt c) h))), (9, .int (bI (mayB T b c h)))]) (by decide) rfl dX7_blindOf_120 ?_
                have hXl := Nat.le_trans (cdH_le hp hX) (pow8 (show n ≤ 8 by omega))
                refine r_lload K rfl dX7_blindOf_122 ?_
                refine r_lload K rfl dX7_blindOf_124 ?_
                refine n_lcmp_le K 135 (⟨by omega, by omega⟩) dX7_blindOf_126 dX7_blindOf_127 (by decide) (fun h126 => ?_) (fun h126 => ?_)
                · refine r_lload K rfl dX7_blindOf_135 ?_
                  refine r_lstore K (lv' := [(4, .long (lN (X))), (10, .long (lN (0))), (0, .ref (ad 71)), (1, .int (nI (b))), (2, .int (nI (n))), (3, .int (nI (p))), (6, .int (nI (c))), (7, .int (nI (c / 6 ^ h))), (8, .int (nI (prevL (dgt c) h))), (9, .int (bI (mayB T b c h)))]) (by decide) rfl dX7_blindOf_137 ?_
                  refine r_iinc K ((nI (c + 1))) rfl (nI_1 _) (lv' := [(6, .int (nI (c + 1))), (4, .long (lN (X))), (10, .long (lN (0))), (0, .ref (ad 71)), (1, .int (nI (b))), (2, .int (nI (n))), (3, .int (nI (p))), (7, .int (nI (c / 6 ^ h))), (8, .int (nI (prevL (dgt c) h))), (9, .int (bI (mayB T b c h)))]) (by decide) rfl dX7_blindOf_139 ?_
                  refine r_goto K 6 dX7_blindOf_142 (by decide) ?_
                  refine r_pick [3, 4, 5, 6, 1, 0] (lv' := [(0, .ref (ad 71)), (1, .int (nI (b))), (2, .int (nI (n))), (3, .int (nI (p))), (4, .long (lN (X))), (6, .int (nI (c + 1)))]) rfl ?_
                  exact ihA _ (by omega) (c + 1) (X) (s2) rfl (by omega) (hs2) (by have hz := hX; first | exact cdH_skip hz hmay | omega)
                · refine r_lload K rfl dX7_blindOf_130 ?_
                  refine r_goto K 137 dX7_blindOf_132 (by decide) ?_
                  refine r_lstore K (lv' := [(4, .long (lN (0))), (10, .long (lN (0))), (0, .ref (ad 71)), (1, .int (nI (b))), (2, .int (nI (n))), (3, .int (nI (p))), (6, .int (nI (c))), (7, .int (nI (c / 6 ^ h))), (8, .int (nI (prevL (dgt c) h))), (9, .int (bI (mayB T b c h)))]) (by decide) rfl dX7_blindOf_137 ?_
                  refine r_iinc K ((nI (c + 1))) rfl (nI_1 _) (lv' := [(6, .int (nI (c + 1))), (4, .long (lN (0))), (10, .long (lN (0))), (0, .ref (ad 71)), (1, .int (nI (b))), (2, .int (nI (n))), (3, .int (nI (p))), (7, .int (nI (c / 6 ^ h))), (8, .int (nI (prevL (dgt c) h))), (9, .int (bI (mayB T b c h)))]) (by decide) rfl dX7_blindOf_139 ?_
                  refine r_goto K 6 dX7_blindOf_142 (by decide) ?_
                  refine r_pick [3, 4, 5, 6, 1, 0] (lv' := [(0, .ref (ad 71)), (1, .int (nI (b))), (2, .int (nI (n))), (3, .int (nI (p))), (4, .long (lN (0))), (6, .int (nI (c + 1)))]) rfl ?_
                  exact ihA _ (by omega) (c + 1) (0) (s2) rfl (by omega) (hs2) (by omega)
              · have hmay : mayB T b c n = true := by rw [← hmm]; exact h105
                refine r_aload_n K 0 rfl rfl dX7_blindOf_108 ?_
                refine r_iload_n K 1 rfl rfl dX7_blindOf_109 ?_
                refine r_iload_n K 2 rfl rfl dX7_blindOf_110 ?_
                refine r_iload_n K 3 rfl rfl dX7_blindOf_111 ?_
                refine r_iload_n K 2 rfl rfl dX7_blindOf_112 ?_
                have hrl := Nat.le_trans (rowV_le (T := T) (b := b) (ls := dgt c) hp n 0 (startS T)) (pow8 (by omega))
                refine r_callVp K 71 (As := [.int (nI (b)), .int (nI (n)), .int (nI (p)), .int (nI (n))]) mv_X7_byRow ml_RX7_246 (m_byRow hT (hR.same hs2 (by simp) (by simp)) (b := b) (n := n) (p := p) (c := n) (ls := dgt c) hb hw1 (by omega) hp (by omega) (dgt_lt c) (fun i hi => by rw [if_neg (by omega), show min i (n - 1) = i by omega]; exact hpl i (by omega))) (by decide) rfl rfl rfl rfl (Nat.le_of_ble_eq_true rfl) ⟨by decide, by decide⟩ dX7_blindOf_113 ?_
                refine r_goto K 120 dX7_blindOf_116 (by decide) ?_
                refine r_lstore K (lv' := [(10, .long (lN (rowV T b p (dgt c) n 0 (startS T)))), (0, .ref (ad 71)), (1, .int (nI (b))), (2, .int (nI (n))), (3, .int (nI (p))), (4, .long (lN (X))), (6, .int (nI (c))), (7, .int (nI (c / 6 ^ h))), (8, .int (nI (prevL (dgt c) h))), (9, .int (bI (mayB T b c h)))]) (by decide) rfl dX7_blindOf_120 ?_
                have hXl := Nat.le_trans (cdH_le hp hX) (pow8 (show n ≤ 8 by omega))
                refine r_lload K rfl dX7_blindOf_122 ?_
                refine r_lload K rfl dX7_blindOf_124 ?_
                refine n_lcmp_le K 135 (⟨by omega, by omega⟩) dX7_blindOf_126 dX7_blindOf_127 (by decide) (fun h126 => ?_) (fun h126 => ?_)
                · refine r_lload K rfl dX7_blindOf_135 ?_
                  refine r_lstore K (lv' := [(4, .long (lN (X))), (10, .long (lN (rowV T b p (dgt c) n 0 (startS T)))), (0, .ref (ad 71)), (1, .int (nI (b))), (2, .int (nI (n))), (3, .int (nI (p))), (6, .int (nI (c))), (7, .int (nI (c / 6 ^ h))), (8, .int (nI (prevL (dgt c) h))), (9, .int (bI (mayB T b c h)))]) (by decide) rfl dX7_blindOf_137 ?_
                  refine r_iinc K ((nI (c + 1))) rfl (nI_1 _) (lv' := [(6, .int (nI (c + 1))), (4, .long (lN (X))), (10, .long (lN (rowV T b p (dgt c) n 0 (startS T)))), (0, .ref (ad 71)), (1, .int (nI (b))), (2, .int (nI (n))), (3, .int (nI (p))), (7, .int (nI (c / 6 ^ h))), (8, .int (nI (prevL (dgt c) h))), (9, .int (bI (mayB T b c h)))]) (by decide) rfl dX7_blindOf_139 ?_
                  refine r_goto K 6 dX7_blindOf_142 (by decide) ?_
                  refine r_pick [3, 4, 5, 6, 1, 0] (lv' := [(0, .ref (ad 71)), (1, .int (nI (b))), (2, .int (nI (n))), (3, .int (nI (p))), (4, .long (lN (X))), (6, .int (nI (c + 1)))]) rfl ?_
                  exact ihA _ (by omega) (c + 1) (X) (s2) rfl (by omega) (hs2) (cdH_keep hX h126)
                · refine r_lload K rfl dX7_blindOf_130 ?_
                  refine r_goto K 137 dX7_blindOf_132 (by decide) ?_
                  refine r_lstore K (lv' := [(4, .long (lN (rowV T b p (dgt c) n 0 (startS T)))), (10, .long (lN (rowV T b p (dgt c) n 0 (startS T)))), (0, .ref (ad 71)), (1, .int (nI (b))), (2, .int (nI (n))), (3, .int (nI (p))), (6, .int (nI (c))), (7, .int (nI (c / 6 ^ h))), (8, .int (nI (prevL (dgt c) h))), (9, .int (bI (mayB T b c h)))]) (by decide) rfl dX7_blindOf_137 ?_
                  refine r_iinc K ((nI (c + 1))) rfl (nI_1 _) (lv' := [(6, .int (nI (c + 1))), (4, .long (lN (rowV T b p (dgt c) n 0 (startS T)))), (10, .long (lN (rowV T b p (dgt c) n 0 (startS T)))), (0, .ref (ad 71)), (1, .int (nI (b))), (2, .int (nI (n))), (3, .int (nI (p))), (7, .int (nI (c / 6 ^ h))), (8, .int (nI (prevL (dgt c) h))), (9, .int (bI (mayB T b c h)))]) (by decide) rfl dX7_blindOf_139 ?_
                  refine r_goto K 6 dX7_blindOf_142 (by decide) ?_
                  refine r_pick [3, 4, 5, 6, 1, 0] (lv' := [(0, .ref (ad 71)), (1, .int (nI (b))), (2, .int (nI (n))), (3, .int (nI (p))), (4, .long (lN (rowV T b p (dgt c) n 0 (startS T)))), (6, .int (nI (c + 1)))]) rfl ?_
                  exact ihA _ (by omega) (c + 1) (rowV T b p (dgt c) n 0 (startS T)) (s2) rfl (by omega) (hs2) (cdH_new hX hmay h126)
            · have hcs : c / 6 ^ h ≤ c := Nat.div_le_self _ _
              refine r_aload_n K 0 rfl rfl dX7_blindOf_37 ?_
              refine get_71_23 K fl_RX7_42 dX7_blindOf_38 ?_
              refine r_iload K rfl dX7_blindOf_41 ?_
              refine r_iload K rfl dX7_blindOf_43 ?_
              refine r_bipush K ((nI (6))) (by decide) dX7_blindOf_45 ?_
              refine r_irem K (nI_ne0 (by omega) (by omega)) dX7_blindOf_47 ?_
              refine r_topi (pk_rem (by omega) (by omega) (by omega)) ?_
              refine r_topi (b := (nI (dgt c h))) (rfl) ?_
              refine r_iast K 55 (n := 24) (by decide) rfl rfl (by decide) (by omega) dX7_blindOf_48 ?_
              refine r_iload K rfl dX7_blindOf_49 ?_
              refine r_bipush K ((nI (6))) (by decide) dX7_blindOf_51 ?_
              refine r_idiv K (nI_ne0 (by omega) (by omega)) dX7_blindOf_53 ?_
              refine r_topi (pk_div (by omega) (by omega) (by omega)) ?_
              refine r_istore K (lv' := [(7, .int (nI ((c / 6 ^ h) / 6))), (0, .ref (ad 71)), (1, .int (nI (b))), (2, .int (nI (n))), (3, .int (nI (p))), (4, .long (lN (X))), (6, .int (nI (c))), (8, .int (nI (prevL (dgt c) h))), (9, .int (bI (mayB T b c h))), (10, .int (nI (h)))]) (by decide) rfl dX7_blindOf_54 ?_
              refine r_iload K rfl dX7_blindOf_56 ?_
              refine b_if_eq K 85 dX7_blindOf_58 (by decide) (fun h58 => ?_) (fun h58 => ?_)
              · refine r_iconst K ((nI (0))) (by decide) dX7_blindOf_85 ?_
                refine r_topi (b := (bI (mayB T b c (h + 1)))) (by first | (rw [mayB, h58]; rfl) | (rw [mayB, decide_eq_false (by omega), Bool.and_false]; rfl)) ?_
                refine r_istore K (lv' := [(9, .int (bI (mayB T b c (h + 1)))), (7, .int (nI ((c / 6 ^ h) / 6))), (0, .ref (ad 71)), (1, .int (nI (b))), (2, .int (nI (n))), (3, .int (nI (p))), (4, .long (lN (X))), (6, .int (nI (c))), (8, .int (nI (prevL (dgt c) h))), (10, .int (nI (h)))]) (by decide) rfl dX7_blindOf_86 ?_
                refine r_aload_n K 0 rfl rfl dX7_blindOf_88 ?_
                refine get_71_23 K fl_RX7_42 dX7_blindOf_89 ?_
                refine r_iload K rfl dX7_blindOf_92 ?_
                refine r_iald K 55 (n := 24) (by decide) rfl rfl (by decide) (by omega) dX7_blindOf_94 ?_
                refine r_topi (b := (nI (dgt c h))) (by rw [sA_at]; unfold upd; rw [if_pos rfl]) ?_
                refine r_istore K (lv' := [(8, .int (nI (dgt c h))), (9, .int (bI (mayB T b c (h + 1)))), (7, .int (nI ((c / 6 ^ h) / 6))), (0, .ref (ad 71)), (1, .int (nI (b))), (2, .int (nI (n))), (3, .int (nI (p))), (4, .long (lN (X))), (6, .int (nI (c))), (10, .int (nI (h)))]) (by decide) rfl dX7_blindOf_95 ?_
                refine r_iinc K ((nI (h + 1))) rfl (nI_1 _) (lv' := [(10, .int (nI (h + 1))), (8, .int (nI (dgt c h))), (9, .int (bI (mayB T b c (h + 1)))), (7, .int (nI ((c / 6 ^ h) / 6))), (0, .ref (ad 71)), (1, .int (nI (b))), (2, .int (nI (n))), (3, .int (nI (p))), (4, .long (lN (X))), (6, .int (nI (c)))]) (by decide) rfl dX7_blindOf_97 ?_
                refine r_goto K 31 dX7_blindOf_100 (by decide) ?_
                refine r_lv (lv' := [(10, .int (nI (h + 1))), (8, .int (nI (prevL (dgt c) (h + 1)))), (9, .int (bI (mayB T b c (h + 1)))), (7, .int (nI (c / 6 ^ (h + 1)))), (0, .ref (ad 71)), (1, .int (nI (b))), (2, .int (nI (n))), (3, .int (nI (p))), (4, .long (lN (X))), (6, .int (nI (c)))]) (by rw [div_6, prevL_s]) ?_
                refine r_pick [4, 5, 6, 7, 8, 9, 3, 1, 2, 0] (lv' := [(0, .ref (ad 71)), (1, .int (nI (b))), (2, .int (nI (n))), (3, .int (nI (p))), (4, .long (lN (X))), (6, .int (nI (c))), (7, .int (nI (c / 6 ^ (h + 1)))), (8, .int (nI (prevL (dgt c) (h + 1)))), (9, .int (bI (mayB T b c (h + 1)))), (10, .int (nI (h + 1)))]) rfl ?_
                exact ihB _ (by omega) (h + 1) ((s2).sA 55 (upd ((s2).A 55) (h) ((nI (dgt c h))))) rfl (by omega) (same_sA hs2 (by simp) _) (fun i hi => by rw [sA_at]; unfold upd; by_cases e : i = h; (rw [if_pos e, e]); (rw [if_neg e]; exact hpl i (by omega)))
              · refine r_iload K rfl dX7_blindOf_61 ?_
                refine r_aload_n K 0 rfl rfl dX7_blindOf_63 ?_
                refine get_71_23 K fl_RX7_42 dX7_blindOf_64 ?_
                refine r_iload K rfl dX7_blindOf_67 ?_
                refine r_iald K 55 (n := 24) (by decide) rfl rfl (by decide) (by omega) dX7_blindOf_69 ?_
                refine r_topi (b := (nI (dgt c h))) (by rw [sA_at]; unfold upd; rw [if_pos rfl]) ?_
                have hd6 := dgt_lt c h
                have hp6 := prevL_lt c h
                have hof5 := offS_le6 hp6 hd6
                refine r_callSp K (As := [.int (nI (prevL (dgt c) h)), .int (nI (dgt c h))]) ms_X7_off ml_RX7_197 (m_off (a := prevL (dgt c) h) (b := dgt c h) (by omega) (by omega)) rfl rfl (Nat.le_of_ble_eq_true rfl) ⟨by decide, by decide⟩ dX7_blindOf_70 ?_
                refine r_aload_n K 0 rfl rfl dX7_blindOf_73 ?_
                refine r_iload_n K 1 rfl rfl dX7_blindOf_74 ?_
                refine r_callVp K 71 (As := [.int (nI (b))]) mv_X7_cordOf ml_RX7_189 (m_cordOf hT (hR.same (same_sA hs2 (by simp) _) (by simp) (by simp)) (b := b) (by omega)) (by decide) rfl rfl rfl rfl (Nat.le_of_ble_eq_true rfl) ⟨by decide, by decide⟩ dX7_blindOf_75 ?_
                have hcd := cordS_le hT b
                refine n_icmp_gt K 85 (by omega) (by omega) dX7_blindOf_78 (by decide) (fun h78 => ?_) (fun h78 => ?_)
                · refine r_iconst K ((nI (0))) (by decide) dX7_blindOf_85 ?_
                  refine r_topi (b := (bI (mayB T b c (h + 1)))) (by first | (rw [mayB, h58]; rfl) | (rw [mayB, decide_eq_false (by omega), Bool.and_false]; rfl)) ?_
                  refine r_istore K (lv' := [(9, .int (bI (mayB T b c (h + 1)))), (7, .int (nI ((c / 6 ^ h) / 6))), (0, .ref (ad 71)), (1, .int (nI (b))), (2, .int (nI (n))), (3, .int (nI (p))), (4, .long (lN (X))), (6, .int (nI (c))), (8, .int (nI (prevL (dgt c) h))), (10, .int (nI (h)))]) (by decide) rfl dX7_blindOf_86 ?_
                  refine r_aload_n K 0 rfl rfl dX7_blindOf_88 ?_
                  refine get_71_23 K fl_RX7_42 dX7_blindOf_89 ?_
                  refine r_iload K rfl dX7_blindOf_92 ?_
                  refine r_iald K 55 (n := 24) (by decide) rfl rfl (by decide) (by omega) dX7_blindOf_94 ?_
                  refine r_topi (b := (nI (dgt c h))) (by rw [sA_at]; unfold upd; rw [if_pos rfl]) ?_
                  refine r_istore K (lv' := [(8, .int (nI (dgt c h))), (9, .int (bI (mayB T b c (h + 1)))), (7, .int (nI ((c / 6 ^ h) / 6))), (0, .ref (ad 71)), (1, .int (nI (b))), (2, .int (nI (n))), (3, .int (nI (p))), (4, .long (lN (X))), (6, .int (nI (c))), (10, .int (nI (h)))]) (by decide) rfl dX7_blindOf_95 ?_
                  refine r_iinc K ((nI (h + 1))) rfl (nI_1 _) (lv' := [(10, .int (nI (h + 1))), (8, .int (nI (dgt c h))), (9, .int (bI (mayB T b c (h + 1)))), (7, .int (nI ((c / 6 ^ h) / 6))), (0, .ref (ad 71)), (1, .int (nI (b))), (2, .int (nI (n))), (3, .int (nI (p))), (4, .long (lN (X))), (6, .int (nI (c)))]) (by decide) rfl dX7_blindOf_97 ?_
                  refine r_goto K 31 dX7_blindOf_100 (by decide) ?_
                  refine r_lv (lv' := [(10, .int (nI (h + 1))), (8, .int (nI (prevL (dgt c) (h + 1)))), (9, .int (bI (mayB T b c (h + 1)))), (7, .int (nI (c / 6 ^ (h + 1)))), (0, .ref (ad 71)), (1, .int (nI (b))), (2, .int (nI (n))), (3, .int (nI (p))), (4, .long (lN (X))), (6, .int (nI (c)))]) (by rw [div_6, prevL_s]) ?_
                  refine r_pick [4, 5, 6, 7, 8, 9, 3, 1, 2, 0] (lv' := [(0, .ref (ad 71)), (1, .int (nI (b))), (2, .int (nI (n))), (3, .int (nI (p))), (4, .long (lN (X))), (6, .int (nI (c))), (7, .int (nI (c / 6 ^ (h + 1)))), (8, .int (nI (prevL (dgt c) (h + 1)))), (9, .int (bI (mayB T b c (h + 1)))), (10, .int (nI (h + 1)))]) rfl ?_
                  exact ihB _ (by omega) (h + 1) ((s2).sA 55 (upd ((s2).A 55) (h) ((nI (dgt c h))))) rfl (by omega) (same_sA hs2 (by simp) _) (fun i hi => by rw [sA_at]; unfold upd; by_cases e : i = h; (rw [if_pos e, e]); (rw [if_neg e]; exact hpl i (by omega)))
                · refine r_iconst K ((nI (1))) (by decide) dX7_blindOf_81 ?_
                  refine r_goto K 86 dX7_blindOf_82 (by decide) ?_
                  refine r_topi (b := (bI (mayB T b c (h + 1)))) (by rw [mayB, h58, decide_eq_true (by omega)]; rfl) ?_
                  refine r_istore K (lv' := [(9, .int (bI (mayB T b c (h + 1)))), (7, .int (nI ((c / 6 ^ h) / 6))), (0, .ref (ad 71)), (1, .int (nI (b))), (2, .int (nI (n))), (3, .int (nI (p))), (4, .long (lN (X))), (6, .int (nI (c))), (8, .int (nI (prevL (dgt c) h))), (10, .int (nI (h)))]) (by decide) rfl dX7_blindOf_86 ?_
                  refine r_aload_n K 0 rfl rfl dX7_blindOf_88 ?_
                  refine get_71_23 K fl_RX7_42 dX7_blindOf_89 ?_
                  refine r_iload K rfl dX7_blindOf_92 ?_
                  refine r_iald K 55 (n := 24) (by decide) rfl rfl (by decide) (by omega) dX7_blindOf_94 ?_
                  refine r_topi (b := (nI (dgt c h))) (by rw [sA_at]; unfold upd; rw [if_pos rfl]) ?_
                  refine r_istore K (lv' := [(8, .int (nI (dgt c h))), (9, .int (bI (mayB T b c (h + 1)))), (7, .int (nI ((c / 6 ^ h) / 6))), (0, .ref (ad 71)), (1, .int (nI (b))), (2, .int (nI (n))), (3, .int (nI (p))), (4, .long (lN (X))), (6, .int (nI (c))), (10, .int (nI (h)))]) (by decide) rfl dX7_blindOf_95 ?_
                  refine r_iinc K ((nI (h + 1))) rfl (nI_1 _) (lv' := [(10, .int (nI (h + 1))), (8, .int (nI (dgt c h))), (9, .int (bI (mayB T b c (h + 1)))), (7, .int (nI ((c / 6 ^ h) / 6))), (0, .ref (ad 71)), (1, .int (nI (b))), (2, .int (nI (n))), (3, .int (nI (p))), (4, .long (lN (X))), (6, .int (nI (c)))]) (by decide) rfl dX7_blindOf_97 ?_
                  refine r_goto K 31 dX7_blindOf_100 (by decide) ?_
                  refine r_lv (lv' := [(10, .int (nI (h + 1))), (8, .int (nI (prevL (dgt c) (h + 1)))), (9, .int (bI (mayB T b c (h + 1)))), (7, .int (nI (c / 6 ^ (h + 1)))), (0, .ref (ad 71)), (1, .int (nI (b))), (2, .int (nI (n))), (3, .int (nI (p))), (4, .long (lN (X))), (6, .int (nI (c)))]) (by rw [div_6, prevL_s]) ?_
                  refine r_pick [4, 5, 6, 7, 8, 9, 3, 1, 2, 0] (lv' := [(0, .ref (ad 71)), (1, .int (nI (b))), (2, .int (nI (n))), (3, .int (nI (p))), (4, .long (lN (X))), (6, .int (nI (c))), (7, .int (nI (c / 6 ^ (h + 1)))), (8, .int (nI (prevL (dgt c) (h + 1)))), (9, .int (bI (mayB T b c (h + 1)))), (10, .int (nI (h + 1)))]) rfl ?_
                  exact ihB _ (by omega) (h + 1) ((s2).sA 55 (upd ((s2).A 55) (h) ((nI (dgt c h))))) rfl (by omega) (same_sA hs2 (by simp) _) (fun i hi => by rw [sA_at]; unfold upd; by_cases e : i = h; (rw [if_pos e, e]); (rw [if_neg e]; exact hpl i (by omega)))
        exact lpB _ (0) (s1) rfl (by omega) (hs1) (fun i hi => absurd hi (Nat.not_lt_zero i))
  exact lpA _ (0) (0) (σ) rfl (Nat.zero_le _) (same_rf _ _ _ _ _) (⟨fun k hk => absurd hk (Nat.not_lt_zero k), Or.inl rfl⟩)

def mlF (σ s2 : Sg) : Prop := same [54, 55, 56, 57, 58] [24, 25] [59] false σ s2
theorem mlF_E {σ s : Sg} (h : mlE σ s) : mlF σ s := same_w h (by simp) (by simp) (by simp) id
set_option maxHeartbeats 400000 in
set_option maxRecDepth 10000 in
theorem m_sight {g : Gp} {lau : Launch} {ad : Nat → Nat} {σ : Sg} {T : Tv} (hT : TOk T) (hR : RepM T σ) (b n p z : Int32) : Con g lau yX7_sight cX7_sight 5 (Option.some .long) 4 109 [.ref (ad 71), .int (b), .int (n), .int (p), .int (z)] ad σ (fun rr a2 s2 => some (.long (sgS T b n p z)) = rr ∧ ad = a2 ∧ mlF σ s2) := by
  refine con_mk (by decide) (Nat.le_of_ble_eq_true rfl) (fun x hxl K hr => ?_)
  subst hxl
  refine r_lv (lv' := [(0, .ref (ad 71)), (1, .int (b)), (2, .int (n)), (3, .int (p)), (4, .int (z))]) rfl ?_
  have hn8 := hT.2.1
  have hn9 := hT.2.2.1
  refine r_aload_n K 0 rfl rfl dX7_sight_0 ?_
  refine r_iload_n K 1 rfl rfl dX7_sight_1 ?_
  refine r_callVp K 71 (As := [.int (b)]) mv_X7_isBarge ml_RX7_186 (m_isBarge hT hR ((b))) (by decide) rfl rfl rfl rfl (Nat.le_of_ble_eq_true rfl) ⟨by decide, by decide⟩ dX7_sight_2 ?_
  refine b_if_ne K 12 dX7_sight_5 (by decide) (fun h5 => ?_) (fun h5 => ?_)
  · obtain ⟨bN, h_bN, rfl, t_bN⟩ := hasB_t h5
    have e_bN : (nI bN).toInt.toNat = bN := nI_nat (by omega)
    refine r_iload_n K 2 rfl rfl dX7_sight_12 ?_
    refine r_bipush K ((nI (8))) (by decide) dX7_sight_13 ?_
    refine r_iload_n K 3 rfl rfl dX7_sight_15 ?_
    refine r_iload K rfl dX7_sight_16 ?_
    refine r_callSp K (As := [.int (n), .int (nI (8)), .int (p), .int (z)]) ms_X7_areOdds ml_RX7_243 (m_areOdds n (nI 8) p z) rfl rfl (Nat.le_of_ble_eq_true rfl) ⟨by decide, by decide⟩ dX7_sight_18 ?_
    refine b_if_eq K 45 dX7_sight_21 (by decide) (fun h21 => ?_) (fun h21 => ?_)
    · refine r_ldc2 K (v := (-3)) kl_RX7_103 dX7_sight_45 ?_
      exact r_lret K hr (⟨by rw [sgS, if_pos h5, if_neg (by rw [h21]; decide)], rfl, same_rf _ _ _ _ _⟩) dX7_sight_48
    · obtain ⟨nN, pN, zN, hnN, hpN, hzN, rfl, rfl, rfl⟩ := odds_t (by decide) h21
      have e_nN : (nI nN).toInt.toNat = nN := nI_nat (by omega)
      have e_pN : (nI pN).toInt.toNat = pN := nI_nat (by omega)
      have e_zN : (nI zN).toInt.toNat = zN := nI_nat (by omega)
      have hw1 := (hT.2.2.2.2.2.2.2 _ t_bN).1
      have h10p : 0 < 10 ^ nN := Nat.pow_pos (by decide)
      have h10l := pow8 (show nN ≤ 8 by omega)
      refine r_aload_n K 0 rfl rfl dX7_sight_24 ?_
      refine r_iload_n K 1 rfl rfl dX7_sight_25 ?_
      refine r_iload_n K 2 rfl rfl dX7_sight_26 ?_
      refine r_iload_n K 3 rfl rfl dX7_sight_27 ?_
      refine r_callV K 71 (As := [.int (nI (bN)), .int (nI (nN)), .int (nI (pN))]) (rest := []) mv_X7_sightOf ml_RX7_258 (m_sightOf hT hR (b := bN) (n := nN) (p := pN) (by omega) hw1 (by omega) hpN) (by decide) rfl rfl rfl rfl (Nat.le_of_ble_eq_true rfl) ⟨by decide, by decide⟩ dX7_sight_28 (fun r_x ad_x s_x h_x => ?_)
      obtain ⟨rfl, rfl, hsx⟩ := h_x
      refine r_st (st' := [.long (lN (seeV T bN pN nN 0 (startS T) 0))]) rfl ?_
      refine r_bipush K ((nI (10))) (by decide) dX7_sight_31 ?_
      refine r_iload_n K 2 rfl rfl dX7_sight_33 ?_
      refine r_callSp K (As := [.int (nI (10)), .int (nI (nN))]) ms_X7_power ml_RX7_250 (m_power (v := 10) (n := nN) (by decide) (by omega)) rfl rfl (Nat.le_of_ble_eq_true rfl) ⟨by decide, by decide⟩ dX7_sight_34 ?_
      refine r_iload K rfl dX7_sight_37 ?_
      refine r_callSp K (As := [.long (lN (seeV T bN pN nN 0 (startS T) 0)), .long (lN (10 ^ nN)), .int (nI (zN))]) ms_X7_part ml_RX7_254 (m_part (a := seeV T bN pN nN 0 (startS T) 0) (b := 10 ^ nN) (z := zN) (Nat.lt_of_le_of_lt (Nat.le_trans (seeV_le hpN _ _ _ _) (pow8 (by omega))) (by decide)) (by omega) h10p hzN) rfl rfl (Nat.le_of_ble_eq_true rfl) ⟨by decide, by decide⟩ dX7_sight_39 ?_
      refine r_goto K 48 dX7_sight_42 (by decide) ?_
      exact r_lret K hr (⟨by rw [sgS, if_pos h5, if_pos h21, e_bN, e_nN, e_pN, e_zN]; rfl, rfl, same_w hsx (by simp) (by simp) (by simp) id⟩) dX7_sight_48
  · refine r_ldc2 K (v := (-2)) kl_RX7_89 dX7_sight_8 ?_
    exact r_lret K hr (⟨by rw [sgS, if_neg (by rw [h5]; decide)], rfl, same_rf _ _ _ _ _⟩) dX7_sight_11

set_option maxHeartbeats 400000 in
set_option maxRecDepth 10000 in
theorem m_blind {g : Gp} {lau : Launch} {ad : Nat → Nat} {σ : Sg} {T : Tv} (hT : TOk T) (hR : RepM T σ) (b n p z : Int32) : Con g lau yX7_blind cX7_blind 5 (Option.some .long) 5 138 [.ref (ad 71), .int (b), .int (n), .int (p), .int (z)] ad σ (fun rr a2 s2 => some (.long (bdS T b n p z)) = rr ∧ ad = a2 ∧ mlF σ s2) := by
  refine con_mk (by decide) (Nat.le_of_ble_eq_true rfl) (fun x hxl K hr => ?_)
  subst hxl
  refine r_lv (lv' := [(0, .ref (ad 71)), (1, .int (b)), (2, .int (n)), (3, .int (p)), (4, .int (z))]) rfl ?_
  have hn8 := hT.2.1
  have hn9 := hT.2.2.1
  refine r_aload_n K 0 rfl rfl dX7_blind_0 ?_
  refine r_iload_n K 1 rfl rfl dX7_blind_1 ?_
  refine r_callVp K 71 (As := [.int (b)]) mv_X7_isBarge ml_RX7_186 (m_isBarge hT hR ((b))) (by decide) rfl rfl rfl rfl (Nat.le_of_ble_eq_true rfl) ⟨by decide, by decide⟩ dX7_blind_2 ?_
  refine b_if_ne K 12 dX7_blind_5 (by decide) (fun h5 => ?_) (fun h5 => ?_)
  · obtain ⟨bN, h_bN, rfl, t_bN⟩ := hasB_t h5
    have e_bN : (nI bN).toInt.toNat = bN := nI_nat (by omega)
    refine r_iload_n K 2 rfl rfl dX7_blind_12 ?_
    refine r_iconst K ((nI (4))) (by decide) dX7_blind_13 ?_
    refine r_iload_n K 3 rfl rfl dX7_blind_14 ?_
    refine r_iload K rfl dX7_blind_15 ?_
    refine r_callSp K (As := [.int (n), .int (nI (4)), .int (p), .int (z)]) ms_X7_areOdds ml_RX7_243 (m_areOdds n (nI 4) p z) rfl rfl (Nat.le_of_ble_eq_true rfl) ⟨by decide, by decide⟩ dX7_blind_17 ?_
    refine b_if_eq K 44 dX7_blind_20 (by decide) (fun h20 => ?_) (fun h20 => ?_)
    · refine r_ldc2 K (v := (-3)) kl_RX7_103 dX7_blind_44 ?_
      exact r_lret K hr (⟨by rw [bdS, if_pos h5, if_neg (by rw [h20]; decide)], rfl, same_rf _ _ _ _ _⟩) dX7_blind_47
    · obtain ⟨nN, pN, zN, hnN, hpN, hzN, rfl, rfl, rfl⟩ := odds_t (by decide) h20
      have e_nN : (nI nN).toInt.toNat = nN := nI_nat (by omega)
      have e_pN : (nI pN).toInt.toNat = pN := nI_nat (by omega)
      have e_zN : (nI zN).toInt.toNat = zN := nI_nat (by omega)
      have hw1 := (hT.2.2.2.2.2.2.2 _ t_bN).1
      have h10p : 0 < 10 ^ nN := Nat.pow_pos (by decide)
      have h10l := pow8 (show nN ≤ 8 by omega)
      refine r_aload_n K 0 rfl rfl dX7_blind_23 ?_
      refine r_iload_n K 1 rfl rfl dX7_blind_24 ?_
      refine r_iload_n K 2 rfl rfl dX7_blind_25 ?_
      refine r_iload_n K 3 rfl rfl dX7_blind_26 ?_
      refine r_callV K 71 (As := [.int (nI (bN)), .int (nI (nN)), .int (nI (pN))]) (rest := []) mv_X7_blindOf ml_RX7_262 (m_blindOf hT hR (b := bN) (n := nN) (p := pN) (by omega) hw1 hnN hpN) (by decide) rfl rfl rfl rfl (Nat.le_of_ble_eq_true rfl) ⟨by decide, by decide⟩ dX7_blind_27 (fun r_y ad_y s_y h_y => ?_)
      obtain ⟨rfl, rfl, hsy, hbl⟩ := h_y
      refine r_st (st' := [.long (lN (blV T bN pN nN))]) rfl ?_
      refine r_bipush K ((nI (10))) (by decide) dX7_blind_30 ?_
      refine r_iload_n K 2 rfl rfl dX7_blind_32 ?_
      refine r_callSp K (As := [.int (nI (10)), .int (nI (nN))]) ms_X7_power ml_RX7_250 (m_power (v := 10) (n := nN) (by decide) (by omega)) rfl rfl (Nat.le_of_ble_eq_true rfl) ⟨by decide, by decide⟩ dX7_blind_33 ?_
      refine r_iload K rfl dX7_blind_36 ?_
      refine r_callSp K (As := [.long (lN (blV T bN pN nN)), .long (lN (10 ^ nN)), .int (nI (zN))]) ms_X7_part ml_RX7_254 (m_part (a := blV T bN pN nN) (b := 10 ^ nN) (z := zN) (Nat.lt_of_le_of_lt (Nat.le_trans (blS_le hpN hbl) (pow8 (by omega))) (by decide)) (by omega) h10p hzN) rfl rfl (Nat.le_of_ble_eq_true rfl) ⟨by decide, by decide⟩ dX7_blind_38 ?_
      refine r_goto K 47 dX7_blind_41 (by decide) ?_
      exact r_lret K hr (⟨by rw [bdS, if_pos h5, if_pos h20, e_bN, e_nN, e_pN, e_zN]; rfl, rfl, same_w hsy (by simp) (by simp) (by simp) id⟩) dX7_blind_47
  · refine r_ldc2 K (v := (-2)) kl_RX7_89 dX7_blind_8 ?_
    exact r_lret K hr (⟨by rw [bdS, if_neg (by rw [h5]; decide)], rfl, same_rf _ _ _ _ _⟩) dX7_blind_11

set_option maxHeartbeats 400000 in
set_option maxRecDepth 10000 in
theorem m_worth {g : Gp} {lau : Launch} {ad : Nat → Nat} {σ : Sg} {T : Tv} (hT : TOk T) (hR : RepM T σ) (b n p z : Int32) : Con g lau yX7_worth cX7_worth 5 (Option.some .long) 5 138 [.ref (ad 71), .int (b), .int (n), .int (p), .int (z)] ad σ (fun rr a2 s2 => some (.long (wtS T b n p z)) = rr ∧ ad = a2 ∧ mlF σ s2) := by
  refine con_mk (by decide) (Nat.le_of_ble_eq_true rfl) (fun x hxl K hr => ?_)
  subst hxl
  refine r_lv (lv' := [(0, .ref (ad 71)), (1, .int (b)), (2, .int (n)), (3, .int (p)), (4, .int (z))]) rfl ?_
  have hn8 := hT.2.1
  have hn9 := hT.2.2.1
  refine r_aload_n K 0 rfl rfl dX7_worth_0 ?_
  refine r_iload_n K 1 rfl rfl dX7_worth_1 ?_
  refine r_callVp K 71 (As := [.int (b)]) mv_X7_isBarge ml_RX7_186 (m_isBarge hT hR ((b))) (by decide) rfl rfl rfl rfl (Nat.le_of_ble_eq_true rfl) ⟨by decide, by decide⟩ dX7_worth_2 ?_
  refine b_if_ne K 12 dX7_worth_5 (by decide) (fun h5 => ?_) (fun h5 => ?_)
  · obtain ⟨bN, h_bN, rfl, t_bN⟩ := hasB_t h5
    have e_bN : (nI bN).toInt.toNat = bN := nI_nat (by omega)
    refine r_iload_n K 2 rfl rfl dX7_worth_12 ?_
    refine r_iconst K ((nI (4))) (by decide) dX7_worth_13 ?_
    refine r_iload_n K 3 rfl rfl dX7_worth_14 ?_
    refine r_iload K rfl dX7_worth_15 ?_
    refine r_callSp K (As := [.int (n), .int (nI (4)), .int (p), .int (z)]) ms_X7_areOdds ml_RX7_243 (m_areOdds n (nI 4) p z) rfl rfl (Nat.le_of_ble_eq_true rfl) ⟨by decide, by decide⟩ dX7_worth_17 ?_
    refine b_if_eq K 52 dX7_worth_20 (by decide) (fun h20 => ?_) (fun h20 => ?_)
    · refine r_ldc2 K (v := (-3)) kl_RX7_103 dX7_worth_52 ?_
      exact r_lret K hr (⟨by rw [wtS, if_pos h5, if_neg (by rw [h20]; decide)], rfl, same_rf _ _ _ _ _⟩) dX7_worth_55
    · obtain ⟨nN, pN, zN, hnN, hpN, hzN, rfl, rfl, rfl⟩ := odds_t (by decide) h20
      have e_nN : (nI nN).toInt.toNat = nN := nI_nat (by omega)
      have e_pN : (nI pN).toInt.toNat = pN := nI_nat (by omega)
      have e_zN : (nI zN).toInt.toNat = zN := nI_nat (by omega)
      have hw1 := (hT.2.2.2.2.2.2.2 _ t_bN).1
      have h10p : 0 < 10 ^ nN := Nat.pow_pos (by decide)
      have h10l := pow8 (show nN ≤ 8 by omega)
      refine r_aload_n K 0 rfl rfl dX7_worth_23 ?_
      refine r_iload_n K 1 rfl rfl dX7_worth_24 ?_
      refine r_iload_n K 2 rfl rfl dX7_worth_25 ?_
      refine r_iload_n K 3 rfl rfl dX7_worth_26 ?_
      refine r_callV K 71 (As := [.int (nI (bN)), .int (nI (nN)), .int (nI (pN))]) (rest := []) mv_X7_sightOf ml_RX7_258 (m_sightOf hT hR (b := bN) (n := nN) (p := pN) (by omega) hw1 (by omega) hpN) (by decide) rfl rfl rfl rfl (Nat.le_of_ble_eq_true rfl) ⟨by decide, by decide⟩ dX7_worth_27 (fun r_x ad_x s_x h_x => ?_)
      obtain ⟨rfl, rfl, hsx⟩ := h_x
      refine r_st (st' := [.long (lN (seeV T bN pN nN 0 (startS T) 0))]) rfl ?_
      refine r_aload_n K 0 rfl rfl dX7_worth_30 ?_
      refine r_iload_n K 1 rfl rfl dX7_worth_31 ?_
      refine r_iload_n K 2 rfl rfl dX7_worth_32 ?_
      refine r_iload_n K 3 rfl rfl dX7_worth_33 ?_
      refine r_callV K 71 (As := [.int (nI (bN)), .int (nI (nN)), .int (nI (pN))]) (rest := [.long (lN (seeV T bN pN nN 0 (startS T) 0))]) mv_X7_blindOf ml_RX7_262 (m_blindOf hT (hR.same hsx (by simp) (by simp)) (b := bN) (n := nN) (p := pN) (by omega) hw1 hnN hpN) (by decide) rfl rfl rfl rfl (Nat.le_of_ble_eq_true rfl) ⟨by decide, by decide⟩ dX7_worth_34 (fun r_y ad_y s_y h_y => ?_)
      obtain ⟨rfl, rfl, hsy, hbl⟩ := h_y
      refine r_st (st' := [.long (lN (blV T bN pN nN)), .long (lN (seeV T bN pN nN 0 (startS T) 0))]) rfl ?_
      refine r_lsub K dX7_worth_37 ?_
      refine r_topl (b := (lN (seeV T bN pN nN 0 (startS T) 0 - blV T bN pN nN))) (lN_sub (blS_see hbl)) ?_
      refine r_bipush K ((nI (10))) (by decide) dX7_worth_38 ?_
      refine r_iload_n K 2 rfl rfl dX7_worth_40 ?_
      refine r_callSp K (As := [.int (nI (10)), .int (nI (nN))]) ms_X7_power ml_RX7_250 (m_power (v := 10) (n := nN) (by decide) (by omega)) rfl rfl (Nat.le_of_ble_eq_true rfl) ⟨by decide, by decide⟩ dX7_worth_41 ?_
      refine r_iload K rfl dX7_worth_44 ?_
      refine r_callSp K (As := [.long (lN (seeV T bN pN nN 0 (startS T) 0 - blV T bN pN nN)), .long (lN (10 ^ nN)), .int (nI (zN))]) ms_X7_part ml_RX7_254 (m_part (a := seeV T bN pN nN 0 (startS T) 0 - blV T bN pN nN) (b := 10 ^ nN) (z := zN) (Nat.lt_of_le_of_lt (Nat.le_trans (Nat.sub_le _ _) (Nat.le_trans (seeV_le hpN _ _ _ _) (pow8 (by omega)))) (by decide)) (by omega) h10p hzN) rfl rfl (Nat.le_of_ble_eq_true rfl) ⟨by decide, by decide⟩ dX7_worth_46 ?_
      refine r_goto K 55 dX7_worth_49 (by decide) ?_
      exact r_lret K hr (⟨by rw [wtS, if_pos h5, if_pos h20, e_bN, e_nN, e_pN, e_zN]; rfl, rfl, same_tr (same_w hsx (by simp) (by simp) (by simp) id) (same_w hsy (by simp) (by simp) (by simp) id)⟩) dX7_worth_55
  · refine r_ldc2 K (v := (-2)) kl_RX7_89 dX7_worth_8 ?_
    exact r_lret K hr (⟨by rw [wtS, if_neg (by rw [h5]; decide)], rfl, same_rf _ _ _ _ _⟩) dX7_worth_11

set_option maxHeartbeats 400000 in
set_option maxRecDepth 10000 in
theorem m_odds {g : Gp} {lau : Launch} {ad : Nat → Nat} {σ : Sg} {T : Tv} (hT : TOk T) (hR : RepM T σ) (b n p z : Int32) : Con g lau yX7_odds cX7_odds 5 (Option.some .long) 7 179 [.ref (ad 71), .int (b), .int (n), .int (p), .int (z)] ad σ (fun rr a2 s2 => some (.long (odS T b n p z)) = rr ∧ ad = a2 ∧ mlF σ s2) := by
  refine con_mk (by decide) (Nat.le_of_ble_eq_true rfl) (fun x hxl K hr => ?_)
  subst hxl
  refine r_lv (lv' := [(0, .ref (ad 71)), (1, .int (b)), (2, .int (n)), (3, .int (p)), (4, .int (z))]) rfl ?_
  have hn8 := hT.2.1
  have hn9 := hT.2.2.1
  refine r_aload_n K 0 rfl rfl dX7_odds_0 ?_
  refine r_iload_n K 1 rfl rfl dX7_odds_1 ?_
  refine r_callVp K 71 (As := [.int (b)]) mv_X7_isBarge ml_RX7_186 (m_isBarge hT hR ((b))) (by decide) rfl rfl rfl rfl (Nat.le_of_ble_eq_true rfl) ⟨by decide, by decide⟩ dX7_odds_2 ?_
  refine b_if_ne K 12 dX7_odds_5 (by decide) (fun h5 => ?_) (fun h5 => ?_)
  · obtain ⟨bN, h_bN, rfl, t_bN⟩ := hasB_t h5
    have e_bN : (nI bN).toInt.toNat = bN := nI_nat (by omega)
    refine r_iload_n K 2 rfl rfl dX7_odds_12 ?_
    refine r_bipush K ((nI (8))) (by decide) dX7_odds_13 ?_
    refine r_iload_n K 3 rfl rfl dX7_odds_15 ?_
    refine r_iload K rfl dX7_odds_16 ?_
    refine r_callSp K (As := [.int (n), .int (nI (8)), .int (p), .int (z)]) ms_X7_areOdds ml_RX7_243 (m_areOdds n (nI 8) p z) rfl rfl (Nat.le_of_ble_eq_true rfl) ⟨by decide, by decide⟩ dX7_odds_18 ?_
    refine b_if_ne K 28 dX7_odds_21 (by decide) (fun h21 => ?_) (fun h21 => ?_)
    · obtain ⟨nN, pN, zN, hnN, hpN, hzN, rfl, rfl, rfl⟩ := odds_t (by decide) h21
      have e_nN : (nI nN).toInt.toNat = nN := nI_nat (by omega)
      have e_pN : (nI pN).toInt.toNat = pN := nI_nat (by omega)
      have e_zN : (nI zN).toInt.toNat = zN := nI_nat (by omega)
      have hw1 := (hT.2.2.2.2.2.2.2 _ t_bN).1
      have h10p : 0 < 10 ^ nN := Nat.pow_pos (by decide)
      have h10l := pow8 (show nN ≤ 8 by omega)
      refine r_aload_n K 0 rfl rfl dX7_odds_28 ?_
      refine r_iload_n K 1 rfl rfl dX7_odds_29 ?_
      refine r_iconst K ((nI (0))) (by decide) dX7_odds_30 ?_
      refine r_callV K 71 (As := [.int (nI (bN)), .int (nI (0))]) (rest := []) mv_X7_isSoonest ml_RX7_236 (m_isSoonest hT hR (b := bN) (h0 := 0) (by omega) (hT.2.2.2.2.2.2.2 _ t_bN).1 (by omega)) (by decide) rfl rfl rfl rfl (Nat.le_of_ble_eq_true rfl) ⟨by decide, by decide⟩ dX7_odds_31 (fun r_q ad_q s_q h_q => ?_)
      obtain ⟨rfl, rfl, hsq, hmq, hzq⟩ := h_q
      refine r_st (st' := [.int (bI (plS T bN kn0 0).isSome)]) rfl ?_
      refine b_if_ne K 41 dX7_odds_34 (by decide) (fun h34 => ?_) (fun h34 => ?_)
      · obtain ⟨ms, hq⟩ := Option.isSome_iff_exists.mp h34
        obtain ⟨h24, h25, hpl⟩ := hmq ms hq
        have hms := pl_six (by omega) ms hq
        have hol : oL (plS T bN kn0 0) = ms := by rw [hq]; rfl
        refine r_aload_n K 0 rfl rfl dX7_odds_41 ?_
        refine r_iload_n K 1 rfl rfl dX7_odds_42 ?_
        refine r_iload_n K 2 rfl rfl dX7_odds_43 ?_
        refine r_iload_n K 3 rfl rfl dX7_odds_44 ?_
        refine r_aload_n K 0 rfl rfl dX7_odds_45 ?_
        refine get_71_21 K fl_RX7_224 dX7_odds_46 ?_
        refine r_topi (b := (nI (ms.length))) (h24) ?_
        refine r_callVp K 71 (As := [.int (nI (bN)), .int (nI (nN)), .int (nI (pN)), .int (nI (ms.length))]) mv_X7_byRow ml_RX7_246 (m_byRow hT (mlE_M hR hsq) (b := bN) (n := nN) (p := pN) (c := ms.length) (ls := keptL ms) (by omega) hw1 (by omega) hpN hms.2 (keptL_lt hms.1) (fun i hi => by unfold keptL; by_cases e : ms.length = 0; (rw [if_pos e, if_pos (by omega)]); (rw [if_neg e, if_neg (by omega)]; exact (hpl _ (by omega)).1))) (by decide) rfl rfl rfl rfl (Nat.le_of_ble_eq_true rfl) ⟨by decide, by decide⟩ dX7_odds_49 ?_
        refine r_bipush K ((nI (10))) (by decide) dX7_odds_52 ?_
        refine r_iload_n K 2 rfl rfl dX7_odds_54 ?_
        refine r_callSp K (As := [.int (nI (10)), .int (nI (nN))]) ms_X7_power ml_RX7_250 (m_power (v := 10) (n := nN) (by decide) (by omega)) rfl rfl (Nat.le_of_ble_eq_true rfl) ⟨by decide, by decide⟩ dX7_odds_55 ?_
        refine r_iload K rfl dX7_odds_58 ?_
        refine r_callSp K (As := [.long (lN (rowV T bN pN (keptL ms) nN 0 (startS T))), .long (lN (10 ^ nN)), .int (nI (zN))]) ms_X7_part ml_RX7_254 (m_part (a := rowV T bN pN (keptL ms) nN 0 (startS T)) (b := 10 ^ nN) (z := zN) (Nat.lt_of_le_of_lt (Nat.le_trans (rowV_le hpN _ _ _) (pow8 (by omega))) (by decide)) (by omega) h10p hzN) rfl rfl (Nat.le_of_ble_eq_true rfl) ⟨by decide, by decide⟩ dX7_odds_60 ?_
        exact r_lret K hr (⟨by rw [odS, if_pos h5, if_pos h21, e_bN, e_nN, e_pN, e_zN, if_neg (by rw [hq]; exact fun z => by cases z), hol]; rfl, rfl, mlF_E hsq⟩) dX7_odds_63
      · refine r_ldc2 K (v := (-4)) kl_RX7_99 dX7_odds_37 ?_
        exact r_lret K hr (⟨by rw [odS, if_pos h5, if_pos h21, e_bN, if_pos (Option.not_isSome_iff_eq_none.mp (by rw [h34]; decide))], rfl, mlF_E hsq⟩) dX7_odds_40
    · refine r_ldc2 K (v := (-3)) kl_RX7_103 dX7_odds_24 ?_
      exact r_lret K hr (⟨by rw [odS, if_pos h5, if_neg (by rw [h21]; decide)], rfl, same_rf _ _ _ _ _⟩) dX7_odds_27
  · refine r_ldc2 K (v := (-2)) kl_RX7_89 dX7_odds_8 ?_
    exact r_lret K hr (⟨by rw [odS, if_neg (by rw [h5]; decide)], rfl, same_rf _ _ _ _ _⟩) dX7_odds_11

