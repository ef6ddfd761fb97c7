theorem isP_iff {T : Tv} {p : Nat} : isP T p = true ↔ validP T p := decide_eq_true_iff
def lfX (T : Tv) (b : Nat) (kn : Nat → Nat → Nat → Bool) (h s : Nat) : Nat := if isP T (s / 6) = true then leftV T b kn (24 - h) (s / 6) (s % 6) else 1000000
theorem lfX_at {T : Tv} {b : Nat} {kn : Nat → Nat → Nat → Bool} {h q m : Nat} (hq : validP T q) (hm : m < 6) : lfX T b kn h (6 * q + m) = leftV T b kn (24 - h) q m := by
  unfold lfX
  rw [show (6 * q + m) / 6 = q by omega, show (6 * q + m) % 6 = m by omega, if_pos (isP_iff.mpr hq)]
theorem lfX_le {T : Tv} {b : Nat} {kn : Nat → Nat → Nat → Bool} {h s : Nat} : lfX T b kn h s ≤ 1000000 := by
  unfold lfX
  split
  · exact leftV_top _ _ _
  · exact Nat.le_refl _
def layV (T : Tv) (b : Nat) (kn : Nat → Nat → Nat → Bool) (h s m : Nat) : Nat := if s / 6 = 160 then 0 else minV (thrV T b kn (leftV T b kn (24 - (h + 1))) h (s / 6) (s % 6)) m
theorem lay_end {T : Tv} {b : Nat} {kn : Nat → Nat → Nat → Bool} {h s m : Nat} (hs : s < 966) (hh : h ≤ 24) (hm : m ≤ 6) (hq : m = 0 ∨ (h < 24 ∧ s / 6 < 160 ∧ isP T (s / 6) = true)) (he : 6 ≤ m ∨ 24 ≤ h ∨ 160 ≤ s / 6 ∨ isP T (s / 6) = false) : layV T b kn h s m = lfX T b kn h s := by
  unfold layV lfX
  by_cases p160 : s / 6 = 160
  · rw [if_pos p160, if_pos (isP_iff.mpr (Or.inl p160)), p160]
    cases 24 - h with
    | zero => rw [leftV, if_pos rfl]
    | succ f => rw [leftV, if_pos rfl]
  · rw [if_neg p160]
    by_cases hi : isP T (s / 6) = true
    · rw [if_pos hi]
      by_cases h24 : h < 24
      · have hm6 : m = 6 := by
          rcases he with he | he | he | he
          · omega
          · omega
          · omega
          · rw [hi] at he; cases he
        subst hm6
        rw [show 24 - h = (24 - (h + 1)) + 1 by omega, leftV, if_neg p160, show 24 - (24 - (h + 1) + 1) = h by omega]
      · have hm0 : m = 0 := by omega
        subst hm0
        rw [show 24 - h = 0 by omega, leftV, if_neg p160]
        rfl
    · rw [if_neg hi]
      have hm0 : m = 0 := hq.resolve_right (fun z => hi z.2.2)
      subst hm0
      rfl
theorem dec_lt {n : Nat} (h : n < 2 ^ 31) : nI n + (-1) < nI n := by
  cases n with
  | zero => decide
  | succ n => rw [pk_m1, nI_ltI (by omega) h]; omega
/-- a first one with a property -/
theorem least {P : Nat → Prop} : ∀ m, P m → ∃ k, k ≤ m ∧ P k ∧ ∀ j, j < k → ¬ P j := by
  intro m
  induction m using Nat.strongRecOn with
  | _ m ih =>
    intro hm
    by_cases h : ∃ j, j < m ∧ P j
    · obtain ⟨j, hj, hp⟩ := h
      obtain ⟨k, hk, h1, h2⟩ := ih j hj hp
      exact ⟨k, by omega, h1, h2⟩
    · exact ⟨m, Nat.le_refl _, hm, fun j hj hp => h ⟨j, hj, hp⟩⟩
theorem grd_ex {T : Tv} {b : Nat} {kn : Nat → Nat → Nat → Bool} : ∀ (f : Nat) {p l : Nat}, leftV T b kn f p l < 1000000 → ∃ ms, grdP T b kn f p l ms
  | 0, p, l, h => by
    rw [leftV] at h
    by_cases hp : p = 160
    · exact ⟨[], hp⟩
    · rw [if_neg hp] at h; omega
  | f + 1, p, l, h => by
    by_cases hp : p = 160
    · exact ⟨[], hp⟩
    · have h0 := h
      rw [leftV, if_neg hp] at h
      obtain ⟨m, hm, he⟩ := minV_ex _ _ h
      obtain ⟨k, hk, h1, h2⟩ := least (P := fun m => thrV T b kn (leftV T b kn f) (24 - (f + 1)) p l m = leftV T b kn (f + 1) p l) m (by rw [leftV, if_neg hp]; exact he)
      obtain ⟨c1, c2, c3, c4⟩ := thrV_lt (show thrV T b kn (leftV T b kn f) (24 - (f + 1)) p l k < 1000000 by rw [h1]; exact h0)
      obtain ⟨ms, hg⟩ := grd_ex f c3
      exact ⟨k :: ms, hp, by omega, h1, h2, hg⟩
theorem drop_s {ms : List Nat} {i : Nat} (hi : i < ms.length) : ms.drop i = ms.getD i 0 :: ms.drop (i + 1) := by
  rw [List.getD_eq_getElem?_getD, List.getElem?_eq_getElem hi, List.drop_eq_getElem_cons hi]
  rfl
/-- the plan as the other one has it -/
def plM (T : Tv) (b h0 : Nat) (o : Option (List Nat)) (s : Sg) : Prop := ∀ ms, o = some ms → s.I 24 = nI ms.length ∧ s.I 25 = nI (runL 0 ms) ∧ ∀ i, i < ms.length → s.A 55 i = nI (ms.getD i 0) ∧ s.A 56 i = nI (endP T b h0 (startS T) (ms.take (i + 1)))
theorem lastL_take {l : Nat} {ms : List Nat} {i : Nat} (hi : i < ms.length) : lastL l (ms.take (i + 1)) = ms.getD i 0 := by rw [take_s hi, lastL_snoc]
theorem endP_take {T : Tv} {b h0 p : Nat} {ms : List Nat} {i : Nat} (hi : i < ms.length) : endP T b h0 p (ms.take (i + 1)) = goS T b (endP T b h0 p (ms.take i)) (ms.getD i 0) (h0 + i) := by
  rw [take_s hi, endP_snoc, List.length_take, Nat.min_eq_left (by omega)]
set_option maxHeartbeats 400000 in
set_option maxRecDepth 10000 in
theorem m_noOther {g : Gp} {lau : Launch} {ad : Nat → Nat} {σ : Sg}  : Con g lau yX7_noOther cX7_noOther 2 (Option.none : Option Jvm.ClassFile.FieldType) 0 0 [.ref (ad 71)] ad σ (fun r a2 s2 => none = r ∧ ad = a2 ∧ same [57, 58] [] [] false σ s2 ∧ ∀ h, h < 24 → s2.A 57 h = nI 160 ∧ s2.A 58 h = nI 0) := by
  refine con_mk (by decide) (Nat.le_of_ble_eq_true rfl) (fun x hxl K hr => ?_)
  subst hxl
  refine r_lv (lv' := [(0, .ref (ad 71))]) rfl ?_
  refine r_iconst K ((nI (0))) (by decide) dX7_noOther_0 ?_
  refine r_istore_n K (lv' := [(1, .int (nI (0))), (0, .ref (ad 71))]) 1 rfl (by decide) rfl dX7_noOther_1 ?_
  refine r_pick [1, 0] (lv' := [(0, .ref (ad 71)), (1, .int (nI (0)))]) rfl ?_
  have lpA : ∀ (mm_ : Nat) (i : Nat) (s1 : Sg), mm_ = 24 - i → (i ≤ 24) → (same [57, 58] [] [] false σ s1) → (∀ j, j < i → s1.A 57 j = nI 160 ∧ s1.A 58 j = nI 0) → GJ g x 2 2 [(0, .ref (ad 71)), (1, .int (nI (i)))] [] ad (s1) := by
    intro mm_
    induction mm_ using Nat.strongRecOn with
    | _ mm_ ihA =>
      intro i s1 hmA hi hs hA
      refine r_iload_n K 1 rfl rfl dX7_noOther_2 ?_
      refine r_bipush K ((nI (24))) (by decide) dX7_noOther_3 ?_
      refine n_icmp_ge K 30 (by omega) (by omega) dX7_noOther_5 (by decide) (fun h5 => ?_) (fun h5 => ?_)
      · exact r_vret K hr (⟨rfl, rfl, hs, fun h hh => hA h (by omega)⟩) dX7_noOther_30
      · refine r_aload_n K 0 rfl rfl dX7_noOther_8 ?_
        refine get_71_25 K fl_RX7_48 dX7_noOther_9 ?_
        refine r_iload_n K 1 rfl rfl dX7_noOther_12 ?_
        refine r_sipush K ((nI (160))) (by decide) dX7_noOther_13 ?_
        refine r_iast K 57 (n := 24) (by decide) rfl rfl (by decide) (by omega) dX7_noOther_16 ?_
        refine r_aload_n K 0 rfl rfl dX7_noOther_17 ?_
        refine get_71_26 K fl_RX7_51 dX7_noOther_18 ?_
        refine r_iload_n K 1 rfl rfl dX7_noOther_21 ?_
        refine r_iconst K ((nI (0))) (by decide) dX7_noOther_22 ?_
        refine r_iast K 58 (n := 24) (by decide) rfl rfl (by decide) (by omega) dX7_noOther_23 ?_
        refine r_w (σ2 := ((s1).sA 57 (upd ((s1).A 57) (i) ((nI (160))))).sA 58 (upd ((s1).A 58) (i) ((nI (0))))) rfl ?_
        refine r_iinc K ((nI (i + 1))) rfl (nI_1 _) (lv' := [(1, .int (nI (i + 1))), (0, .ref (ad 71))]) (by decide) rfl dX7_noOther_24 ?_
        refine r_goto K 2 dX7_noOther_27 (by decide) ?_
        refine r_pick [1, 0] (lv' := [(0, .ref (ad 71)), (1, .int (nI (i + 1)))]) rfl ?_
        exact ihA _ (by omega) (i + 1) (((s1).sA 57 (upd ((s1).A 57) (i) ((nI (160))))).sA 58 (upd ((s1).A 58) (i) ((nI (0))))) rfl (by omega) (same_sA (same_sA hs (by simp) _) (by simp) _) (fun j hj => by rw [sA_at, sA_A, if_neg (by decide), sA_at]; unfold upd; by_cases e : j = i; (rw [if_pos e, if_pos e]; exact ⟨rfl, rfl⟩); (rw [if_neg e, if_neg e]; exact hA j (by omega)))
  exact lpA _ (0) (σ) rfl (by omega) (same_rf _ _ _ _ _) (fun j hj => absurd hj (Nat.not_lt_zero j))

set_option maxHeartbeats 400000 in
set_option maxRecDepth 10000 in
theorem m_through {g : Gp} {lau : Launch} {ad : Nat → Nat} {σ : Sg} {T : Tv} (hT : TOk T) (hR : RepM T σ) {b p l m h : Nat} {kn : Nat → Nat → Nat → Bool} {V : Nat → Nat → Nat} (hb : b < 4) (hw1 : 1 ≤ T 6 b) (hv : validP T p) (hl6 : l < 6) (hm6 : m < 6) (hh : h < 24) (hL : LineR 57 58 kn σ) (hVl : ∀ q m, V q m ≤ 1000000) (hleft : ∀ q m, validP T q → m < 6 → σ.A 54 (966 * (h + 1) + 6 * q + m) = nI (V q m)) : Con g lau yX7_through cX7_through 8 (Option.some .int) 3 74 [.ref (ad 71), .int (nI (b)), .int (nI (p)), .int (nI (l)), .int (nI (m)), .int (nI (h))] ad σ (pu (.int (nI (thrV T b kn V h p l m))) ad σ) := by
  refine con_mk (by decide) (Nat.le_of_ble_eq_true rfl) (fun x hxl K hr => ?_)
  subst hxl
  refine r_lv (lv' := [(0, .ref (ad 71)), (1, .int (nI (b))), (2, .int (nI (p))), (3, .int (nI (l))), (4, .int (nI (m))), (5, .int (nI (h)))]) rfl ?_
  have hn8 := hT.2.1
  have hn9 := hT.2.2.1
  have hof := offS_le6 hl6 hm6
  obtain ⟨lp, ll, hlp, hll, hlp2, hll2, hkn⟩ := hL h hh
  refine r_aload_n K 0 rfl rfl dX7_through_0 ?_
  refine r_iload_n K 1 rfl rfl dX7_through_1 ?_
  refine r_iload_n K 2 rfl rfl dX7_through_2 ?_
  refine r_iload K rfl dX7_through_3 ?_
  refine r_iload K rfl dX7_through_5 ?_
  refine r_callVp K 71 (As := [.int (nI (b)), .int (nI (p)), .int (nI (m)), .int (nI (h))]) mv_X7_goes ml_RX7_205 (m_goes hT hR (b := b) (p := p) (l := m) (h := h) hb hw1 hm6 hh (validP_or hv)) (by decide) rfl rfl rfl rfl (Nat.le_of_ble_eq_true rfl) ⟨by decide, by decide⟩ dX7_through_7 ?_
  have hgo := validP_le hT (validP_go hT hv b m h)
  refine r_istore K (lv' := [(6, .int (nI (goS T b p m h))), (0, .ref (ad 71)), (1, .int (nI (b))), (2, .int (nI (p))), (3, .int (nI (l))), (4, .int (nI (m))), (5, .int (nI (h)))]) (by decide) rfl dX7_through_10 ?_
  refine r_iload_n K 3 rfl rfl dX7_through_12 ?_
  refine r_iload K rfl dX7_through_13 ?_
  refine r_callSp K (As := [.int (nI (l)), .int (nI (m))]) ms_X7_off ml_RX7_197 (m_off (a := l) (b := m) (by omega) (by omega)) rfl rfl (Nat.le_of_ble_eq_true rfl) ⟨by decide, by decide⟩ dX7_through_15 ?_
  refine r_aload_n K 0 rfl rfl dX7_through_18 ?_
  refine r_iload_n K 1 rfl rfl dX7_through_19 ?_
  refine r_callVp K 71 (As := [.int (nI (b))]) mv_X7_cordOf ml_RX7_189 (m_cordOf hT hR (b := b) (by omega)) (by decide) rfl rfl rfl rfl (Nat.le_of_ble_eq_true rfl) ⟨by decide, by decide⟩ dX7_through_20 ?_
  have hcd := cordS_le hT b
  refine n_icmp_gt K 50 (by omega) (by omega) dX7_through_23 (by decide) (fun h23 => ?_) (fun h23 => ?_)
  · refine r_ldc K (v := nI 1000000) ki_RX7_212 dX7_through_50 ?_
    exact r_iret K hr (⟨by rw [thrV, if_pos (by first | exact Or.inl h23 | exact Or.inr (by rw [← hkn]; exact h47))], rfl, rfl⟩) dX7_through_52
  · refine r_iload K rfl dX7_through_26 ?_
    refine r_iload K rfl dX7_through_28 ?_
    refine r_aload_n K 0 rfl rfl dX7_through_30 ?_
    refine get_71_25 K fl_RX7_48 dX7_through_31 ?_
    refine r_iload K rfl dX7_through_34 ?_
    refine r_iald K 57 (n := 24) (by decide) rfl rfl (by decide) (by omega) dX7_through_36 ?_
    refine r_topi (b := (nI (lp))) (hlp) ?_
    refine r_aload_n K 0 rfl rfl dX7_through_37 ?_
    refine get_71_26 K fl_RX7_51 dX7_through_38 ?_
    refine r_iload K rfl dX7_through_41 ?_
    refine r_iald K 58 (n := 24) (by decide) rfl rfl (by decide) (by omega) dX7_through_43 ?_
    refine r_topi (b := (nI (ll))) (hll) ?_
    refine r_callSp K (As := [.int (nI (goS T b p m h)), .int (nI (m)), .int (nI (lp)), .int (nI (ll))]) ms_X7_isKnot ml_RX7_208 (m_isKnot (p := goS T b p m h) (l := m) (q := lp) (m := ll) hgo hm6 hlp2 hll2) rfl rfl (Nat.le_of_ble_eq_true rfl) ⟨by decide, by decide⟩ dX7_through_44 ?_
    refine b_if_eq K 53 dX7_through_47 (by decide) (fun h47 => ?_) (fun h47 => ?_)
    · refine r_aload_n K 0 rfl rfl dX7_through_53 ?_
      refine get_71_20 K fl_RX7_39 dX7_through_54 ?_
      refine r_sipush K ((nI (966))) (by decide) dX7_through_57 ?_
      refine r_iload K rfl dX7_through_60 ?_
      refine r_iconst K ((nI (1))) (by decide) dX7_through_62 ?_
      refine r_iadd K dX7_through_63 ?_
      refine r_topi (nI_add _ _) ?_
      refine r_imul K dX7_through_64 ?_
      refine r_topi (pk_mul _ _) ?_
      refine r_bipush K ((nI (6))) (by decide) dX7_through_65 ?_
      refine r_iload K rfl dX7_through_67 ?_
      refine r_imul K dX7_through_69 ?_
      refine r_topi (pk_mul _ _) ?_
      refine r_iadd K dX7_through_70 ?_
      refine r_topi (nI_add _ _) ?_
      refine r_iload K rfl dX7_through_71 ?_
      refine r_iadd K dX7_through_73 ?_
      refine r_topi (nI_add _ _) ?_
      refine r_iald K 54 (n := 24150) (by decide) rfl rfl (by decide) (by omega) dX7_through_74 ?_
      have hVv := hVl (goS T b p m h) m
      refine r_topi (b := (nI (V (goS T b p m h) m))) (hleft _ _ (validP_go hT hv b m h) hm6) ?_
      refine r_istore K (lv' := [(7, .int (nI (V (goS T b p m h) m))), (6, .int (nI (goS T b p m h))), (0, .ref (ad 71)), (1, .int (nI (b))), (2, .int (nI (p))), (3, .int (nI (l))), (4, .int (nI (m))), (5, .int (nI (h)))]) (by decide) rfl dX7_through_75 ?_
      refine r_iload K rfl dX7_through_77 ?_
      refine r_ldc K (v := nI 1000000) ki_RX7_212 dX7_through_79 ?_
      refine n_icmp_lt K 89 (by omega) (by omega) dX7_through_81 (by decide) (fun h81 => ?_) (fun h81 => ?_)
      · refine r_iload K rfl dX7_through_89 ?_
        refine r_sipush K ((nI (1000))) (by decide) dX7_through_91 ?_
        refine r_iadd K dX7_through_94 ?_
        refine r_topi (nI_add _ _) ?_
        refine r_iload_n K 3 rfl rfl dX7_through_95 ?_
        refine r_iload K rfl dX7_through_96 ?_
        refine r_callSp K (As := [.int (nI (l)), .int (nI (m))]) ms_X7_off ml_RX7_197 (m_off (a := l) (b := m) (by omega) (by omega)) rfl rfl (Nat.le_of_ble_eq_true rfl) ⟨by decide, by decide⟩ dX7_through_98 ?_
        refine r_iadd K dX7_through_101 ?_
        refine r_topi (nI_add _ _) ?_
        exact r_iret K hr (⟨by rw [thrV, if_neg (fun z => by rcases z with z | z; omega; rw [← hkn, h47] at z; cases z), if_neg (Nat.not_le.mpr h81)], rfl, rfl⟩) dX7_through_102
      · refine r_ldc K (v := nI 1000000) ki_RX7_212 dX7_through_84 ?_
        refine r_goto K 102 dX7_through_86 (by decide) ?_
        exact r_iret K hr (⟨by rw [thrV, if_neg (fun z => by rcases z with z | z; omega; rw [← hkn, h47] at z; cases z), if_pos h81], rfl, rfl⟩) dX7_through_102
    · refine r_ldc K (v := nI 1000000) ki_RX7_212 dX7_through_50 ?_
      exact r_iret K hr (⟨by rw [thrV, if_pos (by first | exact Or.inl h23 | exact Or.inr (by rw [← hkn]; exact h47))], rfl, rfl⟩) dX7_through_52

theorem thrV_top {T : Tv} {b : Nat} {kn : Nat → Nat → Nat → Bool} {V : Nat → Nat → Nat} {h p l m : Nat} (hV : ∀ q m, V q m ≤ 1000000) (ho : offS l m ≤ 5) : thrV T b kn V h p l m ≤ 1001005 := by
  unfold thrV
  have := hV (goS T b p m h) m
  split
  · omega
  · split <;> omega
set_option maxHeartbeats 1000000 in
set_option maxRecDepth 10000 in
theorem m_layLeft {g : Gp} {lau : Launch} {ad : Nat → Nat} {σ : Sg} {T : Tv} (hT : TOk T) (hR : RepM T σ) {b h0 : Nat} {kn : Nat → Nat → Nat → Bool} (hb : b < 4) (hw1 : 1 ≤ T 6 b) (hh0 : h0 ≤ 24) (hL : LineR 57 58 kn σ) : Con g lau yX7_layLeft cX7_layLeft 9 (Option.none : Option Jvm.ClassFile.FieldType) 4 101 [.ref (ad 71), .int (nI (b)), .int (nI (h0))] ad σ (fun r a2 s2 => none = r ∧ ad = a2 ∧ same [54] [] [] false σ s2 ∧ ∀ h s, h0 ≤ h → h ≤ 24 → s < 966 → s2.A 54 (966 * h + s) = nI (lfX T b kn h s)) := by
  refine con_mk (by decide) (Nat.le_of_ble_eq_true rfl) (fun x hxl K hr => ?_)
  subst hxl
  refine r_lv (lv' := [(0, .ref (ad 71)), (1, .int (nI (b))), (2, .int (nI (h0)))]) rfl ?_
  have hn8 := hT.2.1
  have hn9 := hT.2.2.1
  refine r_bipush K ((nI (24))) (by decide) dX7_layLeft_0 ?_
  refine r_istore_n K (lv' := [(3, .int (nI (24))), (0, .ref (ad 71)), (1, .int (nI (b))), (2, .int (nI (h0)))]) 3 rfl (by decide) rfl dX7_layLeft_2 ?_
  refine r_lv (lv' := [(3, .int (nI 25 + (-1))), (0, .ref (ad 71)), (1, .int (nI (b))), (2, .int (nI (h0)))]) (by rw [show nI 24 = nI 25 + (-1) by decide]) ?_
  refine r_pick [1, 2, 3, 0] (lv' := [(0, .ref (ad 71)), (1, .int (nI (b))), (2, .int (nI (h0))), (3, .int (nI 25 + (-1)))]) rfl ?_
  have lpA : ∀ (mm_ : Nat) (j : Nat) (s1 : Sg), mm_ = j → (h0 ≤ j) → (j ≤ 25) → (same [54] [] [] false σ s1) → (∀ h s, j ≤ h → h ≤ 24 → s < 966 → s1.A 54 (966 * h + s) = nI (lfX T b kn h s)) → GJ g x 9 3 [(0, .ref (ad 71)), (1, .int (nI (b))), (2, .int (nI (h0))), (3, .int (nI j + (-1)))] [] ad (s1) := by
    intro mm_
    induction mm_ using Nat.strongRecOn with
    | _ mm_ ihA =>
      intro j s1 hmA hj1 hj2 hs1 hA
      refine r_iload_n K 3 rfl rfl dX7_layLeft_3 ?_
      rcases (show h0 = j ∨ h0 < j by omega) with hjq | hjq
      · subst hjq
        refine r_iload_n K 2 rfl rfl dX7_layLeft_4 ?_
        refine r_icmp_lt K 141 dX7_layLeft_5 (by decide) (fun h5 => ?_) (fun h5 => absurd h5 (fun z => z (dec_lt (by omega))))
        exact r_vret K hr (⟨rfl, rfl, hs1, hA⟩) dX7_layLeft_141
      · rw [nI_dec (show 0 < j by omega)]
        refine r_iload_n K 2 rfl rfl dX7_layLeft_4 ?_
        refine n_icmp_lt K 141 (by omega) (by omega) dX7_layLeft_5 (by decide) (fun h5 => absurd h5 (by omega)) (fun h5 => ?_)
        refine r_iconst K ((nI (0))) (by decide) dX7_layLeft_8 ?_
        refine r_istore K (lv' := [(4, .int (nI (0))), (0, .ref (ad 71)), (1, .int (nI (b))), (2, .int (nI (h0))), (3, .int (nI (j - 1)))]) (by decide) rfl dX7_layLeft_9 ?_
        refine r_pick [1, 2, 3, 4, 0] (lv' := [(0, .ref (ad 71)), (1, .int (nI (b))), (2, .int (nI (h0))), (3, .int (nI (j - 1))), (4, .int (nI (0)))]) rfl ?_
        have lpB : ∀ (mm_ : Nat) (s : Nat) (s2 : Sg), mm_ = 966 - s → (s ≤ 966) → (same [54] [] [] false σ s2) → (∀ h s, j ≤ h → h ≤ 24 → s < 966 → s2.A 54 (966 * h + s) = nI (lfX T b kn h s)) → (∀ i, i < s → s2.A 54 (966 * (j - 1) + i) = nI (lfX T b kn (j - 1) i)) → GJ g x 9 11 [(0, .ref (ad 71)), (1, .int (nI (b))), (2, .int (nI (h0))), (3, .int (nI (j - 1))), (4, .int (nI (s)))] [] ad (s2) := by
          intro mm_
          induction mm_ using Nat.strongRecOn with
          | _ mm_ ihB =>
            intro s s2 hmB hs9 hs2 hA2 hB
            refine r_iload K rfl dX7_layLeft_11 ?_
            refine r_sipush K ((nI (966))) (by decide) dX7_layLeft_13 ?_
            refine n_icmp_ge K 135 (by omega) (by omega) dX7_layLeft_16 (by decide) (fun h16 => ?_) (fun h16 => ?_)
            · refine r_iinc K ((nI (j - 1) + (-1))) rfl (by rw [show Int32.ofInt (-1) = (-1 : Int32) from rfl]) (lv' := [(3, .int (nI (j - 1) + (-1))), (0, .ref (ad 71)), (1, .int (nI (b))), (2, .int (nI (h0))), (4, .int (nI (s)))]) (by decide) rfl dX7_layLeft_135 ?_
              refine r_goto K 3 dX7_layLeft_138 (by decide) ?_
              refine r_pick [1, 2, 3, 0] (lv' := [(0, .ref (ad 71)), (1, .int (nI (b))), (2, .int (nI (h0))), (3, .int (nI (j - 1) + (-1)))]) rfl ?_
              exact ihA _ (by omega) (j - 1) (s2) rfl (by omega) (by omega) (hs2) (fun h s h1 h2 h3 => by by_cases e : h = j - 1; (rw [e]; exact hB s (by omega)); (exact hA2 h s (by omega) h2 h3))
            · refine r_iload K rfl dX7_layLeft_19 ?_
              refine r_bipush K ((nI (6))) (by decide) dX7_layLeft_21 ?_
              refine r_idiv K (nI_ne0 (by omega) (by omega)) dX7_layLeft_23 ?_
              refine r_topi (pk_div (by omega) (by omega) (by omega)) ?_
              refine r_istore K (lv' := [(5, .int (nI (s / 6))), (0, .ref (ad 71)), (1, .int (nI (b))), (2, .int (nI (h0))), (3, .int (nI (j - 1))), (4, .int (nI (s)))]) (by decide) rfl dX7_layLeft_24 ?_
              refine r_iload K rfl dX7_layLeft_26 ?_
              refine r_sipush K ((nI (160))) (by decide) dX7_layLeft_28 ?_
              refine n_icmp_ne K 38 (by omega) (by omega) dX7_layLeft_31 (by decide) (fun h31 => ?_) (fun h31 => ?_)
              · refine r_ldc K (v := nI 1000000) ki_RX7_212 dX7_layLeft_38 ?_
                refine r_istore K (lv' := [(6, .int (nI (1000000))), (5, .int (nI (s / 6))), (0, .ref (ad 71)), (1, .int (nI (b))), (2, .int (nI (h0))), (3, .int (nI (j - 1))), (4, .int (nI (s)))]) (by decide) rfl dX7_layLeft_40 ?_
                refine r_iconst K ((nI (0))) (by decide) dX7_layLeft_42 ?_
                refine r_istore K (lv' := [(7, .int (nI (0))), (6, .int (nI (1000000))), (5, .int (nI (s / 6))), (0, .ref (ad 71)), (1, .int (nI (b))), (2, .int (nI (h0))), (3, .int (nI (j - 1))), (4, .int (nI (s)))]) (by decide) rfl dX7_layLeft_43 ?_
                refine r_pick [3, 4, 5, 6, 7, 2, 1, 0] (lv' := [(0, .ref (ad 71)), (1, .int (nI (b))), (2, .int (nI (h0))), (3, .int (nI (j - 1))), (4, .int (nI (s))), (5, .int (nI (s / 6))), (6, .int (nI (1000000))), (7, .int (nI (0)))]) rfl ?_
                have lpC : ∀ (mm_ : Nat) (m : Nat) (v : Nat), mm_ = 6 - m → (m ≤ 6) → (m = 0 ∨ (j - 1 < 24 ∧ s / 6 < 160 ∧ isP T (s / 6) = true)) → (v = layV T b kn (j - 1) s m) → (v ≤ 1000000) → GJ g x 9 45 [(0, .ref (ad 71)), (1, .int (nI (b))), (2, .int (nI (h0))), (3, .int (nI (j - 1))), (4, .int (nI (s))), (5, .int (nI (s / 6))), (6, .int (nI (v))), (7, .int (nI (m)))] [] ad (s2) := by
                  intro mm_
                  induction mm_ using Nat.strongRecOn with
                  | _ mm_ ihC =>
                    intro m v hmC hm hq hv hv2
                    refine r_iload K rfl dX7_layLeft_45 ?_
                    refine r_bipush K ((nI (6))) (by decide) dX7_layLeft_47 ?_
                    refine n_icmp_ge K 114 (by omega) (by omega) dX7_layLeft_49 (by decide) (fun h49 => ?_) (fun h49 => ?_)
                    · refine r_aload_n K 0 rfl rfl dX7_layLeft_114 ?_
                      refine get_71_20 K fl_RX7_39 dX7_layLeft_115 ?_
                      refine r_sipush K ((nI (966))) (by decide) dX7_layLeft_118 ?_
                      refine r_iload_n K 3 rfl rfl dX7_layLeft_121 ?_
                      refine r_imul K dX7_layLeft_122 ?_
                      refine r_topi (pk_mul _ _) ?_
                      refine r_iload K rfl dX7_layLeft_123 ?_
                      refine r_iadd K dX7_layLeft_125 ?_
                      refine r_topi (nI_add _ _) ?_
                      refine r_iload K rfl dX7_layLeft_126 ?_
                      refine r_iast K 54 (n := 24150) (by decide) rfl rfl (by decide) (by omega) dX7_layLeft_128 ?_
                      refine r_iinc K ((nI (s + 1))) rfl (nI_1 _) (lv' := [(4, .int (nI (s + 1))), (0, .ref (ad 71)), (1, .int (nI (b))), (2, .int (nI (h0))), (3, .int (nI (j - 1))), (5, .int (nI (s / 6))), (6, .int (nI (v))), (7, .int (nI (m)))]) (by decide) rfl dX7_layLeft_129 ?_
                      refine r_goto K 11 dX7_layLeft_132 (by decide) ?_
                      refine r_pick [1, 2, 3, 4, 0] (lv' := [(0, .ref (ad 71)), (1, .int (nI (b))), (2, .int (nI (h0))), (3, .int (nI (j - 1))), (4, .int (nI (s + 1)))]) rfl ?_
                      exact ihB _ (by omega) (s + 1) ((s2).sA 54 (upd ((s2).A 54) ((966 * (j - 1)) + s) ((nI (v))))) rfl (by omega) (same_sA hs2 (by simp) _) (fun h i h1 h2 h3 => by rw [sA_at]; unfold upd; rw [if_neg (by omega)]; exact hA2 h i h1 h2 h3) (fun i hi => by rw [sA_at]; unfold upd; by_cases e : i = s; (rw [if_pos (by omega), e, hv, lay_end (by omega) (by omega) hm hq (by first | omega | exact Or.inr (Or.inr (Or.inr h72)))]); (rw [if_neg (by omega)]; exact hB i (by omega)))
                    · refine r_iload_n K 3 rfl rfl dX7_layLeft_52 ?_
                      refine r_bipush K ((nI (24))) (by decide) dX7_layLeft_53 ?_
                      refine n_icmp_ge K 114 (by omega) (by omega) dX7_layLeft_55 (by decide) (fun h55 => ?_) (fun h55 => ?_)
                      · refine r_aload_n K 0 rfl rfl dX7_layLeft_114 ?_
                        refine get_71_20 K fl_RX7_39 dX7_layLeft_115 ?_
                        refine r_sipush K ((nI (966))) (by decide) dX7_layLeft_118 ?_
                        refine r_iload_n K 3 rfl rfl dX7_layLeft_121 ?_
                        refine r_imul K dX7_layLeft_122 ?_
                        refine r_topi (pk_mul _ _) ?_
                        refine r_iload K rfl dX7_layLeft_123 ?_
                        refine r_iadd K dX7_layLeft_125 ?_
                        refine r_topi (nI_add _ _) ?_
                        refine r_iload K rfl dX7_layLeft_126 ?_
                        refine r_iast K 54 (n := 24150) (by decide) rfl rfl (by decide) (by omega) dX7_layLeft_128 ?_
                        refine r_iinc K ((nI (s + 1))) rfl (nI_1 _) (lv' := [(4, .int (nI (s + 1))), (0, .ref (ad 71)), (1, .int (nI (b))), (2, .int (nI (h0))), (3, .int (nI (j - 1))), (5, .int (nI (s / 6))), (6, .int (nI (v))), (7, .int (nI (m)))]) (by decide) rfl dX7_layLeft_129 ?_
                        refine r_goto K 11 dX7_layLeft_132 (by decide) ?_
                        refine r_pick [1, 2, 3, 4, 0] (lv' := [(0, .ref (ad 71)), (1, .int (nI (b))), (2, .int (nI (h0))), (3, .int (nI (j - 1))), (4, .int (nI (s + 1)))]) rfl ?_
                        exact ihB _ (by omega) (s + 1) ((s2).sA 54 (upd ((s2).A 54) ((966 * (j - 1)) + s) ((nI (v))))) rfl (by omega) (same_sA hs2 (by simp) _) (fun h i h1 h2 h3 => by rw [sA_at]; unfold upd; rw [if_neg (by omega)]; exact hA2 h i h1 h2 h3) (fun i hi => by rw [sA_at]; unfold upd; by_cases e : i = s; (rw [if_pos (by omega), e, hv, lay_end (by omega) (by omega) hm hq (by first | omega | exact Or.inr (Or.inr (Or.inr h72)))]); (rw [if_neg (by omega)]; exact hB i (by omega)))
                      · refine r_iload K rfl dX7_layLeft_58 ?_
                        refine r_sipush K ((nI (160))) (by decide) dX7_layLeft_60 ?_
                        refine n_icmp_ge K 114 (by omega) (by omega) dX7_layLeft_63 (by decide) (fun h63 => ?_) (fun h63 => ?_)
                        · refine r_aload_n K 0 rfl rfl dX7_layLeft_114 ?_
                          refine get_71_20 K fl_RX7_39 dX7_layLeft_115 ?_
                          refine r_sipush K ((nI (966))) (by decide) dX7_layLeft_118 ?_
                          refine r_iload_n K 3 rfl rfl dX7_layLeft_121 ?_
                          refine r_imul K dX7_layLeft_122 ?_
                          refine r_topi (pk_mul _ _) ?_
                          refine r_iload K rfl dX7_layLeft_123 ?_
                          refine r_iadd K dX7_layLeft_125 ?_
                          refine r_topi (nI_add _ _) ?_
                          refine r_iload K rfl dX7_layLeft_126 ?_
                          refine r_iast K 54 (n := 24150) (by decide) rfl rfl (by decide) (by omega) dX7_layLeft_128 ?_
                          refine r_iinc K ((nI (s + 1))) rfl (nI_1 _) (lv' := [(4, .int (nI (s + 1))), (0, .ref (ad 71)), (1, .int (nI (b))), (2, .int (nI (h0))), (3, .int (nI (j - 1))), (5, .int (nI (s / 6))), (6, .int (nI (v))), (7, .int (nI (m)))]) (by decide) rfl dX7_layLeft_129 ?_
                          refine r_goto K 11 dX7_layLeft_132 (by decide) ?_
                          refine r_pick [1, 2, 3, 4, 0] (lv' := [(0, .ref (ad 71)), (1, .int (nI (b))), (2, .int (nI (h0))), (3, .int (nI (j - 1))), (4, .int (nI (s + 1)))]) rfl ?_
                          exact ihB _ (by omega) (s + 1) ((s2).sA 54 (upd ((s2).A 54) ((966 * (j - 1)) + s) ((nI (v))))) rfl (by omega) (same_sA hs2 (by simp) _) (fun h i h1 h2 h3 => by rw [sA_at]; unfold upd; rw [if_neg (by omega)]; exact hA2 h i h1 h2 h3) (fun i hi => by rw [sA_at]; unfold upd; by_cases e : i = s; (rw [if_pos (by omega), e, hv, lay_end (by omega) (by omega) hm hq (by first | omega | exact Or.inr (Or.inr (Or.inr h72)))]); (rw [if_neg (by omega)]; exact hB i (by omega)))
                        · refine r_aload_n K 0 rfl rfl dX7_layLeft_66 ?_
                          refine r_iload K rfl dX7_layLeft_67 ?_
                          refine r_callVp K 71 (As := [.int (nI (s / 6))]) mv_X7_isPlace ml_RX7_213 (m_isPlace hT (hR.same hs2 (by simp) (by simp)) (p := s / 6) (by omega)) (by decide) rfl rfl rfl rfl (Nat.le_of_ble_eq_true rfl) ⟨by decide, by decide⟩ dX7_layLeft_69 ?_
                          refine b_if_eq K 114 dX7_layLeft_72 (by decide) (fun h72 => ?_) (fun h72 => ?_)
                          · refine r_aload_n K 0 rfl rfl dX7_layLeft_114 ?_
                            refine get_71_20 K fl_RX7_39 dX7_layLeft_115 ?_
                            refine r_sipush K ((nI (966))) (by decide) dX7_layLeft_118 ?_
                            refine r_iload_n K 3 rfl rfl dX7_layLeft_121 ?_
                            refine r_imul K dX7_layLeft_122 ?_
                            refine r_topi (pk_mul _ _) ?_
                            refine r_iload K rfl dX7_layLeft_123 ?_
                            refine r_iadd K dX7_layLeft_125 ?_
                            refine r_topi (nI_add _ _) ?_
                            refine r_iload K rfl dX7_layLeft_126 ?_
                            refine r_iast K 54 (n := 24150) (by decide) rfl rfl (by decide) (by omega) dX7_layLeft_128 ?_
                            refine r_iinc K ((nI (s + 1))) rfl (nI_1 _) (lv' := [(4, .int (nI (s + 1))), (0, .ref (ad 71)), (1, .int (nI (b))), (2, .int (nI (h0))), (3, .int (nI (j - 1))), (5, .int (nI (s / 6))), (6, .int (nI (v))), (7, .int (nI (m)))]) (by decide) rfl dX7_layLeft_129 ?_
                            refine r_goto K 11 dX7_layLeft_132 (by decide) ?_
                            refine r_pick [1, 2, 3, 4, 0] (lv' := [(0, .ref (ad 71)), (1, .int (nI (b))), (2, .int (nI (h0))), (3, .int (nI (j - 1))), (4, .int (nI (s + 1)))]) rfl ?_
                            exact ihB _ (by omega) (s + 1) ((s2).sA 54 (upd ((s2).A 54) ((966 * (j - 1)) + s) ((nI (v))))) rfl (by omega) (same_sA hs2 (by simp) _) (fun h i h1 h2 h3 => by rw [sA_at]; unfold upd; rw [if_neg (by omega)]; exact hA2 h i h1 h2 h3) (fun i hi => by rw [sA_at]; unfold upd; by_cases e : i = s; (rw [if_pos (by omega), e, hv, lay_end (by omega) (by omega) hm hq (by first | omega | exact Or.inr (Or.inr (Or.inr h72)))]); (rw [if_neg (by omega)]; exact hB i (by omega)))
                          · refine r_aload_n K 0 rfl rfl dX7_layLeft_75 ?_
                            refine r_iload_n K 1 rfl rfl dX7_layLeft_76 ?_
                            refine r_iload K rfl dX7_layLeft_77 ?_
                            refine r_iload K rfl dX7_layLeft_79 ?_
                            refine r_bipush K ((nI (6))) (by decide) dX7_layLeft_81 ?_
                            refine r_irem K (nI_ne0 (by omega) (by omega)) dX7_layLeft_83 ?_
                            refine r_topi (pk_rem (by omega) (by omega) (by omega)) ?_
                            refine r_iload K rfl dX7_layLeft_84 ?_
                            refine r_iload_n K 3 rfl rfl dX7_layLeft_86 ?_
                            refine r_callVp K 71 (As := [.int (nI (b)), .int (nI (s / 6)), .int (nI (s % 6)), .int (nI (m)), .int (nI (j - 1))]) mv_X7_through ml_RX7_216 (m_through hT (hR.same hs2 (by simp) (by simp)) (b := b) (p := s / 6) (l := s % 6) (m := m) (h := j - 1) (kn := kn) (V := leftV T b kn (24 - (j - 1 + 1))) hb hw1 (isP_iff.mp h72) (by omega) (by omega) (by omega) (LineR_same hL hs2 (by simp) (by simp)) (fun q m => leftV_top _ _ _) (fun q m hq hm => by rw [show 966 * (j - 1 + 1) + 6 * q + m = 966 * j + (6 * q + m) by omega, hA2 j _ (Nat.le_refl _) (by omega) (by have := validP_le hT hq; omega), lfX_at hq hm, show j - 1 + 1 = j by omega])) (by decide) rfl rfl rfl rfl (Nat.le_of_ble_eq_true rfl) ⟨by decide, by decide⟩ dX7_layLeft_87 ?_
                            have htv : thrV T b kn (leftV T b kn (24 - (j - 1 + 1))) (j - 1) (s / 6) (s % 6) m ≤ 1001005 := thrV_top (fun q m => leftV_top _ _ _) (by unfold offS; split <;> omega)
                            refine r_istore K (lv' := [(8, .int (nI (thrV T b kn (leftV T b kn (24 - (j - 1 + 1))) (j - 1) (s / 6) (s % 6) m))), (0, .ref (ad 71)), (1, .int (nI (b))), (2, .int (nI (h0))), (3, .int (nI (j - 1))), (4, .int (nI (s))), (5, .int (nI (s / 6))), (6, .int (nI (v))), (7, .int (nI (m)))]) (by decide) rfl dX7_layLeft_90 ?_
                            refine r_iload K rfl dX7_layLeft_92 ?_
                            refine r_iload K rfl dX7_layLeft_94 ?_
                            refine n_icmp_ge K 104 (by omega) (by omega) dX7_layLeft_96 (by decide) (fun h96 => ?_) (fun h96 => ?_)
                            · refine r_iload K rfl dX7_layLeft_104 ?_
                              refine r_istore K (lv' := [(6, .int (nI (v))), (8, .int (nI (thrV T b kn (leftV T b kn (24 - (j - 1 + 1))) (j - 1) (s / 6) (s % 6) m))), (0, .ref (ad 71)), (1, .int (nI (b))), (2, .int (nI (h0))), (3, .int (nI (j - 1))), (4, .int (nI (s))), (5, .int (nI (s / 6))), (7, .int (nI (m)))]) (by decide) rfl dX7_layLeft_106 ?_
                              refine r_iinc K ((nI (m + 1))) rfl (nI_1 _) (lv' := [(7, .int (nI (m + 1))), (6, .int (nI (v))), (8, .int (nI (thrV T b kn (leftV T b kn (24 - (j - 1 + 1))) (j - 1) (s / 6) (s % 6) m))), (0, .ref (ad 71)), (1, .int (nI (b))), (2, .int (nI (h0))), (3, .int (nI (j - 1))), (4, .int (nI (s))), (5, .int (nI (s / 6)))]) (by decide) rfl dX7_layLeft_108 ?_
                              refine r_goto K 45 dX7_layLeft_111 (by decide) ?_
                              refine r_pick [3, 4, 5, 6, 7, 8, 1, 0] (lv' := [(0, .ref (ad 71)), (1, .int (nI (b))), (2, .int (nI (h0))), (3, .int (nI (j - 1))), (4, .int (nI (s))), (5, .int (nI (s / 6))), (6, .int (nI (v))), (7, .int (nI (m + 1)))]) rfl ?_
                              exact ihC _ (by omega) (m + 1) (_) rfl (by omega) (Or.inr ⟨by omega, by omega, h72⟩) (by rw [layV, if_neg (by omega), minV, if_neg (by rw [layV, if_neg (by omega)] at hv; omega)]; rw [layV, if_neg (by omega)] at hv; exact hv) (by omega)
                            · refine r_iload K rfl dX7_layLeft_99 ?_
                              refine r_goto K 106 dX7_layLeft_101 (by decide) ?_
                              refine r_istore K (lv' := [(6, .int (nI (thrV T b kn (leftV T b kn (24 - (j - 1 + 1))) (j - 1) (s / 6) (s % 6) m))), (8, .int (nI (thrV T b kn (leftV T b kn (24 - (j - 1 + 1))) (j - 1) (s / 6) (s % 6) m))), (0, .ref (ad 71)), (1, .int (nI (b))), (2, .int (nI (h0))), (3, .int (nI (j - 1))), (4, .int (nI (s))), (5, .int (nI (s / 6))), (7, .int (nI (m)))]) (by decide) rfl dX7_layLeft_106 ?_
                              refine r_iinc K ((nI (m + 1))) rfl (nI_1 _) (lv' := [(7, .int (nI (m + 1))), (6, .int (nI (thrV T b kn (leftV T b kn (24 - (j - 1 + 1))) (j - 1) (s / 6) (s % 6) m))), (8, .int (nI (thrV T b kn (leftV T b kn (24 - (j - 1 + 1))) (j - 1) (s / 6) (s % 6) m))), (0, .ref (ad 71)), (1, .int (nI (b))), (2, .int (nI (h0))), (3, .int (nI (j - 1))), (4, .int (nI (s))), (5, .int (nI (s / 6)))]) (by decide) rfl dX7_layLeft_108 ?_
                              refine r_goto K 45 dX7_layLeft_111 (by decide) ?_
                              refine r_pick [3, 4, 5, 6, 7, 8, 1, 0] (lv' := [(0, .ref (ad 71)), (1, .int (nI (b))), (2, .int (nI (h0))), (3, .int (nI (j - 1))), (4, .int (nI (s))), (5, .int (nI (s / 6))), (6, .int (nI (thrV T b kn (leftV T b kn (24 - (j - 1 + 1))) (j - 1) (s / 6) (s % 6) m))), (7, .int (nI (m + 1)))]) rfl ?_
                              exact ihC _ (by omega) (m + 1) (_) rfl (by omega) (Or.inr ⟨by omega, by omega, h72⟩) (by rw [layV, if_neg (by omega), minV, if_pos (by rw [layV, if_neg (by omega)] at hv; omega)]) (by omega)
                exact lpC _ (0) (_) rfl (by omega) (Or.inl rfl) (by rw [layV]; first | rw [if_pos h31] | (rw [if_neg h31]; rfl)) (by omega)
              · refine r_iconst K ((nI (0))) (by decide) dX7_layLeft_34 ?_
                refine r_goto K 40 dX7_layLeft_35 (by decide) ?_
                refine r_istore K (lv' := [(6, .int (nI (0))), (5, .int (nI (s / 6))), (0, .ref (ad 71)), (1, .int (nI (b))), (2, .int (nI (h0))), (3, .int (nI (j - 1))), (4, .int (nI (s)))]) (by decide) rfl dX7_layLeft_40 ?_
                refine r_iconst K ((nI (0))) (by decide) dX7_layLeft_42 ?_
                refine r_istore K (lv' := [(7, .int (nI (0))), (6, .int (nI (0))), (5, .int (nI (s / 6))), (0, .ref (ad 71)), (1, .int (nI (b))), (2, .int (nI (h0))), (3, .int (nI (j - 1))), (4, .int (nI (s)))]) (by decide) rfl dX7_layLeft_43 ?_
                refine r_pick [3, 4, 5, 6, 7, 2, 1, 0] (lv' := [(0, .ref (ad 71)), (1, .int (nI (b))), (2, .int (nI (h0))), (3, .int (nI (j - 1))), (4, .int (nI (s))), (5, .int (nI (s / 6))), (6, .int (nI (0))), (7, .int (nI (0)))]) rfl ?_
                have lpC : ∀ (mm_ : Nat) (m : Nat) (v : Nat), mm_ = 6 - m → (m ≤ 6) → (m = 0 ∨ (j - 1 < 24 ∧ s / 6 < 160 ∧ isP T (s / 6) = true)) → (v = layV T b kn (j - 1) s m) → (v ≤ 1000000) → GJ g x 9 45 [(0, .ref (ad 71)), (1, .int (nI (b))), (2, .int (nI (h0))), (3, .int (nI (j - 1))), (4, .int (nI (s))), (5, .int (nI (s / 6))), (6, .int (nI (v))), (7, .int (nI (m)))] [] ad (s2) := by
                  intro mm_
                  induction mm_ using Nat.strongRecOn with
                  | _ mm_ ihC =>
                    intro m v hmC hm hq hv hv2
                    refine r_iload K rfl dX7_layLeft_45 ?_
                    refine r_bipush K ((nI (6))) (by decide) dX7_layLeft_47 ?_
                    refine n_icmp_ge K 114 (by omega) (by omega) dX7_layLeft_49 (by decide) (fun h49 => ?_) (fun h49 => ?_)
                    · refine r_aload_n K 0 rfl rfl dX7_layLeft_114 ?_
                      refine get_71_20 K fl_RX7_39 dX7_layLeft_115 ?_
                      refine r_sipush K ((nI (966))) (by decide) dX7_layLeft_118 ?_
                      refine r_iload_n K 3 rfl rfl dX7_layLeft_121 ?_
                      refine r_imul K dX7_layLeft_122 ?_
                      refine r_topi (pk_mul _ _) ?_
                      refine r_iload K rfl dX7_layLeft_123 ?_
                      refine r_iadd K dX7_layLeft_125 ?_
                      refine r_topi (nI_add _ _) ?_
                      refine r_iload K rfl dX7_layLeft_126 ?_
                      refine r_iast K 54 (n := 24150) (by decide) rfl rfl (by decide) (by omega) dX7_layLeft_128 ?_
                      refine r_iinc K ((nI (s + 1))) rfl (nI_1 _) (lv' := [(4, .int (nI (s + 1))), (0, .ref (ad 71)), (1, .int (nI (b))), (2, .int (nI (h0))), (3, .int (nI (j - 1))), (5, .int (nI (s / 6))), (6, .int (nI (v))), (7, .int (nI (m)))]) (by decide) rfl dX7_layLeft_129 ?_
                      refine r_goto K 11 dX7_layLeft_132 (by decide) ?_
                      refine r_pick [1, 2, 3, 4, 0] (lv' := [(0, .ref (ad 71)), (1, .int (nI (b))), (2, .int (nI (h0))), (3, .int (nI (j - 1))), (4, .int (nI (s + 1)))]) rfl ?_
                      exact ihB _ (by omega) (s + 1) ((s2).sA 54 (upd ((s2).A 54) ((966 * (j - 1)) + s) ((nI (v))))) rfl (by omega) (same_sA hs2 (by simp) _) (fun h i h1 h2 h3 => by rw [sA_at]; unfold upd; rw [if_neg (by omega)]; exact hA2 h i h1 h2 h3) (fun i hi => by rw [sA_at]; unfold upd; by_cases e : i = s; (rw [if_pos (by omega), e, hv, lay_end (by omega) (by omega) hm hq (by first | omega | exact Or.inr (Or.inr (Or.inr h72)))]); (rw [if_neg (by omega)]; exact hB i (by omega)))
                    · refine r_iload_n K 3 rfl rfl dX7_layLeft_52 ?_
                      refine r_bipush K ((nI (24))) (by decide) dX7_layLeft_53 ?_
                      refine n_icmp_ge K 114 (by omega) (by omega) dX7_layLeft_55 (by decide) (fun h55 => ?_) (fun h55 => ?_)
                      · refine r_aload_n K 0 rfl rfl dX7_layLeft_114 ?_
                        refine get_71_20 K fl_RX7_39 dX7_layLeft_115 ?_
                        refine r_sipush K ((nI (966))) (by decide) dX7_layLeft_118 ?_
                        refine r_iload_n K 3 rfl rfl dX7_layLeft_121 ?_
                        refine r_imul K dX7_layLeft_122 ?_
                        refine r_topi (pk_mul _ _) ?_
                        refine r_iload K rfl dX7_layLeft_123 ?_
                        refine r_iadd K dX7_layLeft_125 ?_
                        refine r_topi (nI_add _ _) ?_
                        refine r_iload K rfl dX7_layLeft_126 ?_
                        refine r_iast K 54 (n := 24150) (by decide) rfl rfl (by decide) (by omega) dX7_layLeft_128 ?_
                        refine r_iinc K ((nI (s + 1))) rfl (nI_1 _) (lv' := [(4, .int (nI (s + 1))), (0, .ref (ad 71)), (1, .int (nI (b))), (2, .int (nI (h0))), (3, .int (nI (j - 1))), (5, .int (nI (s / 6))), (6, .int (nI (v))), (7, .int (nI (m)))]) (by decide) rfl dX7_layLeft_129 ?_
                        refine r_goto K 11 dX7_layLeft_132 (by decide) ?_
                        refine r_pick [1, 2, 3, 4, 0] (lv' := [(0, .ref (ad 71)), (1, .int (nI (b))), (2, .int (nI (h0))), (3, .int (nI (j - 1))), (4, .int (nI (s + 1)))]) rfl ?_
                        exact ihB _ (by omega) (s + 1) ((s2).sA 54 (upd ((s2).A 54) ((966 * (j - 1)) + s) ((nI (v))))) rfl (by omega) (same_sA hs2 (by simp) _) (fun h i h1 h2 h3 => by rw [sA_at]; unfold upd; rw [if_neg (by omega)]; exact hA2 h i h1 h2 h3) (fun i hi => by rw [sA_at]; unfold upd; by_cases e : i = s; (rw [if_pos (by omega), e, hv, lay_end (by omega) (by omega) hm hq (by first | omega | exact Or.inr (Or.inr (Or.inr h72)))]); (rw [if_neg (by omega)]; exact hB i (by omega)))
                      · refine r_iload K rfl dX7_layLeft_58 ?_
                        refine r_sipush K ((nI (160))) (by decide) dX7_layLeft_60 ?_
                        refine n_icmp_ge K 114 (by omega) (by omega) dX7_layLeft_63 (by decide) (fun h63 => ?_) (fun h63 => ?_)
                        · refine r_aload_n K 0 rfl rfl dX7_layLeft_114 ?_
                          refine get_71_20 K fl_RX7_39 dX7_layLeft_115 ?_
                          refine r_sipush K ((nI (966))) (by decide) dX7_layLeft_118 ?_
                          refine r_iload_n K 3 rfl rfl dX7_layLeft_121 ?_
                          refine r_imul K dX7_layLeft_122 ?_
                          refine r_topi (pk_mul _ _) ?_
                          refine r_iload K rfl dX7_layLeft_123 ?_
                          refine r_iadd K dX7_layLeft_125 ?_
                          refine r_topi (nI_add _ _) ?_
                          refine r_iload K rfl dX7_layLeft_126 ?_
                          refine r_iast K 54 (n := 24150) (by decide) rfl rfl (by decide) (by omega) dX7_layLeft_128 ?_
                          refine r_iinc K ((nI (s + 1))) rfl (nI_1 _) (lv' := [(4, .int (nI (s + 1))), (0, .ref (ad 71)), (1, .int (nI (b))), (2, .int (nI (h0))), (3, .int (nI (j - 1))), (5, .int (nI (s / 6))), (6, .int (nI (v))), (7, .int (nI (m)))]) (by decide) rfl dX7_layLeft_129 ?_
                          refine r_goto K 11 dX7_layLeft_132 (by decide) ?_
                          refine r_pick [1, 2, 3, 4, 0] (lv' := [(0, .ref (ad 71)), (1, .int (nI (b))), (2, .int (nI (h0))), (3, .int (nI (j - 1))), (4, .int (nI (s + 1)))]) rfl ?_
                          exact ihB _ (by omega) (s + 1) ((s2).sA 54 (upd ((s2).A 54) ((966 * (j - 1)) + s) ((nI (v))))) rfl (by omega) (same_sA hs2 (by simp) _) (fun h i h1 h2 h3 => by rw [sA_at]; unfold upd; rw [if_neg (by omega)]; exact hA2 h i h1 h2 h3) (fun i hi => by rw [sA_at]; unfold upd; by_cases e : i = s; (rw [if_pos (by omega), e, hv, lay_end (by omega) (by omega) hm hq (by first | omega | exact Or.inr (Or.inr (Or.inr h72)))]); (rw [if_neg (by omega)]; exact hB i (by omega)))
                        · refine r_aload_n K 0 rfl rfl dX7_layLeft_66 ?_
                          refine r_iload K rfl dX7_layLeft_67 ?_
                          refine r_callVp K 71 (As := [.int (nI (s / 6))]) mv_X7_isPlace ml_RX7_213 (m_isPlace hT (hR.same hs2 (by simp) (by simp)) (p := s / 6) (by omega)) (by decide) rfl rfl rfl rfl (Nat.le_of_ble_eq_true rfl) ⟨by decide, by decide⟩ dX7_layLeft_69 ?_
                          refine b_if_eq K 114 dX7_layLeft_72 (by decide) (fun h72 => ?_) (fun h72 => ?_)
                          · refine r_aload_n K 0 rfl rfl dX7_layLeft_114 ?_
                            refine get_71_20 K fl_RX7_39 dX7_layLeft_115 ?_
                            refine r_sipush K ((nI (966))) (by decide) dX7_layLeft_118 ?_
                            refine r_iload_n K 3 rfl rfl dX7_layLeft_121 ?_
                            refine r_imul K dX7_layLeft_122 ?_
                            refine r_topi (pk_mul _ _) ?_
                            refine r_iload K rfl dX7_layLeft_123 ?_
                            refine r_iadd K dX7_layLeft_125 ?_
                            refine r_topi (nI_add _ _) ?_
                            refine r_iload K rfl dX7_layLeft_126 ?_
                            refine r_iast K 54 (n := 24150) (by decide) rfl rfl (by decide) (by omega) dX7_layLeft_128 ?_
                            refine r_iinc K ((nI (s + 1))) rfl (nI_1 _) (lv' := [(4, .int (nI (s + 1))), (0, .ref (ad 71)), (1, .int (nI (b))), (2, .int (nI (h0))), (3, .int (nI (j - 1))), (5, .int (nI (s / 6))), (6, .int (nI (v))), (7, .int (nI (m)))]) (by decide) rfl dX7_layLeft_129 ?_
                            refine r_goto K 11 dX7_layLeft_132 (by decide) ?_
                            refine r_pick [1, 2, 3, 4, 0] (lv' := [(0, .ref (ad 71)), (1, .int (nI (b))), (2, .int (nI (h0))), (3, .int (nI (j - 1))), (4, .int (nI (s + 1)))]) rfl ?_
                            exact ihB _ (by omega) (s + 1) ((s2).sA 54 (upd ((s2).A 54) ((966 * (j - 1)) + s) ((nI (v))))) rfl (by omega) (same_sA hs2 (by simp) _) (fun h i h1 h2 h3 => by rw [sA_at]; unfold upd; rw [if_neg (by omega)]; exact hA2 h i h1 h2 h3) (fun i hi => by rw [sA_at]; unfold upd; by_cases e : i = s; (rw [if_pos (by omega), e, hv, lay_end (by omega) (by omega) hm hq (by first | omega | exact Or.inr (Or.inr (Or.inr h72)))]); (rw [if_neg (by omega)]; exact hB i (by omega)))
                          · refine r_aload_n K 0 rfl rfl dX7_layLeft_75 ?_
                            refine r_iload_n K 1 rfl rfl dX7_layLeft_76 ?_
                            refine r_iload K rfl dX7_layLeft_77 ?_
                            refine r_iload K rfl dX7_layLeft_79 ?_
                            refine r_bipush K ((nI (6))) (by decide) dX7_layLeft_81 ?_
                            refine r_irem K (nI_ne0 (by omega) (by omega)) dX7_layLeft_83 ?_
                            refine r_topi (pk_rem (by omega) (by omega) (by omega)) ?_
                            refine r_iload K rfl dX7_layLeft_84 ?_
                            refine r_iload_n K 3 rfl rfl dX7_layLeft_86 ?_
                            refine r_callVp K 71 (As := [.int (nI (b)), .int (nI (s / 6)), .int (nI (s % 6)), .int (nI (m)), .int (nI (j - 1))]) mv_X7_through ml_RX7_216 (m_through hT (hR.same hs2 (by simp) (by simp)) (b := b) (p := s / 6) (l := s % 6) (m := m) (h := j - 1) (kn := kn) (V := leftV T b kn (24 - (j - 1 + 1))) hb hw1 (isP_iff.mp h72) (by omega) (by omega) (by omega) (LineR_same hL hs2 (by simp) (by simp)) (fun q m => leftV_top _ _ _) (fun q m hq hm => by rw [show 966 * (j - 1 + 1) + 6 * q + m = 966 * j + (6 * q + m) by omega, hA2 j _ (Nat.le_refl _) (by omega) (by have := validP_le hT hq; omega), lfX_at hq hm, show j - 1 + 1 = j by omega])) (by decide) rfl rfl rfl rfl (Nat.le_of_ble_eq_true rfl) ⟨by decide, by decide⟩ dX7_layLeft_87 ?_
                            have htv : thrV T b kn (leftV T b kn (24 - (j - 1 + 1))) (j - 1) (s / 6) (s % 6) m ≤ 1001005 := thrV_top (fun q m => leftV_top _ _ _) (by unfold offS; split <;> omega)
                            refine r_istore K (lv' := [(8, .int (nI (thrV T b kn (leftV T b kn (24 - (j - 1 + 1))) (j - 1) (s / 6) (s % 6) m))), (0, .ref (ad 71)), (1, .int (nI (b))), (2, .int (nI (h0))), (3, .int (nI (j - 1))), (4, .int (nI (s))), (5, .int (nI (s / 6))), (6, .int (nI (v))), (7, .int (nI (m)))]) (by decide) rfl dX7_layLeft_90 ?_
                            refine r_iload K rfl dX7_layLeft_92 ?_
                            refine r_iload K rfl dX7_layLeft_94 ?_
                            refine n_icmp_ge K 104 (by omega) (by omega) dX7_layLeft_96 (by decide) (fun h96 => ?_) (fun h96 => ?_)
                            · refine r_iload K rfl dX7_layLeft_104 ?_
                              refine r_istore K (lv' := [(6, .int (nI (v))), (8, .int (nI (thrV T b kn (leftV T b kn (24 - (j - 1 + 1))) (j - 1) (s / 6) (s % 6) m))), (0, .ref (ad 71)), (1, .int (nI (b))), (2, .int (nI (h0))), (3, .int (nI (j - 1))), (4, .int (nI (s))), (5, .int (nI (s / 6))), (7, .int (nI (m)))]) (by decide) rfl dX7_layLeft_106 ?_
                              refine r_iinc K ((nI (m + 1))) rfl (nI_1 _) (lv' := [(7, .int (nI (m + 1))), (6, .int (nI (v))), (8, .int (nI (thrV T b kn (leftV T b kn (24 - (j - 1 + 1))) (j - 1) (s / 6) (s % 6) m))), (0, .ref (ad 71)), (1, .int (nI (b))), (2, .int (nI (h0))), (3, .int (nI (j - 1))), (4, .int (nI (s))), (5, .int (nI (s / 6)))]) (by decide) rfl dX7_layLeft_108 ?_
                              refine r_goto K 45 dX7_layLeft_111 (by decide) ?_
                              refine r_pick [3, 4, 5, 6, 7, 8, 1, 0] (lv' := [(0, .ref (ad 71)), (1, .int (nI (b))), (2, .int (nI (h0))), (3, .int (nI (j - 1))), (4, .int (nI (s))), (5, .int (nI (s / 6))), (6, .int (nI (v))), (7, .int (nI (m + 1)))]) rfl ?_
                              exact ihC _ (by omega) (m + 1) (_) rfl (by omega) (Or.inr ⟨by omega, by omega, h72⟩) (by rw [layV, if_neg (by omega), minV, if_neg (by rw [layV, if_neg (by omega)] at hv; omega)]; rw [layV, if_neg (by omega)] at hv; exact hv) (by omega)
                            · refine r_iload K rfl dX7_layLeft_99 ?_
                              refine r_goto K 106 dX7_layLeft_101 (by decide) ?_
                              refine r_istore K (lv' := [(6, .int (nI (thrV T b kn (leftV T b kn (24 - (j - 1 + 1))) (j - 1) (s / 6) (s % 6) m))), (8, .int (nI (thrV T b kn (leftV T b kn (24 - (j - 1 + 1))) (j - 1) (s / 6) (s % 6) m))), (0, .ref (ad 71)), (1, .int (nI (b))), (2, .int (nI (h0))), (3, .int (nI (j - 1))), (4, .int (nI (s))), (5, .int (nI (s / 6))), (7, .int (nI (m)))]) (by decide) rfl dX7_layLeft_106 ?_
                              refine r_iinc K ((nI (m + 1))) rfl (nI_1 _) (lv' := [(7, .int (nI (m + 1))), (6, .int (nI (thrV T b kn (leftV T b kn (24 - (j - 1 + 1))) (j - 1) (s / 6) (s % 6) m))), (8, .int (nI (thrV T b kn (leftV T b kn (24 - (j - 1 + 1))) (j - 1) (s / 6) (s % 6) m))), (0, .ref (ad 71)), (1, .int (nI (b))), (2, .int (nI (h0))), (3, .int (nI (j - 1))), (4, .int (nI (s))), (5, .int (nI (s / 6)))]) (by decide) rfl dX7_layLeft_108 ?_
                              refine r_goto K 45 dX7_layLeft_111 (by decide) ?_
                              refine r_pick [3, 4, 5, 6, 7, 8, 1, 0] (lv' := [(0, .ref (ad 71)), (1, .int (nI (b))), (2, .int (nI (h0))), (3, .int (nI (j - 1))), (4, .int (nI (s))), (5, .int (nI (s / 6))), (6, .int (nI (thrV T b kn (leftV T b kn (24 - (j - 1 + 1))) (j - 1) (s / 6) (s % 6) m))), (7, .int (nI (m + 1)))]) rfl ?_
                              exact ihC _ (by omega) (m + 1) (_) rfl (by omega) (Or.inr ⟨by omega, by omega, h72⟩) (by rw [layV, if_neg (by omega), minV, if_pos (by rw [layV, if_neg (by omega)] at hv; omega)]) (by omega)
                exact lpC _ (0) (_) rfl (by omega) (Or.inl rfl) (by rw [layV]; first | rw [if_pos h31] | (rw [if_neg h31]; rfl)) (by omega)
        exact lpB _ (0) (s1) rfl (by omega) (hs1) (hA) (fun i hi => absurd hi (Nat.not_lt_zero i))
  exact lpA _ (25) (σ) rfl (by omega) (by omega) (same_rf _ _ _ _ _) (fun h s h1 h2 => by omega)

