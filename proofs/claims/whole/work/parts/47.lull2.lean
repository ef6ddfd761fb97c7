def RepH (t : Nat → Nat) (σ : Sg) : Prop := ∀ q, q ≤ 160 → σ.A 43 q = nI (t q)
def upT (T : Tv) (h : Nat) (t t' : Nat → Nat) : Prop := ∀ q, t' q ≤ t q ∧ (t' q < t q → t' q = h + 1 ∧ validP T q)
theorem upT_rf (T : Tv) (h : Nat) (t : Nat → Nat) : upT T h t t := fun q => ⟨Nat.le_refl _, fun z => absurd z (Nat.lt_irrefl _)⟩
theorem upT_tr {T : Tv} {h : Nat} {t t' t'' : Nat → Nat} (h1 : upT T h t t') (h2 : upT T h t' t'') : upT T h t t'' := fun q => by
  obtain ⟨a1, a2⟩ := h1 q
  obtain ⟨b1, b2⟩ := h2 q
  refine ⟨by omega, fun z => ?_⟩
  by_cases e : t'' q < t' q
  · exact b2 e
  · have e2 : t'' q = t' q := by omega
    rw [e2]
    exact a2 (by omega)
def setT (t : Nat → Nat) (x h : Nat) : Nat → Nat := fun q => if q = x then min (t q) (h + 1) else t q
theorem upT_set {T : Tv} {h x : Nat} {t : Nat → Nat} (hx : validP T x) : upT T h t (setT t x h) := fun q => by
  unfold setT
  by_cases e : q = x
  · rw [if_pos e]
    exact ⟨by omega, fun z => ⟨by omega, by rw [e]; exact hx⟩⟩
  · rw [if_neg e]
    exact ⟨Nat.le_refl _, fun z => absurd z (Nat.lt_irrefl _)⟩
theorem RepH_set {t : Nat → Nat} {s : Sg} {x h : Nat} (hr : RepH t s) : RepH (setT t x h) (s.sA 43 (upd (s.A 43) x (nI (min (t x) (h + 1))))) := fun q hq => by
  rw [sA_at]
  unfold upd setT
  by_cases e : q = x
  · rw [if_pos e, if_pos e, e]
  · rw [if_neg e, if_neg e]
    exact hr q hq
theorem setT_le {t : Nat → Nat} {x h q v : Nat} (hq : t q ≤ v) : setT t x h q ≤ v := by
  unfold setT
  split <;> omega
theorem setT_at {t : Nat → Nat} {x h : Nat} : setT t x h x ≤ h + 1 := by
  unfold setT
  rw [if_pos rfl]
  omega
/-- the hours to the places, so far: all below an hour, those below a place in it -/
def clH (T : Tv) (b : Nat) (t : Nat → Nat) (h i : Nat) : Prop := t (startS T) = 0 ∧ (∀ q, t q ≤ 24 ∧ (t q < 24 → validP T q)) ∧ (∀ h' q, h' < h → q < 160 → t q ≤ h' → ∀ m, m < 6 → t (goS T b q m h') ≤ h' + 1) ∧ ∀ q, q < i → q < 160 → t q ≤ h → ∀ m, m < 6 → t (goS T b q m h) ≤ h + 1
theorem clH_up {T : Tv} {b : Nat} {t t' : Nat → Nat} {h i : Nat} (hc : clH T b t h i) (hu : upT T h t t') (hn : ∀ m, m < 6 → t' (goS T b i m h) ≤ h + 1) : clH T b t' h (i + 1) := by
  obtain ⟨h1, h2, h3, h4⟩ := hc
  refine ⟨by have := hu (startS T); omega, fun q => ?_, fun h' q hh hq ht m hm => ?_, fun q hq hq2 ht m hm => ?_⟩
  · obtain ⟨a1, a2⟩ := hu q
    obtain ⟨b1, b2⟩ := h2 q
    refine ⟨by omega, fun z => ?_⟩
    by_cases e : t' q < t q
    · exact (a2 e).2
    · exact b2 (by omega)
  · obtain ⟨a1, a2⟩ := hu q
    have e : ¬ t' q < t q := fun z => by have := (a2 z).1; omega
    have := h3 h' q hh hq (by omega) m hm
    have := hu (goS T b q m h')
    omega
  · by_cases e : q = i
    · rw [e]; exact hn m hm
    · obtain ⟨a1, a2⟩ := hu q
      have e : ¬ t' q < t q := fun z => by have := (a2 z).1; omega
      have := h4 q (by omega) hq2 (by omega) m hm
      have := hu (goS T b q m h)
      omega
theorem clH_skip {T : Tv} {b : Nat} {t : Nat → Nat} {h i : Nat} (hc : clH T b t h i) (hn : h < t i) : clH T b t h (i + 1) :=
  ⟨hc.1, hc.2.1, hc.2.2.1, fun q hq hq2 ht m hm => by by_cases e : q = i; (rw [e] at ht; omega); exact hc.2.2.2 q (by omega) hq2 ht m hm⟩
theorem clH_next {T : Tv} {b : Nat} {t : Nat → Nat} {h : Nat} (hc : clH T b t h 160) : clH T b t (h + 1) 0 :=
  ⟨hc.1, hc.2.1, fun h' q hh hq ht m hm => by by_cases e : h' = h; (subst e; exact hc.2.2.2 q hq hq ht m hm); exact hc.2.2.1 h' q (by omega) hq ht m hm, fun q hq => absurd hq (Nat.not_lt_zero q)⟩
theorem clH_0 {T : Tv} (hT : TOk T) {b : Nat} : clH T b (fun q => if q = startS T then 0 else 24) 0 0 := by
  refine ⟨if_pos rfl, fun q => ?_, fun h' q hh => absurd hh (Nat.not_lt_zero h'), fun q hq => absurd hq (Nat.not_lt_zero q)⟩
  show (if q = startS T then 0 else 24) ≤ 24 ∧ ((if q = startS T then 0 else 24) < 24 → validP T q)
  by_cases e : q = startS T
  · rw [if_pos e, e]; exact ⟨by omega, fun _ => validP_start hT⟩
  · rw [if_neg e]; exact ⟨by omega, fun z => absurd z (by omega)⟩
theorem sub1_le {n h : Nat} (hn : n < 2 ^ 30) (hh : h < 2 ^ 30) : nI n - nI 1 ≤ nI h ↔ n ≤ h + 1 := by
  rw [Int32.le_iff_toInt_le, pk_sub_toInt hn (by decide), nI_toInt (by omega)]
  omega
set_option maxHeartbeats 400000 in
set_option maxRecDepth 10000 in
theorem c_findNext {g : Gp} {lau : Launch} {ad : Nat → Nat} {σ : Sg} {T : Tv} (hT : TOk T) (hR : RepC T σ) {b q h : Nat} {t : Nat → Nat} (hb : b < 4) (hv : validP T q) (hh : h < 24) (hr0 : RepH t σ) (ht0 : ∀ q, t q ≤ 24) : Con g lau yX2_findNext cX2_findNext 6 (Option.none : Option Jvm.ClassFile.FieldType) 3 75 [.ref (ad 70), .int (nI (b)), .int (nI (q)), .int (nI (h))] ad σ (fun r a2 s2 => ∃ t' : Nat → Nat, none = r ∧ ad = a2 ∧ same [43] [] [] false σ s2 ∧ RepH t' s2 ∧ upT T h t t' ∧ ∀ m, m < 6 → t' (goS T b q m h) ≤ h + 1) := by
  refine con_mk (by decide) (Nat.le_of_ble_eq_true rfl) (fun x hxl K hr => ?_)
  subst hxl
  refine r_lv (lv' := [(0, .ref (ad 70)), (1, .int (nI (b))), (2, .int (nI (q))), (3, .int (nI (h)))]) rfl ?_
  have hql := validP_le hT hv
  refine r_iconst K ((nI (0))) (by decide) dX2_findNext_0 ?_
  refine r_istore K (lv' := [(4, .int (nI (0))), (0, .ref (ad 70)), (1, .int (nI (b))), (2, .int (nI (q))), (3, .int (nI (h)))]) (by decide) rfl dX2_findNext_1 ?_
  refine r_pick [1, 2, 3, 4, 0] (lv' := [(0, .ref (ad 70)), (1, .int (nI (b))), (2, .int (nI (q))), (3, .int (nI (h))), (4, .int (nI (0)))]) rfl ?_
  have lpA : ∀ (mm_ : Nat) (m : Nat) (t1 : Nat → Nat) (s1 : Sg), mm_ = 6 - m → (m ≤ 6) → (same [43] [] [] false σ s1) → (RepH t1 s1) → (upT T h t t1) → (∀ k, k < m → t1 (goS T b q k h) ≤ h + 1) → GJ g x 6 3 [(0, .ref (ad 70)), (1, .int (nI (b))), (2, .int (nI (q))), (3, .int (nI (h))), (4, .int (nI (m)))] [] ad (s1) := by
    intro mm_
    induction mm_ using Nat.strongRecOn with
    | _ mm_ ihA =>
      intro m t1 s1 hmA hm hs1 hr1 hu1 hg1
      refine r_iload K rfl dX2_findNext_3 ?_
      refine r_bipush K ((nI (6))) (by decide) dX2_findNext_5 ?_
      refine n_icmp_ge K 50 (by omega) (by omega) dX2_findNext_7 (by decide) (fun h7 => ?_) (fun h7 => ?_)
      · exact r_vret K hr (⟨t1, rfl, rfl, hs1, hr1, hu1, fun k hk => hg1 k (by omega)⟩) dX2_findNext_50
      · refine r_aload_n K 0 rfl rfl dX2_findNext_10 ?_
        refine get_70_0 K fl_RX2_34 dX2_findNext_11 ?_
        refine r_iload_n K 1 rfl rfl dX2_findNext_14 ?_
        refine r_iload_n K 2 rfl rfl dX2_findNext_15 ?_
        refine r_iload K rfl dX2_findNext_16 ?_
        refine r_iload_n K 3 rfl rfl dX2_findNext_18 ?_
        refine r_callVp K 62 (As := [.int (nI (b)), .int (nI (q)), .int (nI (m)), .int (nI (h))]) mv_X4_moved ml_RX2_50 (c_moved hT (hR.same hs1 (by intro k hk; simp; omega) (by simp)) (b := b) (p := q) (l := m) (h := h) (by omega) (by omega) (by omega) (validP_or hv)) (by decide) rfl rfl rfl rfl (Nat.le_of_ble_eq_true rfl) ⟨by decide, by decide⟩ dX2_findNext_19 ?_
        have hgo := validP_le hT (validP_go hT hv b m h)
        have ht24 := (hu1 (goS T b q m h)).1
        have ht25 := ht0 (goS T b q m h)
        refine r_istore K (lv' := [(5, .int (nI (goS T b q m h))), (0, .ref (ad 70)), (1, .int (nI (b))), (2, .int (nI (q))), (3, .int (nI (h))), (4, .int (nI (m)))]) (by decide) rfl dX2_findNext_22 ?_
        refine r_aload_n K 0 rfl rfl dX2_findNext_24 ?_
        refine get_70_5 K fl_RX2_25 dX2_findNext_25 ?_
        refine r_iload K rfl dX2_findNext_28 ?_
        refine r_aload_n K 0 rfl rfl dX2_findNext_30 ?_
        refine get_70_5 K fl_RX2_25 dX2_findNext_31 ?_
        refine r_iload K rfl dX2_findNext_34 ?_
        refine r_iald K 43 (n := 161) (by decide) rfl rfl (by decide) (by omega) dX2_findNext_36 ?_
        refine r_topi (b := (nI (t1 (goS T b q m h)))) (hr1 _ hgo) ?_
        refine r_iload_n K 3 rfl rfl dX2_findNext_37 ?_
        refine r_iconst K ((nI (1))) (by decide) dX2_findNext_38 ?_
        refine r_iadd K dX2_findNext_39 ?_
        refine r_topi (nI_add _ _) ?_
        refine r_mmin K ml_RX2_44 (by decide) (Nat.le_of_ble_eq_true rfl) dX2_findNext_40 ?_
        refine r_topi (b := (nI (min (t1 (goS T b q m h)) (h + 1)))) (nI_min (by omega) (by omega)) ?_
        refine r_iast K 43 (n := 161) (by decide) rfl rfl (by decide) (by omega) dX2_findNext_43 ?_
        refine r_iinc K ((nI (m + 1))) rfl (nI_1 _) (lv' := [(4, .int (nI (m + 1))), (5, .int (nI (goS T b q m h))), (0, .ref (ad 70)), (1, .int (nI (b))), (2, .int (nI (q))), (3, .int (nI (h)))]) (by decide) rfl dX2_findNext_44 ?_
        refine r_goto K 3 dX2_findNext_47 (by decide) ?_
        refine r_pick [2, 3, 4, 5, 0] (lv' := [(0, .ref (ad 70)), (1, .int (nI (b))), (2, .int (nI (q))), (3, .int (nI (h))), (4, .int (nI (m + 1)))]) rfl ?_
        exact ihA _ (by omega) (m + 1) (setT t1 (goS T b q m h) h) ((s1).sA 43 (upd ((s1).A 43) (goS T b q m h) ((nI (min (t1 (goS T b q m h)) (h + 1)))))) rfl (by omega) (same_sA hs1 (by simp) _) (RepH_set hr1) (upT_tr hu1 (upT_set (validP_go hT hv b m h))) (fun k hk => by by_cases e : k = m; (rw [e]; exact setT_at); exact setT_le (hg1 k (by omega)))
  exact lpA _ (0) (t) (σ) rfl (by omega) (same_rf _ _ _ _ _) (hr0) (upT_rf _ _ _) (fun k hk => absurd hk (Nat.not_lt_zero k))

set_option maxHeartbeats 400000 in
set_option maxRecDepth 10000 in
theorem c_findPlaces {g : Gp} {lau : Launch} {ad : Nat → Nat} {σ : Sg} {T : Tv} (hT : TOk T) (hR : RepC T σ) {b n : Nat} (hb : b < 4) (hn : n ≤ 8) : Con g lau yX2_findPlaces cX2_findPlaces 5 (Option.none : Option Jvm.ClassFile.FieldType) 4 100 [.ref (ad 70), .int (nI (b)), .int (nI (n))] ad σ (fun r a2 s2 => ∃ t : Nat → Nat, none = r ∧ ad = a2 ∧ same [43] [] [] false σ s2 ∧ RepH t s2 ∧ ∃ h, n ≤ h + 1 ∧ clH T b t h 0) := by
  refine con_mk (by decide) (Nat.le_of_ble_eq_true rfl) (fun x hxl K hr => ?_)
  subst hxl
  refine r_lv (lv' := [(0, .ref (ad 70)), (1, .int (nI (b))), (2, .int (nI (n)))]) rfl ?_
  have hsv := validP_le hT (validP_start hT)
  refine r_aload_n K 0 rfl rfl dX2_findPlaces_0 ?_
  refine get_70_5 K fl_RX2_25 dX2_findPlaces_1 ?_
  refine r_bipush K ((nI (24))) (by decide) dX2_findPlaces_4 ?_
  refine r_callS K (As := [.ref (ad 43), .int (nI (24))]) (rest := []) ms_J7_fill_53178 ml_RX2_96 (c_fillI 43 (n := 161) (by decide) rfl rfl (by decide) ((nI (24)))) rfl rfl (Nat.le_of_ble_eq_true rfl) ⟨by decide, by decide⟩ dX2_findPlaces_6 (fun r_ ad_ s_ h_ => ?_)
  obtain ⟨rfl, rfl, rfl⟩ := h_
  refine r_st (st' := []) rfl ?_
  refine r_aload_n K 0 rfl rfl dX2_findPlaces_9 ?_
  refine get_70_5 K fl_RX2_25 dX2_findPlaces_10 ?_
  refine r_aload_n K 0 rfl rfl dX2_findPlaces_13 ?_
  refine get_70_0 K fl_RX2_34 dX2_findPlaces_14 ?_
  refine r_callVp K 62 (As := []) mv_X4_begin ml_RX2_38 (c_begin hT (hR.same (same_sA (same_rf [43] [] [] false σ) (by simp) _) (by intro k hk; simp; omega) (by simp))) (by decide) rfl rfl rfl rfl (Nat.le_of_ble_eq_true rfl) ⟨by decide, by decide⟩ dX2_findPlaces_17 ?_
  refine r_iconst K ((nI (0))) (by decide) dX2_findPlaces_20 ?_
  refine r_iast K 43 (n := 161) (by decide) rfl rfl (by decide) (by omega) dX2_findPlaces_21 ?_
  refine r_iconst K ((nI (0))) (by decide) dX2_findPlaces_22 ?_
  refine r_istore_n K (lv' := [(3, .int (nI (0))), (0, .ref (ad 70)), (1, .int (nI (b))), (2, .int (nI (n)))]) 3 rfl (by decide) rfl dX2_findPlaces_23 ?_
  refine r_pick [1, 2, 3, 0] (lv' := [(0, .ref (ad 70)), (1, .int (nI (b))), (2, .int (nI (n))), (3, .int (nI (0)))]) rfl ?_
  have lpA : ∀ (mm_ : Nat) (h : Nat) (t : Nat → Nat) (s1 : Sg), mm_ = n - h → (h ≤ 8) → (same [43] [] [] false σ s1) → (RepH t s1) → (clH T b t h 0) → GJ g x 5 24 [(0, .ref (ad 70)), (1, .int (nI (b))), (2, .int (nI (n))), (3, .int (nI (h)))] [] ad (s1) := by
    intro mm_
    induction mm_ using Nat.strongRecOn with
    | _ mm_ ihA =>
      intro h t s1 hmA hh hs1 hr1 hc1
      refine r_iload_n K 3 rfl rfl dX2_findPlaces_24 ?_
      refine r_iload_n K 2 rfl rfl dX2_findPlaces_25 ?_
      refine r_iconst K ((nI (1))) (by decide) dX2_findPlaces_26 ?_
      refine r_isub K dX2_findPlaces_27 ?_
      refine r_icmp_ge K 73 dX2_findPlaces_28 (by decide) (fun h28 => ?_) (fun h28 => ?_)
      · exact r_vret K hr (⟨t, rfl, rfl, hs1, hr1, h, (sub1_le (by omega) (by omega)).mp h28, hc1⟩) dX2_findPlaces_73
      · have hnh : ¬ n ≤ h + 1 := fun z => h28 ((sub1_le (by omega) (by omega)).mpr z)
        refine r_iconst K ((nI (0))) (by decide) dX2_findPlaces_31 ?_
        refine r_istore K (lv' := [(4, .int (nI (0))), (0, .ref (ad 70)), (1, .int (nI (b))), (2, .int (nI (n))), (3, .int (nI (h)))]) (by decide) rfl dX2_findPlaces_32 ?_
        refine r_pick [1, 2, 3, 4, 0] (lv' := [(0, .ref (ad 70)), (1, .int (nI (b))), (2, .int (nI (n))), (3, .int (nI (h))), (4, .int (nI (0)))]) rfl ?_
        have lpB : ∀ (mm_ : Nat) (i : Nat) (t2 : Nat → Nat) (s2 : Sg), mm_ = 160 - i → (i ≤ 160) → (same [43] [] [] false σ s2) → (RepH t2 s2) → (clH T b t2 h i) → GJ g x 5 34 [(0, .ref (ad 70)), (1, .int (nI (b))), (2, .int (nI (n))), (3, .int (nI (h))), (4, .int (nI (i)))] [] ad (s2) := by
          intro mm_
          induction mm_ using Nat.strongRecOn with
          | _ mm_ ihB =>
            intro i t2 s2 hmB hi hs2 hr2 hc2
            refine r_iload K rfl dX2_findPlaces_34 ?_
            refine r_sipush K ((nI (160))) (by decide) dX2_findPlaces_36 ?_
            refine n_icmp_ge K 67 (by omega) (by omega) dX2_findPlaces_39 (by decide) (fun h39 => ?_) (fun h39 => ?_)
            · refine r_iinc K ((nI (h + 1))) rfl (nI_1 _) (lv' := [(3, .int (nI (h + 1))), (0, .ref (ad 70)), (1, .int (nI (b))), (2, .int (nI (n))), (4, .int (nI (i)))]) (by decide) rfl dX2_findPlaces_67 ?_
              refine r_goto K 24 dX2_findPlaces_70 (by decide) ?_
              refine r_pick [1, 2, 3, 0] (lv' := [(0, .ref (ad 70)), (1, .int (nI (b))), (2, .int (nI (n))), (3, .int (nI (h + 1)))]) rfl ?_
              exact ihA _ (by have : ¬ n ≤ h + 1 := fun z => h28 ((sub1_le (by omega) (by omega)).mpr z); omega) (h + 1) (t2) (s2) rfl (by omega) (hs2) (hr2) (clH_next ((show i = 160 by omega) ▸ hc2))
            · refine r_aload_n K 0 rfl rfl dX2_findPlaces_42 ?_
              refine get_70_5 K fl_RX2_25 dX2_findPlaces_43 ?_
              refine r_iload K rfl dX2_findPlaces_46 ?_
              refine r_iald K 43 (n := 161) (by decide) rfl rfl (by decide) (by omega) dX2_findPlaces_48 ?_
              have ht2i := (hc2.2.1 i).1
              refine r_topi (b := (nI (t2 i))) (hr2 i (by omega)) ?_
              refine r_iload_n K 3 rfl rfl dX2_findPlaces_49 ?_
              refine n_icmp_gt K 61 (by omega) (by omega) dX2_findPlaces_50 (by decide) (fun h50 => ?_) (fun h50 => ?_)
              · refine r_iinc K ((nI (i + 1))) rfl (nI_1 _) (lv' := [(4, .int (nI (i + 1))), (0, .ref (ad 70)), (1, .int (nI (b))), (2, .int (nI (n))), (3, .int (nI (h)))]) (by decide) rfl dX2_findPlaces_61 ?_
                refine r_goto K 34 dX2_findPlaces_64 (by decide) ?_
                refine r_pick [1, 2, 3, 4, 0] (lv' := [(0, .ref (ad 70)), (1, .int (nI (b))), (2, .int (nI (n))), (3, .int (nI (h))), (4, .int (nI (i + 1)))]) rfl ?_
                exact ihB _ (by omega) (i + 1) (t2) (s2) rfl (by omega) (hs2) (hr2) (clH_skip hc2 h50)
              · refine r_aload_n K 0 rfl rfl dX2_findPlaces_53 ?_
                refine r_iload_n K 1 rfl rfl dX2_findPlaces_54 ?_
                refine r_iload K rfl dX2_findPlaces_55 ?_
                refine r_iload_n K 3 rfl rfl dX2_findPlaces_57 ?_
                refine r_callV K 70 (As := [.int (nI (b)), .int (nI (i)), .int (nI (h))]) (rest := []) mv_X2_findNext ml_RX2_99 (c_findNext hT (hR.same hs2 (by intro k hk; simp; omega) (by simp)) (b := b) (q := i) (h := h) (t := t2) hb ((hc2.2.1 i).2 (by omega)) (by omega) hr2 (fun q => (hc2.2.1 q).1)) (by decide) rfl rfl rfl rfl (Nat.le_of_ble_eq_true rfl) ⟨by decide, by decide⟩ dX2_findPlaces_58 (fun r_f ad_f s_f h_f => ?_)
                obtain ⟨t', rfl, rfl, hfs, hfr, hfu, hfg⟩ := h_f
                refine r_st (st' := []) rfl ?_
                refine r_iinc K ((nI (i + 1))) rfl (nI_1 _) (lv' := [(4, .int (nI (i + 1))), (0, .ref (ad 70)), (1, .int (nI (b))), (2, .int (nI (n))), (3, .int (nI (h)))]) (by decide) rfl dX2_findPlaces_61 ?_
                refine r_goto K 34 dX2_findPlaces_64 (by decide) ?_
                refine r_pick [1, 2, 3, 4, 0] (lv' := [(0, .ref (ad 70)), (1, .int (nI (b))), (2, .int (nI (n))), (3, .int (nI (h))), (4, .int (nI (i + 1)))]) rfl ?_
                exact ihB _ (by omega) (i + 1) (t') (s_f) rfl (by omega) (same_tr hs2 hfs) (hfr) (clH_up hc2 hfu hfg)
        exact lpB _ (0) (t) (s1) rfl (by omega) (hs1) (hr1) (hc1)
  exact lpA _ (0) (fun q => if q = startS T then 0 else 24) (_) rfl (by omega) (same_sA (same_sA (same_rf _ _ _ _ _) (by simp) _) (by simp) _) (fun q hq => by rw [sA_at, sA_at]; unfold upd fillA; show (if q = startS T then nI 0 else if q < 161 then nI 24 else _) = nI (if q = startS T then 0 else 24); by_cases e : q = startS T; (rw [if_pos e, if_pos e]); (rw [if_neg e, if_neg e, if_pos (by omega)])) (clH_0 hT)

set_option maxHeartbeats 1000000 in
set_option maxRecDepth 10000 in
theorem c_valuePlace {g : Gp} {lau : Launch} {ad : Nat → Nat} {σ : Sg} {T : Tv} (hT : TOk T) (hR : RepC T σ) {b q h p : Nat} {f0 f1 : Nat → Nat} (hb : b < 4) (hv : validP T q) (hh : h < 24) (hp : p ≤ 10) (hf0 : ∀ m, m < 6 → σ.J 42 (q * 6 + m) = lN (f0 m)) (hf1 : ∀ m, m < 6 → σ.J 42 (goS T b q m h * 6 + m) = lN (f1 m)) (hb0 : ∀ m, f0 m ≤ 100000000) (hb1 : ∀ m, f1 m ≤ 100000000) : Con g lau yX2_valuePlace cX2_valuePlace 7 (Option.none : Option Jvm.ClassFile.FieldType) 3 75 [.ref (ad 70), .int (nI (b)), .int (nI (q)), .int (nI (h)), .int (nI (p))] ad σ (fun r a2 s2 => none = r ∧ ad = a2 ∧ same [] [] [41, 44, 45] false σ s2 ∧ (∀ m, m < 6 → s2.J 41 (q * 6 + m) = lN (p * mxV m (cordS T b) f0 6 + (10 - p) * mxV m (cordS T b) f1 6)) ∧ ∀ i, i / 6 ≠ q → s2.J 41 i = σ.J 41 i) := by
  refine con_mk (by decide) (Nat.le_of_ble_eq_true rfl) (fun x hxl K hr => ?_)
  subst hxl
  refine r_lv (lv' := [(0, .ref (ad 70)), (1, .int (nI (b))), (2, .int (nI (q))), (3, .int (nI (h))), (4, .int (nI (p)))]) rfl ?_
  have hql := validP_le hT hv
  refine r_iconst K ((nI (0))) (by decide) dX2_valuePlace_0 ?_
  refine r_istore K (lv' := [(5, .int (nI (0))), (0, .ref (ad 70)), (1, .int (nI (b))), (2, .int (nI (q))), (3, .int (nI (h))), (4, .int (nI (p)))]) (by decide) rfl dX2_valuePlace_1 ?_
  refine r_pick [1, 2, 3, 4, 5, 0] (lv' := [(0, .ref (ad 70)), (1, .int (nI (b))), (2, .int (nI (q))), (3, .int (nI (h))), (4, .int (nI (p))), (5, .int (nI (0)))]) rfl ?_
  have lpA : ∀ (mm_ : Nat) (l : Nat) (s1 : Sg), mm_ = 6 - l → (l ≤ 6) → (same [] [] [44, 45] false σ s1) → (∀ m, m < l → s1.J 44 m = lN (f0 m)) → (∀ m, m < l → s1.J 45 m = lN (f1 m)) → GJ g x 7 3 [(0, .ref (ad 70)), (1, .int (nI (b))), (2, .int (nI (q))), (3, .int (nI (h))), (4, .int (nI (p))), (5, .int (nI (l)))] [] ad (s1) := by
    intro mm_
    induction mm_ using Nat.strongRecOn with
    | _ mm_ ihA =>
      intro l s1 hmA hl hs1 h44 h45
      refine r_iload K rfl dX2_valuePlace_3 ?_
      refine r_bipush K ((nI (6))) (by decide) dX2_valuePlace_5 ?_
      refine n_icmp_ge K 65 (by omega) (by omega) dX2_valuePlace_7 (by decide) (fun h7 => ?_) (fun h7 => ?_)
      · refine r_aload_n K 0 rfl rfl dX2_valuePlace_65 ?_
        refine get_70_0 K fl_RX2_34 dX2_valuePlace_66 ?_
        refine r_iload_n K 1 rfl rfl dX2_valuePlace_69 ?_
        refine r_callVp K 62 (As := [.int (nI (b))]) mv_X4_cordOf ml_RX2_66 (c_cordOf hT (hR.same hs1 (by intro k hk; simp) (by simp)) (b := b) (by omega)) (by decide) rfl rfl rfl rfl (Nat.le_of_ble_eq_true rfl) ⟨by decide, by decide⟩ dX2_valuePlace_70 ?_
        have hcd := cordS_le hT b
        refine r_istore K (lv' := [(5, .int (nI (cordS T b))), (0, .ref (ad 70)), (1, .int (nI (b))), (2, .int (nI (q))), (3, .int (nI (h))), (4, .int (nI (p)))]) (by decide) rfl dX2_valuePlace_73 ?_
        refine r_iconst K ((nI (0))) (by decide) dX2_valuePlace_75 ?_
        refine r_istore K (lv' := [(6, .int (nI (0))), (5, .int (nI (cordS T b))), (0, .ref (ad 70)), (1, .int (nI (b))), (2, .int (nI (q))), (3, .int (nI (h))), (4, .int (nI (p)))]) (by decide) rfl dX2_valuePlace_76 ?_
        refine r_pick [2, 3, 4, 5, 6, 1, 0] (lv' := [(0, .ref (ad 70)), (1, .int (nI (b))), (2, .int (nI (q))), (3, .int (nI (h))), (4, .int (nI (p))), (5, .int (nI (cordS T b))), (6, .int (nI (0)))]) rfl ?_
        have lpB : ∀ (mm_ : Nat) (l2 : Nat) (s2 : Sg), mm_ = 6 - l2 → (l2 ≤ 6) → (same [] [] [41, 44, 45] false σ s2) → (s2.J 44 = s1.J 44) → (s2.J 45 = s1.J 45) → (∀ m, m < l2 → s2.J 41 (q * 6 + m) = lN (p * mxV m (cordS T b) f0 6 + (10 - p) * mxV m (cordS T b) f1 6)) → (∀ i, i / 6 ≠ q → s2.J 41 i = σ.J 41 i) → GJ g x 7 78 [(0, .ref (ad 70)), (1, .int (nI (b))), (2, .int (nI (q))), (3, .int (nI (h))), (4, .int (nI (p))), (5, .int (nI (cordS T b))), (6, .int (nI (l2)))] [] ad (s2) := by
          intro mm_
          induction mm_ using Nat.strongRecOn with
          | _ mm_ ihB =>
            intro l2 s2 hmB hl2 hs2 g44 g45 g41 go
            refine r_iload K rfl dX2_valuePlace_78 ?_
            refine r_bipush K ((nI (6))) (by decide) dX2_valuePlace_80 ?_
            refine n_icmp_ge K 137 (by omega) (by omega) dX2_valuePlace_82 (by decide) (fun h82 => ?_) (fun h82 => ?_)
            · exact r_vret K hr (⟨rfl, rfl, hs2, fun m hm => g41 m (by omega), go⟩) dX2_valuePlace_137
            · refine r_aload_n K 0 rfl rfl dX2_valuePlace_85 ?_
              refine get_70_3 K fl_RX2_19 dX2_valuePlace_86 ?_
              refine r_iload_n K 2 rfl rfl dX2_valuePlace_89 ?_
              refine r_bipush K ((nI (6))) (by decide) dX2_valuePlace_90 ?_
              refine r_imul K dX2_valuePlace_92 ?_
              refine r_topi (pk_mul _ _) ?_
              refine r_iload K rfl dX2_valuePlace_93 ?_
              refine r_iadd K dX2_valuePlace_95 ?_
              refine r_topi (nI_add _ _) ?_
              refine r_iload K rfl dX2_valuePlace_96 ?_
              refine r_i2l K dX2_valuePlace_98 ?_
              refine r_topl (nI_l (by omega)) ?_
              refine r_aload_n K 0 rfl rfl dX2_valuePlace_99 ?_
              refine get_70_6 K fl_RX2_28 dX2_valuePlace_100 ?_
              refine r_iload K rfl dX2_valuePlace_103 ?_
              refine r_iload K rfl dX2_valuePlace_105 ?_
              refine r_callSp K (As := [.ref (ad 44), .int (nI (l2)), .int (nI (cordS T b))]) ms_X2_greatest ml_RX2_102 (c_greatest_44 (l := l2) (c := cordS T b) (f := f0) (by omega) (by omega) (fun m hm => by rw [g44]; exact h44 m (by omega)) hb0) rfl rfl (Nat.le_of_ble_eq_true rfl) ⟨by decide, by decide⟩ dX2_valuePlace_107 ?_
              refine r_lmul K dX2_valuePlace_110 ?_
              refine r_topl (lN_mul _ _) ?_
              refine r_bipush K ((nI (10))) (by decide) dX2_valuePlace_111 ?_
              refine r_iload K rfl dX2_valuePlace_113 ?_
              refine r_isub K dX2_valuePlace_115 ?_
              refine r_topi (b := (nI (10 - p))) (pk_sub (by omega)) ?_
              refine r_i2l K dX2_valuePlace_116 ?_
              refine r_topl (nI_l (by omega)) ?_
              refine r_aload_n K 0 rfl rfl dX2_valuePlace_117 ?_
              refine get_70_7 K fl_RX2_31 dX2_valuePlace_118 ?_
              refine r_iload K rfl dX2_valuePlace_121 ?_
              refine r_iload K rfl dX2_valuePlace_123 ?_
              refine r_callSp K (As := [.ref (ad 45), .int (nI (l2)), .int (nI (cordS T b))]) ms_X2_greatest ml_RX2_102 (c_greatest_45 (l := l2) (c := cordS T b) (f := f1) (by omega) (by omega) (fun m hm => by rw [g45]; exact h45 m (by omega)) hb1) rfl rfl (Nat.le_of_ble_eq_true rfl) ⟨by decide, by decide⟩ dX2_valuePlace_125 ?_
              refine r_lmul K dX2_valuePlace_128 ?_
              refine r_topl (lN_mul _ _) ?_
              refine r_ladd K dX2_valuePlace_129 ?_
              refine r_topl (lN_add _ _) ?_
              refine r_last K 41 (n := 966) (by decide) rfl rfl (by decide) (by omega) dX2_valuePlace_130 ?_
              refine r_iinc K ((nI (l2 + 1))) rfl (nI_1 _) (lv' := [(6, .int (nI (l2 + 1))), (0, .ref (ad 70)), (1, .int (nI (b))), (2, .int (nI (q))), (3, .int (nI (h))), (4, .int (nI (p))), (5, .int (nI (cordS T b)))]) (by decide) rfl dX2_valuePlace_131 ?_
              refine r_goto K 78 dX2_valuePlace_134 (by decide) ?_
              refine r_pick [1, 2, 3, 4, 5, 6, 0] (lv' := [(0, .ref (ad 70)), (1, .int (nI (b))), (2, .int (nI (q))), (3, .int (nI (h))), (4, .int (nI (p))), (5, .int (nI (cordS T b))), (6, .int (nI (l2 + 1)))]) rfl ?_
              exact ihB _ (by omega) (l2 + 1) ((s2).sJ 41 (vp_updL ((s2).J 41) ((q * 6) + l2) ((lN ((p * (mxV l2 (cordS T b) f0 6)) + ((10 - p) * (mxV l2 (cordS T b) f1 6))))))) rfl (by omega) (same_sJ hs2 (by simp) _) (g44) (g45) (fun m hm => by rw [sJ_at]; unfold vp_updL; by_cases e : m = l2; (rw [if_pos (by omega), e]); (rw [if_neg (by omega)]; exact g41 m (by omega))) (fun i hi => by rw [sJ_at]; unfold vp_updL; rw [if_neg (by omega)]; exact go i hi)
        exact lpB _ (0) (s1) rfl (by omega) (same_w hs1 (by simp) (by simp) (by simp) id) (rfl) (rfl) (fun m hm => absurd hm (Nat.not_lt_zero m)) (fun i _ => by rw [hs1.2.2.1 41 (by simp)])
      · refine r_aload_n K 0 rfl rfl dX2_valuePlace_10 ?_
        refine get_70_6 K fl_RX2_28 dX2_valuePlace_11 ?_
        refine r_iload K rfl dX2_valuePlace_14 ?_
        refine r_aload_n K 0 rfl rfl dX2_valuePlace_16 ?_
        refine get_70_4 K fl_RX2_22 dX2_valuePlace_17 ?_
        refine r_iload_n K 2 rfl rfl dX2_valuePlace_20 ?_
        refine r_bipush K ((nI (6))) (by decide) dX2_valuePlace_21 ?_
        refine r_imul K dX2_valuePlace_23 ?_
        refine r_topi (pk_mul _ _) ?_
        refine r_iload K rfl dX2_valuePlace_24 ?_
        refine r_iadd K dX2_valuePlace_26 ?_
        refine r_topi (nI_add _ _) ?_
        refine r_lald K 42 (n := 966) (by decide) rfl rfl (by decide) (by omega) dX2_valuePlace_27 ?_
        refine r_topl (b := (lN (f0 l))) (by rw [hs1.2.2.1 42 (by simp)]; exact hf0 l (by omega)) ?_
        refine r_last K 44 (n := 6) (by decide) rfl rfl (by decide) (by omega) dX2_valuePlace_28 ?_
        refine r_aload_n K 0 rfl rfl dX2_valuePlace_29 ?_
        refine get_70_7 K fl_RX2_31 dX2_valuePlace_30 ?_
        refine r_iload K rfl dX2_valuePlace_33 ?_
        refine r_aload_n K 0 rfl rfl dX2_valuePlace_35 ?_
        refine get_70_4 K fl_RX2_22 dX2_valuePlace_36 ?_
        refine r_aload_n K 0 rfl rfl dX2_valuePlace_39 ?_
        refine get_70_0 K fl_RX2_34 dX2_valuePlace_40 ?_
        refine r_iload_n K 1 rfl rfl dX2_valuePlace_43 ?_
        refine r_iload_n K 2 rfl rfl dX2_valuePlace_44 ?_
        refine r_iload K rfl dX2_valuePlace_45 ?_
        refine r_iload_n K 3 rfl rfl dX2_valuePlace_47 ?_
        refine r_callVp K 62 (As := [.int (nI (b)), .int (nI (q)), .int (nI (l)), .int (nI (h))]) mv_X4_moved ml_RX2_50 (c_moved hT (hR.same (same_sJ hs1 (by simp) _) (by intro k hk; simp) (by simp)) (b := b) (p := q) (l := l) (h := h) (by omega) (by omega) (by omega) (validP_or hv)) (by decide) rfl rfl rfl rfl (Nat.le_of_ble_eq_true rfl) ⟨by decide, by decide⟩ dX2_valuePlace_48 ?_
        have hgo := validP_le hT (validP_go hT hv b l h)
        refine r_bipush K ((nI (6))) (by decide) dX2_valuePlace_51 ?_
        refine r_imul K dX2_valuePlace_53 ?_
        refine r_topi (pk_mul _ _) ?_
        refine r_iload K rfl dX2_valuePlace_54 ?_
        refine r_iadd K dX2_valuePlace_56 ?_
        refine r_topi (nI_add _ _) ?_
        refine r_lald K 42 (n := 966) (by decide) rfl rfl (by decide) (by omega) dX2_valuePlace_57 ?_
        refine r_topl (b := s1.J 42 (((goS T b q l h) * 6) + l)) rfl ?_
        refine r_topl (b := (lN (f1 l))) (by rw [hs1.2.2.1 42 (by simp)]; exact hf1 l (by omega)) ?_
        refine r_last K 45 (n := 6) (by decide) rfl rfl (by decide) (by omega) dX2_valuePlace_58 ?_
        refine r_w (σ2 := ((s1).sJ 44 (vp_updL ((s1).J 44) (l) ((lN (f0 l))))).sJ 45 (vp_updL ((s1).J 45) (l) ((lN (f1 l))))) rfl ?_
        refine r_iinc K ((nI (l + 1))) rfl (nI_1 _) (lv' := [(5, .int (nI (l + 1))), (0, .ref (ad 70)), (1, .int (nI (b))), (2, .int (nI (q))), (3, .int (nI (h))), (4, .int (nI (p)))]) (by decide) rfl dX2_valuePlace_59 ?_
        refine r_goto K 3 dX2_valuePlace_62 (by decide) ?_
        refine r_pick [1, 2, 3, 4, 5, 0] (lv' := [(0, .ref (ad 70)), (1, .int (nI (b))), (2, .int (nI (q))), (3, .int (nI (h))), (4, .int (nI (p))), (5, .int (nI (l + 1)))]) rfl ?_
        exact ihA _ (by omega) (l + 1) (((s1).sJ 44 (vp_updL ((s1).J 44) (l) ((lN (f0 l))))).sJ 45 (vp_updL ((s1).J 45) (l) ((lN (f1 l))))) rfl (by omega) (same_sJ (same_sJ hs1 (by simp) _) (by simp) _) (fun m hm => by rw [sJ_J, if_neg (by decide), sJ_at]; unfold vp_updL; by_cases e : m = l; (rw [if_pos e, e]); (rw [if_neg e]; exact h44 m (by omega))) (fun m hm => by rw [sJ_at]; unfold vp_updL; by_cases e : m = l; (rw [if_pos e, e]); (rw [if_neg e]; exact h45 m (by omega)))
  exact lpA _ (0) (σ) rfl (by omega) (same_rf _ _ _ _ _) (fun m hm => absurd hm (Nat.not_lt_zero m)) (fun m hm => absurd hm (Nat.not_lt_zero m))

