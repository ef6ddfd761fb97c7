theorem te_exit {X : Tv} {a q : Nat} (h0 : kdS X a = 0 → rnS X isLe q = rnS X isLe a) (h1 : kdS X a = 1 → rnS X isDi q = rnS X isDi a) (h2 : kdS X a = 2 ∨ kdS X a = 3 → q = a) (hx : X 0 0 ≤ q ∨ kdS X q ≠ kdS X a) : q = teA X a := by
  unfold teA
  have hk := kdS_le X a
  by_cases e0 : kdS X a = 0
  · rw [if_pos e0, ← h0 e0, rnS_end]
    intro z
    have := kd_sameLe.mp z
    rcases hx with h | h <;> omega
  · rw [if_neg e0]
    by_cases e1 : kdS X a = 1
    · rw [if_pos e1, ← h1 e1, rnS_end]
      intro z
      have := kd_sameDi.mp z
      rcases hx with h | h <;> omega
    · rw [if_neg e1]
      have e := h2 (by omega)
      by_cases e2 : kdS X a = 2
      · exfalso
        rcases hx with h | h
        · have := kd_lt (X := X) (a := a) (by omega); omega
        · rw [e] at h; exact h rfl
      · rw [if_neg e2]; exact e
theorem te_back {X : Tv} {a q : Nat} (hq : q < X 0 0) (hk : kdS X q = kdS X a) (h0 : kdS X a = 0 → rnS X isLe q = rnS X isLe a) (h1 : kdS X a = 1 → rnS X isDi q = rnS X isDi a) (h2 : kdS X a ≠ 2) : (kdS X a = 0 → rnS X isLe (q + 1) = rnS X isLe a) ∧ (kdS X a = 1 → rnS X isDi (q + 1) = rnS X isDi a) ∧ (kdS X a = 2 ∨ kdS X a = 3 → q + 1 = a) := by
  refine ⟨fun e => ?_, fun e => ?_, fun e => ?_⟩
  · rw [← h0 e, rnS_go hq (kd_sameLe.mpr (hk.trans e)).2]
  · rw [← h1 e, rnS_go hq (kd_sameDi.mpr (hk.trans e)).2]
  · exfalso
    rcases e with e | e
    · exact h2 e
    · have h3 : kdS X q = 3 := hk.trans e
      unfold kdS at h3
      rw [if_neg (by omega)] at h3
      split at h3
      · omega
      · split at h3 <;> omega
def wI (w : Nat) : Int32 := if w = 8 then -1 else nI w
def kI (k : Nat) : Int32 := if k = 5 then -1 else nI k
set_option maxHeartbeats 400000 in
set_option maxRecDepth 10000 in
theorem c_kindAt {g : Gp} {lau : Launch} {ad : Nat → Nat} {σ : Sg} {X : Tv} (hXo : XOk X) (hX : RepX 2 10 X σ) {j : Nat} (hj : j ≤ 200) : Con g lau yX5_kindAt cX5_kindAt 2 (Option.some .int) 0 0 [.ref (ad 63), .int (nI (j))] ad σ (pu (.int (nI (kdS X j))) ad σ) := by
  refine con_mk (by decide) (Nat.le_of_ble_eq_true rfl) (fun x hxl K hr => ?_)
  subst hxl
  refine r_lv (lv' := [(0, .ref (ad 63)), (1, .int (nI (j)))]) rfl ?_
  have hx200 := hXo.1
  refine r_iload_n K 1 rfl rfl dX5_kindAt_0 ?_
  refine r_aload_n K 0 rfl rfl dX5_kindAt_1 ?_
  refine get_63_0 K fl_RX5_9 dX5_kindAt_2 ?_
  refine r_topi (b := (nI (X 0 0))) (hX.1) ?_
  refine n_icmp_lt K 10 (by omega) (by omega) dX5_kindAt_5 (by decide) (fun h5 => ?_) (fun h5 => ?_)
  · refine r_aload_n K 0 rfl rfl dX5_kindAt_10 ?_
    refine get_63_2 K fl_RX5_18 dX5_kindAt_11 ?_
    refine r_iload_n K 1 rfl rfl dX5_kindAt_14 ?_
    refine r_iald K 10 (n := 200) (by decide) rfl rfl (by decide) (by omega) dX5_kindAt_15 ?_
    have hby278 := hXo.2 (j)
    refine r_topi (b := (nI (X 1 j))) (hX.2 _ (by omega)) ?_
    refine r_bipush K ((nI (97))) (by decide) dX5_kindAt_16 ?_
    refine n_icmp_lt K 34 (by omega) (by omega) dX5_kindAt_18 (by decide) (fun h18 => ?_) (fun h18 => ?_)
    · refine r_aload_n K 0 rfl rfl dX5_kindAt_34 ?_
      refine get_63_2 K fl_RX5_18 dX5_kindAt_35 ?_
      refine r_iload_n K 1 rfl rfl dX5_kindAt_38 ?_
      refine r_iald K 10 (n := 200) (by decide) rfl rfl (by decide) (by omega) dX5_kindAt_39 ?_
      have hby280 := hXo.2 (j)
      refine r_topi (b := (nI (X 1 j))) (hX.2 _ (by omega)) ?_
      refine r_bipush K ((nI (48))) (by decide) dX5_kindAt_40 ?_
      refine n_icmp_lt K 60 (by omega) (by omega) dX5_kindAt_42 (by decide) (fun h42 => ?_) (fun h42 => ?_)
      · refine r_iconst K ((nI (2))) (by decide) dX5_kindAt_60 ?_
        exact r_iret K hr (⟨by rw [show kdS X j = 2 from by unfold kdS; rw [if_neg (by omega), if_neg (fun z => by have := of_decide_eq_true z; omega), if_neg (fun z => by have := of_decide_eq_true z; omega)]], rfl, rfl⟩) dX5_kindAt_61
      · refine r_aload_n K 0 rfl rfl dX5_kindAt_45 ?_
        refine get_63_2 K fl_RX5_18 dX5_kindAt_46 ?_
        refine r_iload_n K 1 rfl rfl dX5_kindAt_49 ?_
        refine r_iald K 10 (n := 200) (by decide) rfl rfl (by decide) (by omega) dX5_kindAt_50 ?_
        have hby282 := hXo.2 (j)
        refine r_topi (b := (nI (X 1 j))) (hX.2 _ (by omega)) ?_
        refine r_bipush K ((nI (57))) (by decide) dX5_kindAt_51 ?_
        refine n_icmp_gt K 60 (by omega) (by omega) dX5_kindAt_53 (by decide) (fun h53 => ?_) (fun h53 => ?_)
        · refine r_iconst K ((nI (2))) (by decide) dX5_kindAt_60 ?_
          exact r_iret K hr (⟨by rw [show kdS X j = 2 from by unfold kdS; rw [if_neg (by omega), if_neg (fun z => by have := of_decide_eq_true z; omega), if_neg (fun z => by have := of_decide_eq_true z; omega)]], rfl, rfl⟩) dX5_kindAt_61
        · refine r_iconst K ((nI (1))) (by decide) dX5_kindAt_56 ?_
          refine r_goto K 61 dX5_kindAt_57 (by decide) ?_
          exact r_iret K hr (⟨by rw [show kdS X j = 1 from by unfold kdS; rw [if_neg (by omega), if_neg (fun z => by have := of_decide_eq_true z; omega), if_pos (show isDi (X 1 j) = true from decide_eq_true (by omega))]], rfl, rfl⟩) dX5_kindAt_61
    · refine r_aload_n K 0 rfl rfl dX5_kindAt_21 ?_
      refine get_63_2 K fl_RX5_18 dX5_kindAt_22 ?_
      refine r_iload_n K 1 rfl rfl dX5_kindAt_25 ?_
      refine r_iald K 10 (n := 200) (by decide) rfl rfl (by decide) (by omega) dX5_kindAt_26 ?_
      have hby284 := hXo.2 (j)
      refine r_topi (b := (nI (X 1 j))) (hX.2 _ (by omega)) ?_
      refine r_bipush K ((nI (122))) (by decide) dX5_kindAt_27 ?_
      refine n_icmp_gt K 34 (by omega) (by omega) dX5_kindAt_29 (by decide) (fun h29 => ?_) (fun h29 => ?_)
      · refine r_aload_n K 0 rfl rfl dX5_kindAt_34 ?_
        refine get_63_2 K fl_RX5_18 dX5_kindAt_35 ?_
        refine r_iload_n K 1 rfl rfl dX5_kindAt_38 ?_
        refine r_iald K 10 (n := 200) (by decide) rfl rfl (by decide) (by omega) dX5_kindAt_39 ?_
        have hby286 := hXo.2 (j)
        refine r_topi (b := (nI (X 1 j))) (hX.2 _ (by omega)) ?_
        refine r_bipush K ((nI (48))) (by decide) dX5_kindAt_40 ?_
        refine n_icmp_lt K 60 (by omega) (by omega) dX5_kindAt_42 (by decide) (fun h42 => ?_) (fun h42 => ?_)
        · refine r_iconst K ((nI (2))) (by decide) dX5_kindAt_60 ?_
          exact r_iret K hr (⟨by rw [show kdS X j = 2 from by unfold kdS; rw [if_neg (by omega), if_neg (fun z => by have := of_decide_eq_true z; omega), if_neg (fun z => by have := of_decide_eq_true z; omega)]], rfl, rfl⟩) dX5_kindAt_61
        · refine r_aload_n K 0 rfl rfl dX5_kindAt_45 ?_
          refine get_63_2 K fl_RX5_18 dX5_kindAt_46 ?_
          refine r_iload_n K 1 rfl rfl dX5_kindAt_49 ?_
          refine r_iald K 10 (n := 200) (by decide) rfl rfl (by decide) (by omega) dX5_kindAt_50 ?_
          have hby288 := hXo.2 (j)
          refine r_topi (b := (nI (X 1 j))) (hX.2 _ (by omega)) ?_
          refine r_bipush K ((nI (57))) (by decide) dX5_kindAt_51 ?_
          refine n_icmp_gt K 60 (by omega) (by omega) dX5_kindAt_53 (by decide) (fun h53 => ?_) (fun h53 => ?_)
          · refine r_iconst K ((nI (2))) (by decide) dX5_kindAt_60 ?_
            exact r_iret K hr (⟨by rw [show kdS X j = 2 from by unfold kdS; rw [if_neg (by omega), if_neg (fun z => by have := of_decide_eq_true z; omega), if_neg (fun z => by have := of_decide_eq_true z; omega)]], rfl, rfl⟩) dX5_kindAt_61
          · refine r_iconst K ((nI (1))) (by decide) dX5_kindAt_56 ?_
            refine r_goto K 61 dX5_kindAt_57 (by decide) ?_
            exact r_iret K hr (⟨by rw [show kdS X j = 1 from by unfold kdS; rw [if_neg (by omega), if_neg (fun z => by have := of_decide_eq_true z; omega), if_pos (show isDi (X 1 j) = true from decide_eq_true (by omega))]], rfl, rfl⟩) dX5_kindAt_61
      · refine r_iconst K ((nI (0))) (by decide) dX5_kindAt_32 ?_
        exact r_iret K hr (⟨by rw [show kdS X j = 0 from by unfold kdS; rw [if_neg (by omega), if_pos (show isLe (X 1 j) = true from decide_eq_true (by omega))]], rfl, rfl⟩) dX5_kindAt_33
  · refine r_iconst K ((nI (3))) (by decide) dX5_kindAt_8 ?_
    exact r_iret K hr (⟨by rw [show kdS X j = 3 from by unfold kdS; rw [if_pos (by omega)]], rfl, rfl⟩) dX5_kindAt_9

set_option maxHeartbeats 400000 in
set_option maxRecDepth 10000 in
theorem c_readToken {g : Gp} {lau : Launch} {ad : Nat → Nat} {σ : Sg} {X : Tv} (hXo : XOk X) (hX : RepX 2 10 X σ) {p : Nat} (hp : p ≤ X 0 0) (h6 : σ.I 6 = nI p) : Con g lau yX5_readToken cX5_readToken 1 (Option.none : Option Jvm.ClassFile.FieldType) 1 21 [.ref (ad 63)] ad σ (fun r a2 s2 => none = r ∧ ad = a2 ∧ same [] [4, 5, 6] [] false σ s2 ∧ s2.I 4 = nI (kdS X (tkS X p)) ∧ s2.I 5 = nI (tkS X p) ∧ s2.I 6 = nI (teS X p)) := by
  refine con_mk (by decide) (Nat.le_of_ble_eq_true rfl) (fun x hxl K hr => ?_)
  subst hxl
  refine r_lv (lv' := [(0, .ref (ad 63))]) rfl ?_
  have hx200 := hXo.1
  have hkp := kdS_le X (tkS X p)
  refine r_aload_n K 0 rfl rfl dX5_readToken_0 ?_
  refine r_aload_n K 0 rfl rfl dX5_readToken_1 ?_
  refine get_63_5 K fl_RX5_28 dX5_readToken_2 ?_
  refine r_topi (b := (nI (p))) (h6) ?_
  refine put_63_4 K fl_RX5_25 dX5_readToken_5 ?_
  have lpA : ∀ (mm_ : Nat) (q : Nat) (s1 : Sg), mm_ = X 0 0 - q → (q ≤ X 0 0) → (tkS X q = tkS X p) → (same [] [5] [] false σ s1) → (s1.I 5 = nI q) → GJ g x 1 8 [(0, .ref (ad 63))] [] ad (s1) := by
    intro mm_
    induction mm_ using Nat.strongRecOn with
    | _ mm_ ihA =>
      intro q s1 hmA hq ht hs1 h5
      have hX1 : RepX 2 10 X s1 := RepX_same hX hs1 (by simp) (by simp)
      refine r_aload_n K 0 rfl rfl dX5_readToken_8 ?_
      refine get_63_4 K fl_RX5_25 dX5_readToken_9 ?_
      refine r_topi (b := (nI (q))) (h5) ?_
      refine r_aload_n K 0 rfl rfl dX5_readToken_12 ?_
      refine get_63_0 K fl_RX5_9 dX5_readToken_13 ?_
      refine r_topi (b := (nI (X 0 0))) (hX1.1) ?_
      refine n_icmp_ge K 46 (by omega) (by omega) dX5_readToken_16 (by decide) (fun h16 => ?_) (fun h16 => ?_)
      · have hqa : q = tkS X p := by rw [← ht]; unfold tkS; rw [rnS_end (fun z => by have z1 := z.1; have z2 := of_decide_eq_true z.2; omega)]
        refine r_aload_n K 0 rfl rfl dX5_readToken_46 ?_
        refine r_aload_n K 0 rfl rfl dX5_readToken_47 ?_
        refine r_aload_n K 0 rfl rfl dX5_readToken_48 ?_
        refine get_63_4 K fl_RX5_25 dX5_readToken_49 ?_
        refine r_topi (b := (nI (q))) (h5) ?_
        refine r_callVp K 63 (As := [.int (nI (q))]) mv_X5_kindAt ml_RX5_107 (c_kindAt hXo (hX1) (j := q) (by omega)) (by decide) rfl rfl rfl rfl (Nat.le_of_ble_eq_true rfl) ⟨by decide, by decide⟩ dX5_readToken_52 ?_
        have hkq := kdS_le X q
        refine put_63_3 K fl_RX5_22 dX5_readToken_55 ?_
        refine r_aload_n K 0 rfl rfl dX5_readToken_58 ?_
        refine r_aload_n K 0 rfl rfl dX5_readToken_59 ?_
        refine get_63_4 K fl_RX5_25 dX5_readToken_60 ?_
        refine r_topi (b := s1.I 5) rfl ?_
        refine r_topi (b := (nI (q))) (h5) ?_
        refine put_63_5 K fl_RX5_28 dX5_readToken_63 ?_
        have lpB : ∀ (mm_ : Nat) (e : Nat) (s2 : Sg), mm_ = X 0 0 - e → (q ≤ e ∧ e ≤ X 0 0) → (same [] [4, 5, 6] [] false σ s2) → (s2.I 4 = nI (kdS X q)) → (s2.I 5 = nI q) → (s2.I 6 = nI e) → (kdS X q = 0 → rnS X isLe e = rnS X isLe q) → (kdS X q = 1 → rnS X isDi e = rnS X isDi q) → (kdS X q = 2 ∨ kdS X q = 3 → e = q) → GJ g x 1 66 [(0, .ref (ad 63))] [] ad (s2) := by
          intro mm_
          induction mm_ using Nat.strongRecOn with
          | _ mm_ ihB =>
            intro e s2 hmB he hs2 h24 h25 h26 i0 i1 i2
            have hX2 : RepX 2 10 X s2 := RepX_same hX hs2 (by simp) (by simp)
            refine r_aload_n K 0 rfl rfl dX5_readToken_66 ?_
            refine get_63_5 K fl_RX5_28 dX5_readToken_67 ?_
            refine r_topi (b := (nI (e))) (h26) ?_
            refine r_aload_n K 0 rfl rfl dX5_readToken_70 ?_
            refine get_63_0 K fl_RX5_9 dX5_readToken_71 ?_
            refine r_topi (b := (nI (X 0 0))) (hX2.1) ?_
            refine n_icmp_ge K 113 (by omega) (by omega) dX5_readToken_74 (by decide) (fun h74 => ?_) (fun h74 => ?_)
            · exact r_vret K hr (⟨rfl, rfl, hs2, by rw [← hqa]; exact h24, by rw [← hqa]; exact h25, by rw [h26]; unfold teS; rw [← hqa, ← te_exit i0 i1 i2 (by first | exact Or.inl h74 | exact Or.inr h89)]⟩) dX5_readToken_113
            · refine r_aload_n K 0 rfl rfl dX5_readToken_77 ?_
              refine r_aload_n K 0 rfl rfl dX5_readToken_78 ?_
              refine get_63_5 K fl_RX5_28 dX5_readToken_79 ?_
              refine r_topi (b := (nI (e))) (h26) ?_
              refine r_callVp K 63 (As := [.int (nI (e))]) mv_X5_kindAt ml_RX5_107 (c_kindAt hXo (hX2) (j := e) (by omega)) (by decide) rfl rfl rfl rfl (Nat.le_of_ble_eq_true rfl) ⟨by decide, by decide⟩ dX5_readToken_82 ?_
              have hkq := kdS_le X e
              refine r_aload_n K 0 rfl rfl dX5_readToken_85 ?_
              refine get_63_3 K fl_RX5_22 dX5_readToken_86 ?_
              refine r_topi (b := (nI (kdS X q))) (h24) ?_
              refine n_icmp_ne K 113 (by omega) (by omega) dX5_readToken_89 (by decide) (fun h89 => ?_) (fun h89 => ?_)
              · exact r_vret K hr (⟨rfl, rfl, hs2, by rw [← hqa]; exact h24, by rw [← hqa]; exact h25, by rw [h26]; unfold teS; rw [← hqa, ← te_exit i0 i1 i2 (by first | exact Or.inl h74 | exact Or.inr h89)]⟩) dX5_readToken_113
              · refine r_aload_n K 0 rfl rfl dX5_readToken_92 ?_
                refine r_dup K rfl dX5_readToken_93 ?_
                refine get_63_5 K fl_RX5_28 dX5_readToken_94 ?_
                refine r_topi (b := (nI (e))) (h26) ?_
                refine r_iconst K ((nI (1))) (by decide) dX5_readToken_97 ?_
                refine r_iadd K dX5_readToken_98 ?_
                refine r_topi (nI_add _ _) ?_
                refine put_63_5 K fl_RX5_28 dX5_readToken_99 ?_
                refine r_aload_n K 0 rfl rfl dX5_readToken_102 ?_
                refine get_63_3 K fl_RX5_22 dX5_readToken_103 ?_
                refine r_topi (b := s2.I 4) rfl ?_
                refine r_topi (b := (nI (kdS X q))) (h24) ?_
                refine r_iconst K ((nI (2))) (by decide) dX5_readToken_106 ?_
                refine n_icmp_ne K 66 (by omega) (by omega) dX5_readToken_107 (by decide) (fun h107 => ?_) (fun h107 => ?_)
                · exact ihB _ (by omega) (e + 1) ((s2).sI 6 ((nI (e + 1)))) rfl (by omega) (same_sI hs2 (by simp) _) (by rw [sI_ne _ _ (by decide)]; exact h24) (by rw [sI_ne _ _ (by decide)]; exact h25) (sI_at _ _ _) ((te_back (by omega) h89 i0 i1 h107).1) ((te_back (by omega) h89 i0 i1 h107).2.1) ((te_back (by omega) h89 i0 i1 h107).2.2)
                · refine r_goto K 113 dX5_readToken_110 (by decide) ?_
                  exact r_vret K hr (⟨rfl, rfl, same_sI hs2 (by simp) _, by rw [← hqa]; exact (sI_ne _ _ (by decide)).trans h24, by rw [← hqa]; exact (sI_ne _ _ (by decide)).trans h25, by rw [sI_at]; unfold teS; rw [← hqa]; unfold teA; rw [if_neg (by omega), if_neg (by omega), if_pos h107, i2 (Or.inl h107)]⟩) dX5_readToken_113
        exact lpB _ (q) (((s1).sI 4 ((nI (kdS X q)))).sI 6 ((nI (q)))) rfl (⟨Nat.le_refl _, hq⟩) (same_sI (same_sI (same_w hs1 (by simp) (by simp) (by simp) id) (by simp) _) (by simp) _) (by rw [sI_ne _ _ (by decide), sI_at]) (by rw [sI_ne _ _ (by decide), sI_ne _ _ (by decide)]; exact h5) (sI_at _ _ _) (fun _ => rfl) (fun _ => rfl) (fun _ => rfl)
      · refine r_aload_n K 0 rfl rfl dX5_readToken_19 ?_
        refine get_63_2 K fl_RX5_18 dX5_readToken_20 ?_
        refine r_aload_n K 0 rfl rfl dX5_readToken_23 ?_
        refine get_63_4 K fl_RX5_25 dX5_readToken_24 ?_
        refine r_topi (b := (nI (q))) (h5) ?_
        refine r_iald K 10 (n := 200) (by decide) rfl rfl (by decide) (by omega) dX5_readToken_27 ?_
        have hby294 := hXo.2 (q)
        refine r_topi (b := (nI (X 1 q))) (hX1.2 _ (by omega)) ?_
        refine r_bipush K ((nI (32))) (by decide) dX5_readToken_28 ?_
        refine n_icmp_ne K 46 (by omega) (by omega) dX5_readToken_30 (by decide) (fun h30 => ?_) (fun h30 => ?_)
        · have hqa : q = tkS X p := by rw [← ht]; unfold tkS; rw [rnS_end (fun z => by have z1 := z.1; have z2 := of_decide_eq_true z.2; omega)]
          refine r_aload_n K 0 rfl rfl dX5_readToken_46 ?_
          refine r_aload_n K 0 rfl rfl dX5_readToken_47 ?_
          refine r_aload_n K 0 rfl rfl dX5_readToken_48 ?_
          refine get_63_4 K fl_RX5_25 dX5_readToken_49 ?_
          refine r_topi (b := (nI (q))) (h5) ?_
          refine r_callVp K 63 (As := [.int (nI (q))]) mv_X5_kindAt ml_RX5_107 (c_kindAt hXo (hX1) (j := q) (by omega)) (by decide) rfl rfl rfl rfl (Nat.le_of_ble_eq_true rfl) ⟨by decide, by decide⟩ dX5_readToken_52 ?_
          have hkq := kdS_le X q
          refine put_63_3 K fl_RX5_22 dX5_readToken_55 ?_
          refine r_aload_n K 0 rfl rfl dX5_readToken_58 ?_
          refine r_aload_n K 0 rfl rfl dX5_readToken_59 ?_
          refine get_63_4 K fl_RX5_25 dX5_readToken_60 ?_
          refine r_topi (b := s1.I 5) rfl ?_
          refine r_topi (b := (nI (q))) (h5) ?_
          refine put_63_5 K fl_RX5_28 dX5_readToken_63 ?_
          have lpB : ∀ (mm_ : Nat) (e : Nat) (s2 : Sg), mm_ = X 0 0 - e → (q ≤ e ∧ e ≤ X 0 0) → (same [] [4, 5, 6] [] false σ s2) → (s2.I 4 = nI (kdS X q)) → (s2.I 5 = nI q) → (s2.I 6 = nI e) → (kdS X q = 0 → rnS X isLe e = rnS X isLe q) → (kdS X q = 1 → rnS X isDi e = rnS X isDi q) → (kdS X q = 2 ∨ kdS X q = 3 → e = q) → GJ g x 1 66 [(0, .ref (ad 63))] [] ad (s2) := by
            intro mm_
            induction mm_ using Nat.strongRecOn with
            | _ mm_ ihB =>
              intro e s2 hmB he hs2 h24 h25 h26 i0 i1 i2
              have hX2 : RepX 2 10 X s2 := RepX_same hX hs2 (by simp) (by simp)
              refine r_aload_n K 0 rfl rfl dX5_readToken_66 ?_
              refine get_63_5 K fl_RX5_28 dX5_readToken_67 ?_
              refine r_topi (b := (nI (e))) (h26) ?_
              refine r_aload_n K 0 rfl rfl dX5_readToken_70 ?_
              refine get_63_0 K fl_RX5_9 dX5_readToken_71 ?_
              refine r_topi (b := (nI (X 0 0))) (hX2.1) ?_
              refine n_icmp_ge K 113 (by omega) (by omega) dX5_readToken_74 (by decide) (fun h74 => ?_) (fun h74 => ?_)
              · exact r_vret K hr (⟨rfl, rfl, hs2, by rw [← hqa]; exact h24, by rw [← hqa]; exact h25, by rw [h26]; unfold teS; rw [← hqa, ← te_exit i0 i1 i2 (by first | exact Or.inl h74 | exact Or.inr h89)]⟩) dX5_readToken_113
              · refine r_aload_n K 0 rfl rfl dX5_readToken_77 ?_
                refine r_aload_n K 0 rfl rfl dX5_readToken_78 ?_
                refine get_63_5 K fl_RX5_28 dX5_readToken_79 ?_
                refine r_topi (b := (nI (e))) (h26) ?_
                refine r_callVp K 63 (As := [.int (nI (e))]) mv_X5_kindAt ml_RX5_107 (c_kindAt hXo (hX2) (j := e) (by omega)) (by decide) rfl rfl rfl rfl (Nat.le_of_ble_eq_true rfl) ⟨by decide, by decide⟩ dX5_readToken_82 ?_
                have hkq := kdS_le X e
                refine r_aload_n K 0 rfl rfl dX5_readToken_85 ?_
                refine get_63_3 K fl_RX5_22 dX5_readToken_86 ?_
                refine r_topi (b := (nI (kdS X q))) (h24) ?_
                refine n_icmp_ne K 113 (by omega) (by omega) dX5_readToken_89 (by decide) (fun h89 => ?_) (fun h89 => ?_)
                · exact r_vret K hr (⟨rfl, rfl, hs2, by rw [← hqa]; exact h24, by rw [← hqa]; exact h25, by rw [h26]; unfold teS; rw [← hqa, ← te_exit i0 i1 i2 (by first | exact Or.inl h74 | exact Or.inr h89)]⟩) dX5_readToken_113
                · refine r_aload_n K 0 rfl rfl dX5_readToken_92 ?_
                  refine r_dup K rfl dX5_readToken_93 ?_
                  refine get_63_5 K fl_RX5_28 dX5_readToken_94 ?_
                  refine r_topi (b := (nI (e))) (h26) ?_
                  refine r_iconst K ((nI (1))) (by decide) dX5_readToken_97 ?_
                  refine r_iadd K dX5_readToken_98 ?_
                  refine r_topi (nI_add _ _) ?_
                  refine put_63_5 K fl_RX5_28 dX5_readToken_99 ?_
                  refine r_aload_n K 0 rfl rfl dX5_readToken_102 ?_
                  refine get_63_3 K fl_RX5_22 dX5_readToken_103 ?_
                  refine r_topi (b := s2.I 4) rfl ?_
                  refine r_topi (b := (nI (kdS X q))) (h24) ?_
                  refine r_iconst K ((nI (2))) (by decide) dX5_readToken_106 ?_
                  refine n_icmp_ne K 66 (by omega) (by omega) dX5_readToken_107 (by decide) (fun h107 => ?_) (fun h107 => ?_)
                  · exact ihB _ (by omega) (e + 1) ((s2).sI 6 ((nI (e + 1)))) rfl (by omega) (same_sI hs2 (by simp) _) (by rw [sI_ne _ _ (by decide)]; exact h24) (by rw [sI_ne _ _ (by decide)]; exact h25) (sI_at _ _ _) ((te_back (by omega) h89 i0 i1 h107).1) ((te_back (by omega) h89 i0 i1 h107).2.1) ((te_back (by omega) h89 i0 i1 h107).2.2)
                  · refine r_goto K 113 dX5_readToken_110 (by decide) ?_
                    exact r_vret K hr (⟨rfl, rfl, same_sI hs2 (by simp) _, by rw [← hqa]; exact (sI_ne _ _ (by decide)).trans h24, by rw [← hqa]; exact (sI_ne _ _ (by decide)).trans h25, by rw [sI_at]; unfold teS; rw [← hqa]; unfold teA; rw [if_neg (by omega), if_neg (by omega), if_pos h107, i2 (Or.inl h107)]⟩) dX5_readToken_113
          exact lpB _ (q) (((s1).sI 4 ((nI (kdS X q)))).sI 6 ((nI (q)))) rfl (⟨Nat.le_refl _, hq⟩) (same_sI (same_sI (same_w hs1 (by simp) (by simp) (by simp) id) (by simp) _) (by simp) _) (by rw [sI_ne _ _ (by decide), sI_at]) (by rw [sI_ne _ _ (by decide), sI_ne _ _ (by decide)]; exact h5) (sI_at _ _ _) (fun _ => rfl) (fun _ => rfl) (fun _ => rfl)
        · refine r_aload_n K 0 rfl rfl dX5_readToken_33 ?_
          refine r_dup K rfl dX5_readToken_34 ?_
          refine get_63_4 K fl_RX5_25 dX5_readToken_35 ?_
          refine r_topi (b := (nI (q))) (h5) ?_
          refine r_iconst K ((nI (1))) (by decide) dX5_readToken_38 ?_
          refine r_iadd K dX5_readToken_39 ?_
          refine r_topi (nI_add _ _) ?_
          refine put_63_4 K fl_RX5_25 dX5_readToken_40 ?_
          refine r_goto K 8 dX5_readToken_43 (by decide) ?_
          exact ihA _ (by omega) (q + 1) ((s1).sI 5 ((nI (q + 1)))) rfl (by omega) (by rw [← ht]; exact (rnS_go (c := isBl) (by omega) (decide_eq_true (by omega))).symm) (same_sI hs1 (by simp) _) (sI_at _ _ _)
  exact lpA _ (p) ((σ).sI 5 ((nI (p)))) rfl (hp) (rfl) (same_sI (same_rf _ _ _ _ _) (by simp) _) (sI_at _ _ _)

set_option maxHeartbeats 400000 in
set_option maxRecDepth 10000 in
theorem c_tokenIs {g : Gp} {lau : Launch} {ad : Nat → Nat} {σ : Sg} {X : Tv} (hXo : XOk X) (hX : RepX 2 10 X σ) {a e i : Nat} (g5 : σ.I 5 = nI a) (g6 : σ.I 6 = nI e) (hae : a ≤ e) (he : e ≤ X 0 0) (hi : i < 13) : Con g lau yX5_tokenIs cX5_tokenIs 3 (Option.some .boolean) 4 85 [.ref (ad 63), .ref (g.aK i)] ad σ (pu (.int (bI (tokIs X a e i))) ad σ) := by
  refine con_mk (by decide) (Nat.le_of_ble_eq_true rfl) (fun x hxl K hr => ?_)
  subst hxl
  refine r_lv (lv' := [(0, .ref (ad 63)), (1, .ref (g.aK i))]) rfl ?_
  have hx200 := hXo.1
  have hw6 := (wc_ok i hi).1
  refine r_aload_n K 0 rfl rfl dX5_tokenIs_0 ?_
  refine get_63_5 K fl_RX5_28 dX5_tokenIs_1 ?_
  refine r_topi (b := (nI (e))) (g6) ?_
  refine r_aload_n K 0 rfl rfl dX5_tokenIs_4 ?_
  refine get_63_4 K fl_RX5_25 dX5_tokenIs_5 ?_
  refine r_topi (b := (nI (a))) (g5) ?_
  refine r_isub K dX5_tokenIs_8 ?_
  refine r_topi (b := (nI (e - a))) (pk_sub (by omega)) ?_
  refine r_aload_n K 1 rfl rfl dX5_tokenIs_9 ?_
  refine r_callK K hi (As := []) mv_J0_length_8abf5 rfl ml_RX5_111 (c_slen hi) rfl rfl (Nat.le_of_ble_eq_true rfl) ⟨by decide, by decide⟩ dX5_tokenIs_10 ?_
  refine n_icmp_eq K 18 (by omega) (by omega) dX5_tokenIs_13 (by decide) (fun h13 => ?_) (fun h13 => ?_)
  · refine r_aload_n K 0 rfl rfl dX5_tokenIs_18 ?_
    refine get_63_4 K fl_RX5_25 dX5_tokenIs_19 ?_
    refine r_topi (b := (nI (a))) (g5) ?_
    refine r_istore_n K (lv' := [(2, .int (nI (a))), (0, .ref (ad 63)), (1, .ref (g.aK i))]) 2 rfl (by decide) rfl dX5_tokenIs_22 ?_
    refine r_lv (lv' := [(2, .int (nI (a + 0))), (0, .ref (ad 63)), (1, .ref (g.aK i))]) rfl ?_
    refine r_pick [1, 2, 0] (lv' := [(0, .ref (ad 63)), (1, .ref (g.aK i)), (2, .int (nI (a + 0)))]) rfl ?_
    have lpA : ∀ (mm_ : Nat) (j : Nat), mm_ = wl0 i - j → (j ≤ wl0 i) → (∀ u, u < j → X 1 (a + u) = wc i u) → GJ g x 3 23 [(0, .ref (ad 63)), (1, .ref (g.aK i)), (2, .int (nI (a + j)))] [] ad (σ) := by
      intro mm_
      induction mm_ using Nat.strongRecOn with
      | _ mm_ ihA =>
        intro j hmA hj hm
        refine r_iload_n K 2 rfl rfl dX5_tokenIs_23 ?_
        refine r_aload_n K 0 rfl rfl dX5_tokenIs_24 ?_
        refine get_63_5 K fl_RX5_28 dX5_tokenIs_25 ?_
        refine r_topi (b := (nI (e))) (g6) ?_
        refine n_icmp_ge K 58 (by omega) (by omega) dX5_tokenIs_28 (by decide) (fun h28 => ?_) (fun h28 => ?_)
        · refine r_iconst K ((nI (1))) (by decide) dX5_tokenIs_58 ?_
          exact r_zret K (b := true) hr (⟨by rw [show tokIs X a e i = true from decide_eq_true ⟨h13, fun u hu => hm u (by omega)⟩], rfl, rfl⟩) dX5_tokenIs_59
        · refine r_aload_n K 0 rfl rfl dX5_tokenIs_31 ?_
          refine get_63_2 K fl_RX5_18 dX5_tokenIs_32 ?_
          refine r_iload_n K 2 rfl rfl dX5_tokenIs_35 ?_
          refine r_iald K 10 (n := 200) (by decide) rfl rfl (by decide) (by omega) dX5_tokenIs_36 ?_
          have hby301 := hXo.2 (a + j)
          refine r_topi (b := (nI (X 1 (a + j)))) (hX.2 _ (by omega)) ?_
          refine r_aload_n K 1 rfl rfl dX5_tokenIs_37 ?_
          refine r_iload_n K 2 rfl rfl dX5_tokenIs_38 ?_
          refine r_aload_n K 0 rfl rfl dX5_tokenIs_39 ?_
          refine get_63_4 K fl_RX5_25 dX5_tokenIs_40 ?_
          refine r_topi (b := (nI (a))) (g5) ?_
          refine r_isub K dX5_tokenIs_43 ?_
          refine r_topi (b := (nI (j))) (by rw [pk_sub (by omega), Nat.add_sub_cancel_left]) ?_
          have hwc := ((str_ok i hi).2.2 j (by omega)).2
          refine r_callK K hi (As := [.int (nI (j))]) mv_J0_charAt_5068e rfl ml_RX5_115 (c_chr hi (j := j) (by omega)) rfl rfl (Nat.le_of_ble_eq_true rfl) ⟨by decide, by decide⟩ dX5_tokenIs_44 ?_
          refine n_icmp_eq K 52 (by omega) (by omega) dX5_tokenIs_47 (by decide) (fun h47 => ?_) (fun h47 => ?_)
          · refine r_iinc K ((nI ((a + j) + 1))) rfl (nI_1 _) (lv' := [(2, .int (nI ((a + j) + 1))), (0, .ref (ad 63)), (1, .ref (g.aK i))]) (by decide) rfl dX5_tokenIs_52 ?_
            refine r_goto K 23 dX5_tokenIs_55 (by decide) ?_
            refine r_pick [1, 2, 0] (lv' := [(0, .ref (ad 63)), (1, .ref (g.aK i)), (2, .int (nI ((a + j) + 1)))]) rfl ?_
            exact ihA _ (by omega) (j + 1) rfl (by omega) (fun u hu => by by_cases z : u = j; (rw [z]; exact h47); exact hm u (by omega))
          · refine r_iconst K ((nI (0))) (by decide) dX5_tokenIs_50 ?_
            exact r_zret K (b := false) hr (⟨by rw [show tokIs X a e i = false from decide_eq_false (fun z => h47 (z.2 j (by omega)))], rfl, rfl⟩) dX5_tokenIs_51
    exact lpA _ (0) rfl (Nat.zero_le _) (fun u hu => absurd hu (Nat.not_lt_zero u))
  · refine r_iconst K ((nI (0))) (by decide) dX5_tokenIs_16 ?_
    exact r_zret K (b := false) hr (⟨by rw [show tokIs X a e i = false from decide_eq_false (fun z => h13 z.1)], rfl, rfl⟩) dX5_tokenIs_17

set_option maxHeartbeats 400000 in
set_option maxRecDepth 10000 in
theorem c_wordOfLine {g : Gp} {lau : Launch} {ad : Nat → Nat} {σ : Sg} {X : Tv} (hXo : XOk X) (hX : RepX 2 10 X σ) {p : Nat} (hp : p ≤ X 0 0) (g5 : σ.I 5 = nI (tkS X p)) (g6 : σ.I 6 = nI (teS X p)) : Con g lau yX5_wordOfLine cX5_wordOfLine 1 (Option.some .int) 5 107 [.ref (ad 63)] ad σ (pu (.int (wI (wordS X p))) ad σ) := by
  refine con_mk (by decide) (Nat.le_of_ble_eq_true rfl) (fun x hxl K hr => ?_)
  subst hxl
  refine r_lv (lv' := [(0, .ref (ad 63))]) rfl ?_
  refine r_aload_n K 0 rfl rfl dX5_wordOfLine_0 ?_
  refine r_ldcS K 0 (by decide) rfl dX5_wordOfLine_1 ?_
  refine r_callVp K 63 (As := [.ref (g.aK 0)]) mv_X5_tokenIs ml_RX5_72 (c_tokenIs hXo hX (i := 0) g5 g6 (tk_te X p) (teS_le hp) (by decide)) (by decide) rfl rfl rfl rfl (Nat.le_of_ble_eq_true rfl) ⟨by decide, by decide⟩ dX5_wordOfLine_3 ?_
  refine b_if_eq K 11 dX5_wordOfLine_6 (by decide) (fun h6 => ?_) (fun h6 => ?_)
  · refine r_aload_n K 0 rfl rfl dX5_wordOfLine_11 ?_
    refine r_ldcS K 1 (by decide) rfl dX5_wordOfLine_12 ?_
    refine r_callVp K 63 (As := [.ref (g.aK 1)]) mv_X5_tokenIs ml_RX5_72 (c_tokenIs hXo hX (i := 1) g5 g6 (tk_te X p) (teS_le hp) (by decide)) (by decide) rfl rfl rfl rfl (Nat.le_of_ble_eq_true rfl) ⟨by decide, by decide⟩ dX5_wordOfLine_14 ?_
    refine b_if_eq K 22 dX5_wordOfLine_17 (by decide) (fun h17 => ?_) (fun h17 => ?_)
    · refine r_aload_n K 0 rfl rfl dX5_wordOfLine_22 ?_
      refine r_ldcS K 2 (by decide) rfl dX5_wordOfLine_23 ?_
      refine r_callVp K 63 (As := [.ref (g.aK 2)]) mv_X5_tokenIs ml_RX5_72 (c_tokenIs hXo hX (i := 2) g5 g6 (tk_te X p) (teS_le hp) (by decide)) (by decide) rfl rfl rfl rfl (Nat.le_of_ble_eq_true rfl) ⟨by decide, by decide⟩ dX5_wordOfLine_25 ?_
      refine b_if_eq K 33 dX5_wordOfLine_28 (by decide) (fun h28 => ?_) (fun h28 => ?_)
      · refine r_aload_n K 0 rfl rfl dX5_wordOfLine_33 ?_
        refine r_ldcS K 3 (by decide) rfl dX5_wordOfLine_34 ?_
        refine r_callVp K 63 (As := [.ref (g.aK 3)]) mv_X5_tokenIs ml_RX5_72 (c_tokenIs hXo hX (i := 3) g5 g6 (tk_te X p) (teS_le hp) (by decide)) (by decide) rfl rfl rfl rfl (Nat.le_of_ble_eq_true rfl) ⟨by decide, by decide⟩ dX5_wordOfLine_36 ?_
        refine b_if_eq K 44 dX5_wordOfLine_39 (by decide) (fun h39 => ?_) (fun h39 => ?_)
        · refine r_aload_n K 0 rfl rfl dX5_wordOfLine_44 ?_
          refine r_ldcS K 4 (by decide) rfl dX5_wordOfLine_45 ?_
          refine r_callVp K 63 (As := [.ref (g.aK 4)]) mv_X5_tokenIs ml_RX5_72 (c_tokenIs hXo hX (i := 4) g5 g6 (tk_te X p) (teS_le hp) (by decide)) (by decide) rfl rfl rfl rfl (Nat.le_of_ble_eq_true rfl) ⟨by decide, by decide⟩ dX5_wordOfLine_47 ?_
          refine b_if_eq K 55 dX5_wordOfLine_50 (by decide) (fun h50 => ?_) (fun h50 => ?_)
          · refine r_aload_n K 0 rfl rfl dX5_wordOfLine_55 ?_
            refine r_ldcS K 5 (by decide) rfl dX5_wordOfLine_56 ?_
            refine r_callVp K 63 (As := [.ref (g.aK 5)]) mv_X5_tokenIs ml_RX5_72 (c_tokenIs hXo hX (i := 5) g5 g6 (tk_te X p) (teS_le hp) (by decide)) (by decide) rfl rfl rfl rfl (Nat.le_of_ble_eq_true rfl) ⟨by decide, by decide⟩ dX5_wordOfLine_58 ?_
            refine b_if_eq K 66 dX5_wordOfLine_61 (by decide) (fun h61 => ?_) (fun h61 => ?_)
            · refine r_aload_n K 0 rfl rfl dX5_wordOfLine_66 ?_
              refine r_ldcS K 6 (by decide) rfl dX5_wordOfLine_67 ?_
              refine r_callVp K 63 (As := [.ref (g.aK 6)]) mv_X5_tokenIs ml_RX5_72 (c_tokenIs hXo hX (i := 6) g5 g6 (tk_te X p) (teS_le hp) (by decide)) (by decide) rfl rfl rfl rfl (Nat.le_of_ble_eq_true rfl) ⟨by decide, by decide⟩ dX5_wordOfLine_69 ?_
              refine b_if_eq K 78 dX5_wordOfLine_72 (by decide) (fun h72 => ?_) (fun h72 => ?_)
              · refine r_aload_n K 0 rfl rfl dX5_wordOfLine_78 ?_
                refine r_ldcS K 7 (by decide) rfl dX5_wordOfLine_79 ?_
                refine r_callVp K 63 (As := [.ref (g.aK 7)]) mv_X5_tokenIs ml_RX5_72 (c_tokenIs hXo hX (i := 7) g5 g6 (tk_te X p) (teS_le hp) (by decide)) (by decide) rfl rfl rfl rfl (Nat.le_of_ble_eq_true rfl) ⟨by decide, by decide⟩ dX5_wordOfLine_81 ?_
                refine b_if_eq K 92 dX5_wordOfLine_84 (by decide) (fun h84 => ?_) (fun h84 => ?_)
                · refine r_iconst K ((-1)) (by decide) dX5_wordOfLine_92 ?_
                  exact r_iret K hr (⟨by simp only [wI, wordS]; simp [*], rfl, rfl⟩) dX5_wordOfLine_93
                · refine r_bipush K ((nI (7))) (by decide) dX5_wordOfLine_87 ?_
                  refine r_goto K 93 dX5_wordOfLine_89 (by decide) ?_
                  exact r_iret K hr (⟨by simp only [wI, wordS]; simp [*], rfl, rfl⟩) dX5_wordOfLine_93
              · refine r_bipush K ((nI (6))) (by decide) dX5_wordOfLine_75 ?_
                exact r_iret K hr (⟨by simp only [wI, wordS]; simp [*], rfl, rfl⟩) dX5_wordOfLine_77
            · refine r_iconst K ((nI (5))) (by decide) dX5_wordOfLine_64 ?_
              exact r_iret K hr (⟨by simp only [wI, wordS]; simp [*], rfl, rfl⟩) dX5_wordOfLine_65
          · refine r_iconst K ((nI (4))) (by decide) dX5_wordOfLine_53 ?_
            exact r_iret K hr (⟨by simp only [wI, wordS]; simp [*], rfl, rfl⟩) dX5_wordOfLine_54
        · refine r_iconst K ((nI (3))) (by decide) dX5_wordOfLine_42 ?_
          exact r_iret K hr (⟨by simp only [wI, wordS]; simp [*], rfl, rfl⟩) dX5_wordOfLine_43
      · refine r_iconst K ((nI (2))) (by decide) dX5_wordOfLine_31 ?_
        exact r_iret K hr (⟨by simp only [wI, wordS]; simp [*], rfl, rfl⟩) dX5_wordOfLine_32
    · refine r_iconst K ((nI (1))) (by decide) dX5_wordOfLine_20 ?_
      exact r_iret K hr (⟨by simp only [wI, wordS]; simp [*], rfl, rfl⟩) dX5_wordOfLine_21
  · refine r_iconst K ((nI (0))) (by decide) dX5_wordOfLine_9 ?_
    exact r_iret K hr (⟨by simp only [wI, wordS]; simp [*], rfl, rfl⟩) dX5_wordOfLine_10

set_option maxHeartbeats 400000 in
set_option maxRecDepth 10000 in
theorem c_kiteOfToken {g : Gp} {lau : Launch} {ad : Nat → Nat} {σ : Sg} {X : Tv} (hXo : XOk X) (hX : RepX 2 10 X σ) {p : Nat} (hp : p ≤ X 0 0) (g5 : σ.I 5 = nI (tkS X p)) (g6 : σ.I 6 = nI (teS X p)) : Con g lau yX5_kiteOfToken cX5_kiteOfToken 1 (Option.some .int) 5 107 [.ref (ad 63)] ad σ (pu (.int (kI (kiteS X p))) ad σ) := by
  refine con_mk (by decide) (Nat.le_of_ble_eq_true rfl) (fun x hxl K hr => ?_)
  subst hxl
  refine r_lv (lv' := [(0, .ref (ad 63))]) rfl ?_
  refine r_aload_n K 0 rfl rfl dX5_kiteOfToken_0 ?_
  refine r_ldcS K 8 (by decide) rfl dX5_kiteOfToken_1 ?_
  refine r_callVp K 63 (As := [.ref (g.aK 8)]) mv_X5_tokenIs ml_RX5_72 (c_tokenIs hXo hX (i := 8) g5 g6 (tk_te X p) (teS_le hp) (by decide)) (by decide) rfl rfl rfl rfl (Nat.le_of_ble_eq_true rfl) ⟨by decide, by decide⟩ dX5_kiteOfToken_3 ?_
  refine b_if_eq K 11 dX5_kiteOfToken_6 (by decide) (fun h6 => ?_) (fun h6 => ?_)
  · refine r_aload_n K 0 rfl rfl dX5_kiteOfToken_11 ?_
    refine r_ldcS K 9 (by decide) rfl dX5_kiteOfToken_12 ?_
    refine r_callVp K 63 (As := [.ref (g.aK 9)]) mv_X5_tokenIs ml_RX5_72 (c_tokenIs hXo hX (i := 9) g5 g6 (tk_te X p) (teS_le hp) (by decide)) (by decide) rfl rfl rfl rfl (Nat.le_of_ble_eq_true rfl) ⟨by decide, by decide⟩ dX5_kiteOfToken_14 ?_
    refine b_if_eq K 22 dX5_kiteOfToken_17 (by decide) (fun h17 => ?_) (fun h17 => ?_)
    · refine r_aload_n K 0 rfl rfl dX5_kiteOfToken_22 ?_
      refine r_ldcS K 10 (by decide) rfl dX5_kiteOfToken_23 ?_
      refine r_callVp K 63 (As := [.ref (g.aK 10)]) mv_X5_tokenIs ml_RX5_72 (c_tokenIs hXo hX (i := 10) g5 g6 (tk_te X p) (teS_le hp) (by decide)) (by decide) rfl rfl rfl rfl (Nat.le_of_ble_eq_true rfl) ⟨by decide, by decide⟩ dX5_kiteOfToken_25 ?_
      refine b_if_eq K 33 dX5_kiteOfToken_28 (by decide) (fun h28 => ?_) (fun h28 => ?_)
      · refine r_aload_n K 0 rfl rfl dX5_kiteOfToken_33 ?_
        refine r_ldcS K 11 (by decide) rfl dX5_kiteOfToken_34 ?_
        refine r_callVp K 63 (As := [.ref (g.aK 11)]) mv_X5_tokenIs ml_RX5_72 (c_tokenIs hXo hX (i := 11) g5 g6 (tk_te X p) (teS_le hp) (by decide)) (by decide) rfl rfl rfl rfl (Nat.le_of_ble_eq_true rfl) ⟨by decide, by decide⟩ dX5_kiteOfToken_36 ?_
        refine b_if_eq K 44 dX5_kiteOfToken_39 (by decide) (fun h39 => ?_) (fun h39 => ?_)
        · refine r_aload_n K 0 rfl rfl dX5_kiteOfToken_44 ?_
          refine r_ldcS K 12 (by decide) rfl dX5_kiteOfToken_45 ?_
          refine r_callVp K 63 (As := [.ref (g.aK 12)]) mv_X5_tokenIs ml_RX5_72 (c_tokenIs hXo hX (i := 12) g5 g6 (tk_te X p) (teS_le hp) (by decide)) (by decide) rfl rfl rfl rfl (Nat.le_of_ble_eq_true rfl) ⟨by decide, by decide⟩ dX5_kiteOfToken_47 ?_
          refine b_if_eq K 57 dX5_kiteOfToken_50 (by decide) (fun h50 => ?_) (fun h50 => ?_)
          · refine r_iconst K ((-1)) (by decide) dX5_kiteOfToken_57 ?_
            exact r_iret K hr (⟨by simp only [kI, kiteS]; simp [*], rfl, rfl⟩) dX5_kiteOfToken_58
          · refine r_iconst K ((nI (4))) (by decide) dX5_kiteOfToken_53 ?_
            refine r_goto K 58 dX5_kiteOfToken_54 (by decide) ?_
            exact r_iret K hr (⟨by simp only [kI, kiteS]; simp [*], rfl, rfl⟩) dX5_kiteOfToken_58
        · refine r_iconst K ((nI (3))) (by decide) dX5_kiteOfToken_42 ?_
          exact r_iret K hr (⟨by simp only [kI, kiteS]; simp [*], rfl, rfl⟩) dX5_kiteOfToken_43
      · refine r_iconst K ((nI (2))) (by decide) dX5_kiteOfToken_31 ?_
        exact r_iret K hr (⟨by simp only [kI, kiteS]; simp [*], rfl, rfl⟩) dX5_kiteOfToken_32
    · refine r_iconst K ((nI (1))) (by decide) dX5_kiteOfToken_20 ?_
      exact r_iret K hr (⟨by simp only [kI, kiteS]; simp [*], rfl, rfl⟩) dX5_kiteOfToken_21
  · refine r_iconst K ((nI (0))) (by decide) dX5_kiteOfToken_9 ?_
    exact r_iret K hr (⟨by simp only [kI, kiteS]; simp [*], rfl, rfl⟩) dX5_kiteOfToken_10

set_option maxHeartbeats 400000 in
set_option maxRecDepth 10000 in
theorem c_addNumber {g : Gp} {lau : Launch} {ad : Nat → Nat} {σ : Sg} {f : Nat} (hf : f < 5) (h8 : σ.I 8 = nI f) (v : Int32) : Con g lau yX5_addNumber cX5_addNumber 2 (Option.some .boolean) 0 0 [.ref (ad 63), .int (v)] ad σ (ex (some (.int (bI true))) ad ((σ.sI 8 (nI (f + 1))).sA 11 (upd (σ.A 11) f v))) := by
  refine con_mk (by decide) (Nat.le_of_ble_eq_true rfl) (fun x hxl K hr => ?_)
  subst hxl
  refine r_lv (lv' := [(0, .ref (ad 63)), (1, .int (v))]) rfl ?_
  refine r_aload_n K 0 rfl rfl dX5_addNumber_0 ?_
  refine get_63_7 K fl_RX5_34 dX5_addNumber_1 ?_
  refine r_topi (b := (nI (f))) (h8) ?_
  refine r_iconst K ((nI (5))) (by decide) dX5_addNumber_4 ?_
  refine n_icmp_lt K 10 (by omega) (by omega) dX5_addNumber_5 (by decide) (fun h5 => ?_) (fun h5 => absurd h5 (by omega))
  refine r_aload_n K 0 rfl rfl dX5_addNumber_10 ?_
  refine get_63_8 K fl_RX5_37 dX5_addNumber_11 ?_
  refine r_aload_n K 0 rfl rfl dX5_addNumber_14 ?_
  refine r_dup K rfl dX5_addNumber_15 ?_
  refine get_63_7 K fl_RX5_34 dX5_addNumber_16 ?_
  refine r_topi (b := (nI (f))) (h8) ?_
  refine r_dup_x1 K rfl rfl dX5_addNumber_19 ?_
  refine r_iconst K ((nI (1))) (by decide) dX5_addNumber_20 ?_
  refine r_iadd K dX5_addNumber_21 ?_
  refine r_topi (nI_add _ _) ?_
  refine put_63_7 K fl_RX5_34 dX5_addNumber_22 ?_
  refine r_iload_n K 1 rfl rfl dX5_addNumber_25 ?_
  refine r_iast K 11 (n := 5) (by decide) rfl rfl (by decide) (by omega) dX5_addNumber_26 ?_
  refine r_w (σ2 := ((σ).sI 8 ((nI (f + 1)))).sA 11 (upd ((σ).A 11) (f) ((v)))) rfl ?_
  refine r_iconst K ((nI (1))) (by decide) dX5_addNumber_27 ?_
  exact r_zret K (b := true) hr (⟨rfl, rfl, rfl⟩) dX5_addNumber_28

