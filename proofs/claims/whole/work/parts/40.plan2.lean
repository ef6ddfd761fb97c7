theorem max_sub {l c : Nat} (hl : l < 2 ^ 30) (hc : c < 2 ^ 30) : (if nI 0 < nI l - nI c then nI l - nI c else nI 0) = nI (l - c) := by
  have h1 := pk_sub_toInt hl hc
  by_cases h : c ≤ l
  · rw [pk_sub h] at h1 ⊢
    split
    · rfl
    · rename_i h2
      rw [Int32.lt_iff_toInt_lt, h1, nI_toInt (by decide)] at h2
      rw [show l - c = 0 by omega]
  · have h2 : ¬ nI 0 < nI l - nI c := by rw [Int32.lt_iff_toInt_lt, h1, nI_toInt (by decide)]; omega
    rw [if_neg h2, show l - c = 0 by omega]
theorem abs_off {l t : Nat} (hl : l < 2 ^ 30) (ht : t < 2 ^ 30) : (if 0 ≤ nI t - nI l then nI t - nI l else 0 - (nI t - nI l)) = nI (offS l t) := by
  have h1 := pk_sub_toInt ht hl
  unfold offS
  by_cases h : t < l
  · have h2 : ¬ 0 ≤ nI t - nI l := by
      rw [Int32.le_iff_toInt_le, h1, show (0 : Int32).toInt = 0 from rfl]; omega
    rw [if_neg h2, if_pos h, ← pk_sub (Nat.le_of_lt h)]
    simp
  · rw [if_neg h, pk_sub (by omega)] at *
    have h2 : 0 ≤ nI (t - l) := by
      rw [Int32.le_iff_toInt_le, nI_toInt (by omega), show (0 : Int32).toInt = 0 from rfl]; omega
    rw [if_pos h2]
theorem DS_none {T : Tv} {b : Nat} {kn : Nat → Nat → Nat → Bool} {h0 k i : Nat} (hE : ∀ r e, ¬ CS T b kn h0 k i r e) (s r e : Nat) : DS T b kn h0 k i 0 s r e ↔ DS T b kn h0 k (i + 1) 0 s r e :=
  DS_same (fun m c _ _ hc => by
    have : c ≠ i := fun z => by obtain ⟨r, e, h⟩ := hc; rw [z] at h; exact hE r e h
    omega) s r e
theorem DS_begin {T : Tv} {b : Nat} {kn : Nat → Nat → Nat → Bool} {h0 k i : Nat} (s r e : Nat) : DS T b kn h0 k i 0 s r e ↔ DS T b kn h0 k i (i % 6 - cordS T b) s r e :=
  DS_same (fun m c hm ho _ => by
    unfold offS at ho
    by_cases q : c = i
    · subst q; split at ho <;> omega
    · omega) s r e
theorem DS_done {T : Tv} {b : Nat} {kn : Nat → Nat → Nat → Bool} {h0 k i t : Nat} (ht : min 5 (i % 6 + cordS T b) < t) (s r e : Nat) : DS T b kn h0 k i t s r e ↔ DS T b kn h0 k (i + 1) 0 s r e :=
  DS_same (fun m c hm ho _ => by
    unfold offS at ho
    by_cases q : c = i
    · subst q; split at ho <;> omega
    · omega) s r e
theorem DS_stay {T : Tv} {b : Nat} {kn : Nat → Nat → Nat → Bool} {h0 k i t s : Nat} (h : kn (h0 + k) (goS T b (i / 6) t (h0 + k)) t = true ∨ s ≠ goS T b (i / 6) t (h0 + k) * 6 + t) (r e : Nat) : DS T b kn h0 k i t s r e ↔ DS T b kn h0 k i (t + 1) s r e := by
  constructor
  · exact fun z => DS_wide z (fun m c _ _ h3 _ => by omega)
  · rintro ⟨ms, m, h1, h2, h3, h4, h5, h6, h7⟩
    refine ⟨ms, m, h1, h2, h3, h4, h5, h6, ?_⟩
    by_cases q : 6 * endP T b h0 (startS T) ms + lastL 0 ms = i ∧ m = t
    · exfalso
      obtain ⟨q1, rfl⟩ := q
      have a4 := lastL_lt h1 (by decide : 0 < 6)
      have e1 : endP T b h0 (startS T) ms = i / 6 := by omega
      rw [e1] at h3 h4
      rcases h with h | h
      · have := h3.2.2.2.2
        rw [h] at this
        cases this
      · omega
    · omega
theorem DS_step {T : Tv} {b : Nat} {kn : Nat → Nat → Nat → Bool} {h0 k i t s r0 e0 : Nat} (hC : CS T b kn h0 k i r0 e0) (hmin : ∀ r' e', CS T b kn h0 k i r' e' → r0 < r' ∨ (r0 = r' ∧ e0 ≤ e')) (hh : h0 + k < 24) (hi : i / 6 ≠ 160) (ht : t < 6) (ho : offS (i % 6) t ≤ cordS T b) (hk : kn (h0 + k) (goS T b (i / 6) t (h0 + k)) t = false) (hs : s = goS T b (i / 6) t (h0 + k) * 6 + t) : DS T b kn h0 k i (t + 1) s (r0 + offS (i % 6) t) (e0 * 6 + t) ∧ ∀ r' e', DS T b kn h0 k i (t + 1) s r' e' → DS T b kn h0 k i t s r' e' ∨ r0 + offS (i % 6) t < r' ∨ (r0 + offS (i % 6) t = r' ∧ e0 * 6 + t ≤ e') := by
  constructor
  · obtain ⟨ms, h1, h2, h3, h4, h5⟩ := hC
    have a4 := lastL_lt h1 (by decide : 0 < 6)
    have e1 : endP T b h0 (startS T) ms = i / 6 := by omega
    have e2 : lastL 0 ms = i % 6 := by omega
    exact ⟨ms, t, h1, h2, by rw [e1, e2]; exact ⟨hh, hi, ht, ho, hk⟩, by rw [e1]; omega, by rw [e2, h4], by omega, Or.inr ⟨h3.symm, by omega⟩⟩
  · rintro r' e' ⟨ms, m, h1, h2, h3, h4, h5, h6, h7⟩
    have a4 := lastL_lt h1 (by decide : 0 < 6)
    by_cases q : 6 * endP T b h0 (startS T) ms + lastL 0 ms = i ∧ m = t
    · obtain ⟨q1, rfl⟩ := q
      have := hmin _ _ ⟨ms, h1, h2, q1.symm, rfl, rfl⟩
      have e2 : lastL 0 ms = i % 6 := by omega
      rw [e2] at h5
      omega
    · exact Or.inl ⟨ms, m, h1, h2, h3, h4, h5, h6, by omega⟩
theorem DS_lt {T : Tv} (hT : TOk T) {b : Nat} {kn : Nat → Nat → Nat → Bool} {h0 k i t s r e : Nat} (hh : h0 ≤ 24) (h : DS T b kn h0 k i t s r e) : r < 2 ^ 31 ∧ e < 2 ^ 63 := by
  have := CS_lt hT hh (DS_C h)
  omega
theorem DS_full {T : Tv} (hT : TOk T) {b : Nat} {kn : Nat → Nat → Nat → Bool} {h0 k i : Nat} (hi : min (T 10 0) (k + 1) * 20 * 6 ≤ i) (s r e : Nat) : DS T b kn h0 k i 0 s r e ↔ CS T b kn h0 (k + 1) s r e := by
  refine ⟨DS_C, C_DS (fun ms h1 h2 h3 => ?_)⟩
  have a4 := lastL_lt h1 (by decide : 0 < 6)
  have a6 := endP_valid hT (b := b) (ms := ms) (h := h0) (validP_start hT)
  have a7 := endP_near hT (validP_start hT) h1 h3
  have a8 : startS T / 20 = 0 := by
    unfold startS at h1 h3 ⊢
    by_cases q : T 10 0 = 0
    · rw [if_pos q] at h1 h3
      rw [okP_there h1] at h3
      exact absurd rfl h3
    · rw [if_neg q]
  rcases a6 with a6 | ⟨a6, -⟩
  · exact absurd a6 h3
  · generalize endP T b h0 (startS T) ms = z at *
    omega
theorem DS_0 {T : Tv} {b : Nat} {kn : Nat → Nat → Nat → Bool} {h0 k s r e : Nat} : ¬ DS T b kn h0 k 0 0 s r e := by
  rintro ⟨ms, m, -, -, -, -, -, -, h⟩
  omega
theorem slotR_eq {o : Option (List Nat)} {n : Nat} {σ s : Sg} (h : slotR o n σ) (h1 : s.A 28 n = σ.A 28 n) (h2 : s.A 29 n = σ.A 29 n) (h3 : s.J 30 n = σ.J 30 n) : slotR o n s := by
  cases o with
  | none => exact h1.trans h
  | some ms => exact ⟨h1.trans h.1, h2.trans h.2.1, h3.trans h.2.2⟩
theorem LineR_same {q1 q2 : Nat} {kn : Nat → Nat → Nat → Bool} {As Is Js : List Nat} {tk : Bool} {σ s : Sg} (h : LineR q1 q2 kn σ) (hs : same As Is Js tk σ s) (h1 : q1 ∉ As) (h2 : q2 ∉ As) : LineR q1 q2 kn s := by
  intro z hz
  rw [hs.1 q1 h1, hs.1 q2 h2]
  exact h z hz
set_option maxHeartbeats 1000000 in
set_option maxRecDepth 10000 in
theorem c_spread_67 {g : Gp} {lau : Launch} {ad : Nat → Nat} {σ : Sg} {T : Tv} (hT : TOk T) (hR : RepC T σ) {b : Nat} {kn : Nat → Nat → Nat → Bool} {h0 k : Nat} (hb : b < 4) (hh : h0 + k < 24) (hL : LineR 31 32 kn σ) (hc : ∀ s, s < 966 → cl (σ.A 35) (σ.J 36) s (CS T b kn h0 k s)) : Con g lau yX3_spread cX3_spread 12 (Option.none : Option Jvm.ClassFile.FieldType) 3 75 [.ref (ad 69), .int (nI (b)), .int (nI (h0 + k)), .int (nI (k)), .ref (ad 67)] ad σ (fun r a2 s2 => none = r ∧ adE ad a2 ∧ same [35, 36, 37, 38] [] [35, 36, 37, 38] false σ s2 ∧ ∀ s, s < 966 → cl (s2.A 35) (s2.J 36) s (CS T b kn h0 (k + 1) s)) := by
  refine con_mk (by decide) (Nat.le_of_ble_eq_true rfl) (fun x hxl K hr => ?_)
  subst hxl
  refine r_lv (lv' := [(0, .ref (ad 69)), (1, .int (nI (b))), (2, .int (nI (h0 + k))), (3, .int (nI (k))), (4, .ref (ad 67))]) rfl ?_
  have hn8 := hT.2.1
  obtain ⟨lp, ll, hlp, hll, hlp2, hll2, hkn⟩ := hL (h0 + k) hh
  refine r_aload_n K 0 rfl rfl dX3_spread_0 ?_
  refine get_69_8 K fl_RX3_38 dX3_spread_1 ?_
  refine r_iconst K ((-1)) (by decide) dX3_spread_4 ?_
  refine r_callS K (As := [.ref (ad 37), .int (-1)]) (rest := []) ms_J7_fill_53178 ml_RX3_48 (c_fillI 37 (n := 966) (by decide) rfl rfl (by decide) ((-1))) rfl rfl (Nat.le_of_ble_eq_true rfl) ⟨by decide, by decide⟩ dX3_spread_5 (fun r_ ad_ s_ h_ => ?_)
  obtain ⟨rfl, rfl, rfl⟩ := h_
  refine r_st (st' := []) rfl ?_
  refine r_aload_n K 0 rfl rfl dX3_spread_8 ?_
  refine get_69_1 K fl_RX3_44 dX3_spread_9 ?_
  refine r_iload_n K 1 rfl rfl dX3_spread_12 ?_
  refine r_callVp K 62 (As := [.int (nI (b))]) mv_X4_cordOf ml_RX3_96 (c_cordOf hT (hR.same (same_sA (same_rf [37] [] [] false σ) (by simp) _) (by intro k hk; simp; omega) (by simp)) (b := b) (by omega)) (by decide) rfl rfl rfl rfl (Nat.le_of_ble_eq_true rfl) ⟨by decide, by decide⟩ dX3_spread_13 ?_
  have hcd := cordS_le hT b
  refine r_istore K (lv' := [(5, .int (nI (cordS T b))), (0, .ref (ad 69)), (1, .int (nI (b))), (2, .int (nI (h0 + k))), (3, .int (nI (k))), (4, .ref (ad 67))]) (by decide) rfl dX3_spread_16 ?_
  refine r_aload_n K 0 rfl rfl dX3_spread_18 ?_
  refine get_69_1 K fl_RX3_44 dX3_spread_19 ?_
  refine get_62_0 K fl_RX3_100 dX3_spread_22 ?_
  refine r_topi (b := σ.I 0) rfl ?_
  refine r_topi (b := (nI (T 10 0))) (hR.1) ?_
  refine r_iload_n K 3 rfl rfl dX3_spread_25 ?_
  refine r_iconst K ((nI (1))) (by decide) dX3_spread_26 ?_
  refine r_iadd K dX3_spread_27 ?_
  refine r_topi (nI_add _ _) ?_
  refine r_mmin K ml_RX3_66 (by decide) (Nat.le_of_ble_eq_true rfl) dX3_spread_28 ?_
  refine r_topi (b := (nI (min (T 10 0) (k + 1)))) (nI_min (by omega) (by omega)) ?_
  refine r_bipush K ((nI (20))) (by decide) dX3_spread_31 ?_
  refine r_imul K dX3_spread_33 ?_
  refine r_topi (pk_mul _ _) ?_
  refine r_bipush K ((nI (6))) (by decide) dX3_spread_34 ?_
  refine r_imul K dX3_spread_36 ?_
  refine r_topi (pk_mul _ _) ?_
  refine r_istore K (lv' := [(6, .int (nI (((min (T 10 0) (k + 1)) * 20) * 6))), (5, .int (nI (cordS T b))), (0, .ref (ad 69)), (1, .int (nI (b))), (2, .int (nI (h0 + k))), (3, .int (nI (k))), (4, .ref (ad 67))]) (by decide) rfl dX3_spread_37 ?_
  refine r_iconst K ((nI (0))) (by decide) dX3_spread_39 ?_
  refine r_istore K (lv' := [(7, .int (nI (0))), (6, .int (nI (((min (T 10 0) (k + 1)) * 20) * 6))), (5, .int (nI (cordS T b))), (0, .ref (ad 69)), (1, .int (nI (b))), (2, .int (nI (h0 + k))), (3, .int (nI (k))), (4, .ref (ad 67))]) (by decide) rfl dX3_spread_40 ?_
  refine r_pick [3, 4, 5, 6, 7, 2, 1, 0] (lv' := [(0, .ref (ad 69)), (1, .int (nI (b))), (2, .int (nI (h0 + k))), (3, .int (nI (k))), (4, .ref (ad 67)), (5, .int (nI (cordS T b))), (6, .int (nI (((min (T 10 0) (k + 1)) * 20) * 6))), (7, .int (nI (0)))]) rfl ?_
  have lpA : ∀ (mm_ : Nat) (i : Nat) (s1 : Sg), mm_ = min (T 10 0) (k + 1) * 20 * 6 - i → (i ≤ min (T 10 0) (k + 1) * 20 * 6) → (same [37] [] [38] false σ s1) → (∀ s, s < 966 → cl (s1.A 37) (s1.J 38) s (DS T b kn h0 k i 0 s)) → GJ g x 12 42 [(0, .ref (ad 69)), (1, .int (nI (b))), (2, .int (nI (h0 + k))), (3, .int (nI (k))), (4, .ref (ad 67)), (5, .int (nI (cordS T b))), (6, .int (nI (min (T 10 0) (k + 1) * 20 * 6))), (7, .int (nI (i)))] [] ad (s1) := by
    intro mm_
    induction mm_ using Nat.strongRecOn with
    | _ mm_ ihA =>
      intro i s1 hmA hi hs1 hd1
      refine r_iload K rfl dX3_spread_42 ?_
      refine r_iload K rfl dX3_spread_44 ?_
      refine n_icmp_ge K 196 (by omega) (by omega) dX3_spread_46 (by decide) (fun h46 => ?_) (fun h46 => ?_)
      · refine r_aload_n K 0 rfl rfl dX3_spread_196 ?_
        refine r_callV K 69 (As := []) (rest := []) mv_X3_swap ml_RX3_118 (c_X3_swap) (by decide) rfl rfl rfl rfl (Nat.le_of_ble_eq_true rfl) ⟨by decide, by decide⟩ dX3_spread_197 (fun r_w ad_w s_w h_w => ?_)
        obtain ⟨rfl, rfl, rfl⟩ := h_w
        refine r_st (st' := []) rfl ?_
        exact r_vret K hr (⟨rfl, adE_sw ad, same_sw (same_w hs1 (by simp) (by simp) (by simp) id) (by simp) (by simp) (by simp) (by simp), fun s hs => cl_iff (cl_eq (A := s1.A 37) (J := s1.J 38) (hd1 s hs) rfl rfl) (DS_full hT (by omega) s)⟩) dX3_spread_200
      · have hci : cl (s1.A 35) (s1.J 36) i (CS T b kn h0 k i) := by rw [hs1.1 35 (by simp), hs1.2.2.1 36 (by simp)]; exact hc i (by omega)
        rcases hci with ⟨hA, hE⟩ | ⟨r0, e0, hp0, hA, hJ, hmin⟩
        · skip
          refine r_aload_n K 0 rfl rfl dX3_spread_49 ?_
          refine get_69_6 K fl_RX3_32 dX3_spread_50 ?_
          refine r_iload K rfl dX3_spread_53 ?_
          refine r_iald K 35 (n := 966) (by decide) rfl rfl (by decide) (by omega) dX3_spread_55 ?_
          refine r_topi (b := (-1)) (hA) ?_
          refine r_iconst K ((-1)) (by decide) dX3_spread_56 ?_
          refine r_icmp_ne K 63 dX3_spread_57 (by decide) (fun z => absurd z (by decide)) (fun _ => ?_)
          refine r_goto K 190 dX3_spread_60 (by decide) ?_
          refine r_iinc K ((nI (i + 1))) rfl (nI_1 _) (lv' := [(7, .int (nI (i + 1))), (0, .ref (ad 69)), (1, .int (nI (b))), (2, .int (nI (h0 + k))), (3, .int (nI (k))), (4, .ref (ad 67)), (5, .int (nI (cordS T b))), (6, .int (nI (min (T 10 0) (k + 1) * 20 * 6)))]) (by decide) rfl dX3_spread_190 ?_
          refine r_goto K 42 dX3_spread_193 (by decide) ?_
          refine r_pick [1, 2, 3, 4, 5, 6, 7, 0] (lv' := [(0, .ref (ad 69)), (1, .int (nI (b))), (2, .int (nI (h0 + k))), (3, .int (nI (k))), (4, .ref (ad 67)), (5, .int (nI (cordS T b))), (6, .int (nI (min (T 10 0) (k + 1) * 20 * 6))), (7, .int (nI (i + 1)))]) rfl ?_
          exact ihA _ (by omega) (i + 1) (s1) rfl (by omega) (hs1) (fun s hs => cl_iff (hd1 s hs) (DS_none hE s))
        · have hb0 := CS_lt hT (by omega) hp0
          refine r_aload_n K 0 rfl rfl dX3_spread_49 ?_
          refine get_69_6 K fl_RX3_32 dX3_spread_50 ?_
          refine r_iload K rfl dX3_spread_53 ?_
          refine r_iald K 35 (n := 966) (by decide) rfl rfl (by decide) (by omega) dX3_spread_55 ?_
          refine r_topi (b := (nI (r0))) (hA) ?_
          refine r_iconst K ((-1)) (by decide) dX3_spread_56 ?_
          refine r_icmp_ne K 63 dX3_spread_57 (by decide) (fun h57 => ?_) (fun h57 => absurd h57 (fun z => nI_m1 (by omega) z))
          refine r_iload K rfl dX3_spread_63 ?_
          refine r_bipush K ((nI (6))) (by decide) dX3_spread_65 ?_
          refine r_irem K (nI_ne0 (by omega) (by omega)) dX3_spread_67 ?_
          refine r_topi (pk_rem (by omega) (by omega) (by omega)) ?_
          refine r_istore K (lv' := [(8, .int (nI (i % 6))), (0, .ref (ad 69)), (1, .int (nI (b))), (2, .int (nI (h0 + k))), (3, .int (nI (k))), (4, .ref (ad 67)), (5, .int (nI (cordS T b))), (6, .int (nI (min (T 10 0) (k + 1) * 20 * 6))), (7, .int (nI (i)))]) (by decide) rfl dX3_spread_68 ?_
          refine r_iconst K ((nI (5))) (by decide) dX3_spread_70 ?_
          refine r_iload K rfl dX3_spread_71 ?_
          refine r_iload K rfl dX3_spread_73 ?_
          refine r_iadd K dX3_spread_75 ?_
          refine r_topi (nI_add _ _) ?_
          refine r_mmin K ml_RX3_66 (by decide) (Nat.le_of_ble_eq_true rfl) dX3_spread_76 ?_
          refine r_topi (b := (nI (min 5 ((i % 6) + (cordS T b))))) (nI_min (by omega) (by omega)) ?_
          refine r_istore K (lv' := [(9, .int (nI (min 5 ((i % 6) + (cordS T b))))), (8, .int (nI (i % 6))), (0, .ref (ad 69)), (1, .int (nI (b))), (2, .int (nI (h0 + k))), (3, .int (nI (k))), (4, .ref (ad 67)), (5, .int (nI (cordS T b))), (6, .int (nI (min (T 10 0) (k + 1) * 20 * 6))), (7, .int (nI (i)))]) (by decide) rfl dX3_spread_79 ?_
          refine r_iconst K ((nI (0))) (by decide) dX3_spread_81 ?_
          refine r_iload K rfl dX3_spread_82 ?_
          refine r_iload K rfl dX3_spread_84 ?_
          refine r_isub K dX3_spread_86 ?_
          refine r_mmax K ml_RX3_104 (by decide) (Nat.le_of_ble_eq_true rfl) dX3_spread_87 ?_
          refine r_topi (b := (nI (i % 6 - cordS T b))) (max_sub (by omega) (by omega)) ?_
          refine r_istore K (lv' := [(10, .int (nI (i % 6 - cordS T b))), (9, .int (nI (min 5 ((i % 6) + (cordS T b))))), (8, .int (nI (i % 6))), (0, .ref (ad 69)), (1, .int (nI (b))), (2, .int (nI (h0 + k))), (3, .int (nI (k))), (4, .ref (ad 67)), (5, .int (nI (cordS T b))), (6, .int (nI (min (T 10 0) (k + 1) * 20 * 6))), (7, .int (nI (i)))]) (by decide) rfl dX3_spread_90 ?_
          refine r_pick [3, 4, 5, 6, 7, 8, 9, 10, 2, 1, 0] (lv' := [(0, .ref (ad 69)), (1, .int (nI (b))), (2, .int (nI (h0 + k))), (3, .int (nI (k))), (4, .ref (ad 67)), (5, .int (nI (cordS T b))), (6, .int (nI (min (T 10 0) (k + 1) * 20 * 6))), (7, .int (nI (i))), (8, .int (nI (i % 6))), (9, .int (nI (min 5 ((i % 6) + (cordS T b))))), (10, .int (nI (i % 6 - cordS T b)))]) rfl ?_
          have lpB : ∀ (mm_ : Nat) (t : Nat) (s2 : Sg), mm_ = min 5 (i % 6 + cordS T b) + 1 - t → (i % 6 - cordS T b ≤ t) → (t ≤ min 5 (i % 6 + cordS T b) + 1) → (same [37] [] [38] false σ s2) → (∀ s, s < 966 → cl (s2.A 37) (s2.J 38) s (DS T b kn h0 k i t s)) → GJ g x 12 92 [(0, .ref (ad 69)), (1, .int (nI (b))), (2, .int (nI (h0 + k))), (3, .int (nI (k))), (4, .ref (ad 67)), (5, .int (nI (cordS T b))), (6, .int (nI (min (T 10 0) (k + 1) * 20 * 6))), (7, .int (nI (i))), (8, .int (nI (i % 6))), (9, .int (nI (min 5 (i % 6 + cordS T b)))), (10, .int (nI (t)))] [] ad (s2) := by
            intro mm_
            induction mm_ using Nat.strongRecOn with
            | _ mm_ ihB =>
              intro t s2 hmB ht ht2 hs2 hd2
              refine r_iload K rfl dX3_spread_92 ?_
              refine r_iload K rfl dX3_spread_94 ?_
              refine n_icmp_gt K 190 (by omega) (by omega) dX3_spread_96 (by decide) (fun h96 => ?_) (fun h96 => ?_)
              · refine r_iinc K ((nI (i + 1))) rfl (nI_1 _) (lv' := [(7, .int (nI (i + 1))), (0, .ref (ad 69)), (1, .int (nI (b))), (2, .int (nI (h0 + k))), (3, .int (nI (k))), (4, .ref (ad 67)), (5, .int (nI (cordS T b))), (6, .int (nI (min (T 10 0) (k + 1) * 20 * 6))), (8, .int (nI (i % 6))), (9, .int (nI (min 5 (i % 6 + cordS T b)))), (10, .int (nI (t)))]) (by decide) rfl dX3_spread_190 ?_
                refine r_goto K 42 dX3_spread_193 (by decide) ?_
                refine r_pick [1, 2, 3, 4, 5, 6, 7, 0] (lv' := [(0, .ref (ad 69)), (1, .int (nI (b))), (2, .int (nI (h0 + k))), (3, .int (nI (k))), (4, .ref (ad 67)), (5, .int (nI (cordS T b))), (6, .int (nI (min (T 10 0) (k + 1) * 20 * 6))), (7, .int (nI (i + 1)))]) rfl ?_
                exact ihA _ (by omega) (i + 1) (s2) rfl (by omega) (hs2) (fun s hs => cl_iff (hd2 s hs) (DS_done (by omega) s))
              · refine r_aload_n K 0 rfl rfl dX3_spread_99 ?_
                refine get_69_1 K fl_RX3_44 dX3_spread_100 ?_
                refine r_iload_n K 1 rfl rfl dX3_spread_103 ?_
                refine r_iload K rfl dX3_spread_104 ?_
                refine r_bipush K ((nI (6))) (by decide) dX3_spread_106 ?_
                refine r_idiv K (nI_ne0 (by omega) (by omega)) dX3_spread_108 ?_
                refine r_topi (pk_div (by omega) (by omega) (by omega)) ?_
                refine r_iload K rfl dX3_spread_109 ?_
                refine r_iload_n K 2 rfl rfl dX3_spread_111 ?_
                refine r_callVp K 62 (As := [.int (nI (b)), .int (nI (i / 6)), .int (nI (t)), .int (nI (h0 + k))]) mv_X4_moved ml_RX3_85 (c_moved hT (hR.same hs2 (by intro k hk; simp; omega) (by simp)) (b := b) (p := i / 6) (l := t) (h := h0 + k) (by omega) (by omega) (by omega) (validP_or hb0.2.2.2.2.2.2.2)) (by decide) rfl rfl rfl rfl (Nat.le_of_ble_eq_true rfl) ⟨by decide, by decide⟩ dX3_spread_112 ?_
                have hgo := validP_le hT (validP_go hT hb0.2.2.2.2.2.2.2 b t (h0 + k))
                refine r_istore K (lv' := [(11, .int (nI (goS T b (i / 6) t (h0 + k)))), (0, .ref (ad 69)), (1, .int (nI (b))), (2, .int (nI (h0 + k))), (3, .int (nI (k))), (4, .ref (ad 67)), (5, .int (nI (cordS T b))), (6, .int (nI (min (T 10 0) (k + 1) * 20 * 6))), (7, .int (nI (i))), (8, .int (nI (i % 6))), (9, .int (nI (min 5 (i % 6 + cordS T b)))), (10, .int (nI (t)))]) (by decide) rfl dX3_spread_115 ?_
                refine r_iload K rfl dX3_spread_117 ?_
                refine r_iload K rfl dX3_spread_119 ?_
                refine r_aload K rfl dX3_spread_121 ?_
                refine get_67_0 K fl_RX3_71 dX3_spread_123 ?_
                refine r_iload_n K 2 rfl rfl dX3_spread_126 ?_
                refine r_iald K 31 (n := 24) (by decide) rfl rfl (by decide) (by omega) dX3_spread_127 ?_
                refine r_topi (b := (nI (lp))) (by rw [hs2.1 31 (by simp)]; exact hlp) ?_
                refine r_aload K rfl dX3_spread_128 ?_
                refine get_67_1 K fl_RX3_74 dX3_spread_130 ?_
                refine r_iload_n K 2 rfl rfl dX3_spread_133 ?_
                refine r_iald K 32 (n := 24) (by decide) rfl rfl (by decide) (by omega) dX3_spread_134 ?_
                refine r_topi (b := (nI (ll))) (by rw [hs2.1 32 (by simp)]; exact hll) ?_
                refine r_callSN K (As := [.int (nI (goS T b (i / 6) t (h0 + k))), .int (nI (t)), .int (nI (lp)), .int (nI (ll))]) ms_X6_isKnot K.2.2.2.2.2.1.2.2.2.2 (c_isKnot (p := goS T b (i / 6) t (h0 + k)) (l := t) (q := lp) (m := ll) hgo (by omega) hlp2 hll2) rfl rfl (Nat.le_of_ble_eq_true rfl) ⟨by decide, by decide⟩ dX3_spread_135 ?_
                refine b_if_ne K 184 dX3_spread_138 (by decide) (fun h138 => ?_) (fun h138 => ?_)
                · refine r_iinc K ((nI (t + 1))) rfl (nI_1 _) (lv' := [(10, .int (nI (t + 1))), (11, .int (nI (goS T b (i / 6) t (h0 + k)))), (0, .ref (ad 69)), (1, .int (nI (b))), (2, .int (nI (h0 + k))), (3, .int (nI (k))), (4, .ref (ad 67)), (5, .int (nI (cordS T b))), (6, .int (nI (min (T 10 0) (k + 1) * 20 * 6))), (7, .int (nI (i))), (8, .int (nI (i % 6))), (9, .int (nI (min 5 (i % 6 + cordS T b))))]) (by decide) rfl dX3_spread_184 ?_
                  refine r_goto K 92 dX3_spread_187 (by decide) ?_
                  refine r_pick [2, 3, 4, 5, 6, 7, 8, 9, 10, 11, 0] (lv' := [(0, .ref (ad 69)), (1, .int (nI (b))), (2, .int (nI (h0 + k))), (3, .int (nI (k))), (4, .ref (ad 67)), (5, .int (nI (cordS T b))), (6, .int (nI (min (T 10 0) (k + 1) * 20 * 6))), (7, .int (nI (i))), (8, .int (nI (i % 6))), (9, .int (nI (min 5 (i % 6 + cordS T b)))), (10, .int (nI (t + 1)))]) rfl ?_
                  exact ihB _ (by omega) (t + 1) (s2) rfl (by omega) (by omega) (hs2) (fun s hs => cl_iff (hd2 s hs) (DS_stay (Or.inl (by rw [← hkn]; exact h138))))
                · refine r_aload_n K 0 rfl rfl dX3_spread_141 ?_
                  refine r_iload K rfl dX3_spread_142 ?_
                  refine r_bipush K ((nI (6))) (by decide) dX3_spread_144 ?_
                  refine r_imul K dX3_spread_146 ?_
                  refine r_topi (pk_mul _ _) ?_
                  refine r_iload K rfl dX3_spread_147 ?_
                  refine r_iadd K dX3_spread_149 ?_
                  refine r_topi (nI_add _ _) ?_
                  refine r_aload_n K 0 rfl rfl dX3_spread_150 ?_
                  refine get_69_6 K fl_RX3_32 dX3_spread_151 ?_
                  refine r_iload K rfl dX3_spread_154 ?_
                  refine r_iald K 35 (n := 966) (by decide) rfl rfl (by decide) (by omega) dX3_spread_156 ?_
                  refine r_topi (b := (nI (r0))) (by rw [hs2.1 35 (by simp)]; rw [hs1.1 35 (by simp)] at hA; exact hA) ?_
                  refine r_iload K rfl dX3_spread_157 ?_
                  refine r_iload K rfl dX3_spread_159 ?_
                  refine r_isub K dX3_spread_161 ?_
                  refine r_mabs K ml_RX3_111 (by decide) (Nat.le_of_ble_eq_true rfl) dX3_spread_162 ?_
                  refine r_topi (b := (nI (offS (i % 6) t))) (abs_off (by omega) (by omega)) ?_
                  refine r_iadd K dX3_spread_165 ?_
                  refine r_topi (nI_add _ _) ?_
                  refine r_aload_n K 0 rfl rfl dX3_spread_166 ?_
                  refine get_69_7 K fl_RX3_35 dX3_spread_167 ?_
                  refine r_iload K rfl dX3_spread_170 ?_
                  refine r_lald K 36 (n := 966) (by decide) rfl rfl (by decide) (by omega) dX3_spread_172 ?_
                  refine r_topl (b := (lN (e0))) (by rw [hs2.2.2.1 36 (by simp)]; rw [hs1.2.2.1 36 (by simp)] at hJ; exact hJ) ?_
                  refine r_ldc2 K (v := (lN (6))) kl_RX3_77 dX3_spread_173 ?_
                  refine r_lmul K dX3_spread_176 ?_
                  refine r_topl (lN_mul _ _) ?_
                  refine r_iload K rfl dX3_spread_177 ?_
                  refine r_i2l K dX3_spread_179 ?_
                  refine r_topl (nI_l (by omega)) ?_
                  refine r_ladd K dX3_spread_180 ?_
                  refine r_topl (lN_add _ _) ?_
                  have hof : offS (i % 6) t ≤ cordS T b := by unfold offS; split <;> omega
                  have hst := DS_step hp0 hmin hh (by omega) (by omega) hof (by rw [← hkn]; exact h138) rfl
                  have hbb := DS_lt hT (by omega) hst.1
                  refine r_callV K 69 (As := [.int (nI (((goS T b (i / 6) t (h0 + k)) * 6) + t)), .int (nI (r0 + (offS (i % 6) t))), .long (lN ((e0 * 6) + t))]) (rest := []) mv_X3_offer ml_RX3_114 (c_offer (P := DS T b kn h0 k i t (goS T b (i / 6) t (h0 + k) * 6 + t)) (P' := DS T b kn h0 k i (t + 1) (goS T b (i / 6) t (h0 + k) * 6 + t)) (s := goS T b (i / 6) t (h0 + k) * 6 + t) (r := r0 + offS (i % 6) t) (e := e0 * 6 + t) (by omega) hbb.1 hbb.2 (fun r e z => DS_lt hT (by omega) z) (hd2 _ (by omega)) (fun r e z => DS_wide z (fun m c _ _ h3 _ => by omega)) hst.1 hst.2) (by decide) rfl rfl rfl rfl (Nat.le_of_ble_eq_true rfl) ⟨by decide, by decide⟩ dX3_spread_181 (fun r_o ad_o s_o h_o => ?_)
                  obtain ⟨rfl, rfl, ho⟩ := h_o
                  refine r_st (st' := []) rfl ?_
                  refine r_iinc K ((nI (t + 1))) rfl (nI_1 _) (lv' := [(10, .int (nI (t + 1))), (11, .int (nI (goS T b (i / 6) t (h0 + k)))), (0, .ref (ad 69)), (1, .int (nI (b))), (2, .int (nI (h0 + k))), (3, .int (nI (k))), (4, .ref (ad 67)), (5, .int (nI (cordS T b))), (6, .int (nI (min (T 10 0) (k + 1) * 20 * 6))), (7, .int (nI (i))), (8, .int (nI (i % 6))), (9, .int (nI (min 5 (i % 6 + cordS T b))))]) (by decide) rfl dX3_spread_184 ?_
                  refine r_goto K 92 dX3_spread_187 (by decide) ?_
                  refine r_pick [2, 3, 4, 5, 6, 7, 8, 9, 10, 11, 0] (lv' := [(0, .ref (ad 69)), (1, .int (nI (b))), (2, .int (nI (h0 + k))), (3, .int (nI (k))), (4, .ref (ad 67)), (5, .int (nI (cordS T b))), (6, .int (nI (min (T 10 0) (k + 1) * 20 * 6))), (7, .int (nI (i))), (8, .int (nI (i % 6))), (9, .int (nI (min 5 (i % 6 + cordS T b)))), (10, .int (nI (t + 1)))]) rfl ?_
                  exact ihB _ (by omega) (t + 1) (s_o) rfl (by omega) (by omega) (same_tr hs2 ho.1) (fun s hs => by by_cases e : s = goS T b (i / 6) t (h0 + k) * 6 + t; (subst e; exact ho.2.2); exact cl_iff (cl_eq (hd2 s hs) (ho.2.1 s e).1 (ho.2.1 s e).2) (DS_stay (Or.inr e)))
          exact lpB _ (_) (s1) rfl (Nat.le_refl _) (by omega) (hs1) (fun s hs => cl_iff (hd1 s hs) (DS_begin s))
  exact lpA _ (0) (_) rfl (Nat.zero_le _) (same_sA (same_rf _ _ _ _ _) (by simp) _) (fun s hs => Or.inl ⟨by rw [sA_at]; unfold fillA; rw [if_pos hs], fun r e => DS_0⟩)

set_option maxHeartbeats 1000000 in
set_option maxRecDepth 10000 in
theorem c_spread_68 {g : Gp} {lau : Launch} {ad : Nat → Nat} {σ : Sg} {T : Tv} (hT : TOk T) (hR : RepC T σ) {b : Nat} {kn : Nat → Nat → Nat → Bool} {h0 k : Nat} (hb : b < 4) (hh : h0 + k < 24) (hL : LineR 33 34 kn σ) (hc : ∀ s, s < 966 → cl (σ.A 35) (σ.J 36) s (CS T b kn h0 k s)) : Con g lau yX3_spread cX3_spread 12 (Option.none : Option Jvm.ClassFile.FieldType) 3 75 [.ref (ad 69), .int (nI (b)), .int (nI (h0 + k)), .int (nI (k)), .ref (ad 68)] ad σ (fun r a2 s2 => none = r ∧ adE ad a2 ∧ same [35, 36, 37, 38] [] [35, 36, 37, 38] false σ s2 ∧ ∀ s, s < 966 → cl (s2.A 35) (s2.J 36) s (CS T b kn h0 (k + 1) s)) := by
  refine con_mk (by decide) (Nat.le_of_ble_eq_true rfl) (fun x hxl K hr => ?_)
  subst hxl
  refine r_lv (lv' := [(0, .ref (ad 69)), (1, .int (nI (b))), (2, .int (nI (h0 + k))), (3, .int (nI (k))), (4, .ref (ad 68))]) rfl ?_
  have hn8 := hT.2.1
  obtain ⟨lp, ll, hlp, hll, hlp2, hll2, hkn⟩ := hL (h0 + k) hh
  refine r_aload_n K 0 rfl rfl dX3_spread_0 ?_
  refine get_69_8 K fl_RX3_38 dX3_spread_1 ?_
  refine r_iconst K ((-1)) (by decide) dX3_spread_4 ?_
  refine r_callS K (As := [.ref (ad 37), .int (-1)]) (rest := []) ms_J7_fill_53178 ml_RX3_48 (c_fillI 37 (n := 966) (by decide) rfl rfl (by decide) ((-1))) rfl rfl (Nat.le_of_ble_eq_true rfl) ⟨by decide, by decide⟩ dX3_spread_5 (fun r_ ad_ s_ h_ => ?_)
  obtain ⟨rfl, rfl, rfl⟩ := h_
  refine r_st (st' := []) rfl ?_
  refine r_aload_n K 0 rfl rfl dX3_spread_8 ?_
  refine get_69_1 K fl_RX3_44 dX3_spread_9 ?_
  refine r_iload_n K 1 rfl rfl dX3_spread_12 ?_
  refine r_callVp K 62 (As := [.int (nI (b))]) mv_X4_cordOf ml_RX3_96 (c_cordOf hT (hR.same (same_sA (same_rf [37] [] [] false σ) (by simp) _) (by intro k hk; simp; omega) (by simp)) (b := b) (by omega)) (by decide) rfl rfl rfl rfl (Nat.le_of_ble_eq_true rfl) ⟨by decide, by decide⟩ dX3_spread_13 ?_
  have hcd := cordS_le hT b
  refine r_istore K (lv' := [(5, .int (nI (cordS T b))), (0, .ref (ad 69)), (1, .int (nI (b))), (2, .int (nI (h0 + k))), (3, .int (nI (k))), (4, .ref (ad 68))]) (by decide) rfl dX3_spread_16 ?_
  refine r_aload_n K 0 rfl rfl dX3_spread_18 ?_
  refine get_69_1 K fl_RX3_44 dX3_spread_19 ?_
  refine get_62_0 K fl_RX3_100 dX3_spread_22 ?_
  refine r_topi (b := σ.I 0) rfl ?_
  refine r_topi (b := (nI (T 10 0))) (hR.1) ?_
  refine r_iload_n K 3 rfl rfl dX3_spread_25 ?_
  refine r_iconst K ((nI (1))) (by decide) dX3_spread_26 ?_
  refine r_iadd K dX3_spread_27 ?_
  refine r_topi (nI_add _ _) ?_
  refine r_mmin K ml_RX3_66 (by decide) (Nat.le_of_ble_eq_true rfl) dX3_spread_28 ?_
  refine r_topi (b := (nI (min (T 10 0) (k + 1)))) (nI_min (by omega) (by omega)) ?_
  refine r_bipush K ((nI (20))) (by decide) dX3_spread_31 ?_
  refine r_imul K dX3_spread_33 ?_
  refine r_topi (pk_mul _ _) ?_
  refine r_bipush K ((nI (6))) (by decide) dX3_spread_34 ?_
  refine r_imul K dX3_spread_36 ?_
  refine r_topi (pk_mul _ _) ?_
  refine r_istore K (lv' := [(6, .int (nI (((min (T 10 0) (k + 1)) * 20) * 6))), (5, .int (nI (cordS T b))), (0, .ref (ad 69)), (1, .int (nI (b))), (2, .int (nI (h0 + k))), (3, .int (nI (k))), (4, .ref (ad 68))]) (by decide) rfl dX3_spread_37 ?_
  refine r_iconst K ((nI (0))) (by decide) dX3_spread_39 ?_
  refine r_istore K (lv' := [(7, .int (nI (0))), (6, .int (nI (((min (T 10 0) (k + 1)) * 20) * 6))), (5, .int (nI (cordS T b))), (0, .ref (ad 69)), (1, .int (nI (b))), (2, .int (nI (h0 + k))), (3, .int (nI (k))), (4, .ref (ad 68))]) (by decide) rfl dX3_spread_40 ?_
  refine r_pick [3, 4, 5, 6, 7, 2, 1, 0] (lv' := [(0, .ref (ad 69)), (1, .int (nI (b))), (2, .int (nI (h0 + k))), (3, .int (nI (k))), (4, .ref (ad 68)), (5, .int (nI (cordS T b))), (6, .int (nI (((min (T 10 0) (k + 1)) * 20) * 6))), (7, .int (nI (0)))]) rfl ?_
  have lpA : ∀ (mm_ : Nat) (i : Nat) (s1 : Sg), mm_ = min (T 10 0) (k + 1) * 20 * 6 - i → (i ≤ min (T 10 0) (k + 1) * 20 * 6) → (same [37] [] [38] false σ s1) → (∀ s, s < 966 → cl (s1.A 37) (s1.J 38) s (DS T b kn h0 k i 0 s)) → GJ g x 12 42 [(0, .ref (ad 69)), (1, .int (nI (b))), (2, .int (nI (h0 + k))), (3, .int (nI (k))), (4, .ref (ad 68)), (5, .int (nI (cordS T b))), (6, .int (nI (min (T 10 0) (k + 1) * 20 * 6))), (7, .int (nI (i)))] [] ad (s1) := by
    intro mm_
    induction mm_ using Nat.strongRecOn with
    | _ mm_ ihA =>
      intro i s1 hmA hi hs1 hd1
      refine r_iload K rfl dX3_spread_42 ?_
      refine r_iload K rfl dX3_spread_44 ?_
      refine n_icmp_ge K 196 (by omega) (by omega) dX3_spread_46 (by decide) (fun h46 => ?_) (fun h46 => ?_)
      · refine r_aload_n K 0 rfl rfl dX3_spread_196 ?_
        refine r_callV K 69 (As := []) (rest := []) mv_X3_swap ml_RX3_118 (c_X3_swap) (by decide) rfl rfl rfl rfl (Nat.le_of_ble_eq_true rfl) ⟨by decide, by decide⟩ dX3_spread_197 (fun r_w ad_w s_w h_w => ?_)
        obtain ⟨rfl, rfl, rfl⟩ := h_w
        refine r_st (st' := []) rfl ?_
        exact r_vret K hr (⟨rfl, adE_sw ad, same_sw (same_w hs1 (by simp) (by simp) (by simp) id) (by simp) (by simp) (by simp) (by simp), fun s hs => cl_iff (cl_eq (A := s1.A 37) (J := s1.J 38) (hd1 s hs) rfl rfl) (DS_full hT (by omega) s)⟩) dX3_spread_200
      · have hci : cl (s1.A 35) (s1.J 36) i (CS T b kn h0 k i) := by rw [hs1.1 35 (by simp), hs1.2.2.1 36 (by simp)]; exact hc i (by omega)
        rcases hci with ⟨hA, hE⟩ | ⟨r0, e0, hp0, hA, hJ, hmin⟩
        · skip
          refine r_aload_n K 0 rfl rfl dX3_spread_49 ?_
          refine get_69_6 K fl_RX3_32 dX3_spread_50 ?_
          refine r_iload K rfl dX3_spread_53 ?_
          refine r_iald K 35 (n := 966) (by decide) rfl rfl (by decide) (by omega) dX3_spread_55 ?_
          refine r_topi (b := (-1)) (hA) ?_
          refine r_iconst K ((-1)) (by decide) dX3_spread_56 ?_
          refine r_icmp_ne K 63 dX3_spread_57 (by decide) (fun z => absurd z (by decide)) (fun _ => ?_)
          refine r_goto K 190 dX3_spread_60 (by decide) ?_
          refine r_iinc K ((nI (i + 1))) rfl (nI_1 _) (lv' := [(7, .int (nI (i + 1))), (0, .ref (ad 69)), (1, .int (nI (b))), (2, .int (nI (h0 + k))), (3, .int (nI (k))), (4, .ref (ad 68)), (5, .int (nI (cordS T b))), (6, .int (nI (min (T 10 0) (k + 1) * 20 * 6)))]) (by decide) rfl dX3_spread_190 ?_
          refine r_goto K 42 dX3_spread_193 (by decide) ?_
          refine r_pick [1, 2, 3, 4, 5, 6, 7, 0] (lv' := [(0, .ref (ad 69)), (1, .int (nI (b))), (2, .int (nI (h0 + k))), (3, .int (nI (k))), (4, .ref (ad 68)), (5, .int (nI (cordS T b))), (6, .int (nI (min (T 10 0) (k + 1) * 20 * 6))), (7, .int (nI (i + 1)))]) rfl ?_
          exact ihA _ (by omega) (i + 1) (s1) rfl (by omega) (hs1) (fun s hs => cl_iff (hd1 s hs) (DS_none hE s))
        · have hb0 := CS_lt hT (by omega) hp0
          refine r_aload_n K 0 rfl rfl dX3_spread_49 ?_
          refine get_69_6 K fl_RX3_32 dX3_spread_50 ?_
          refine r_iload K rfl dX3_spread_53 ?_
          refine r_iald K 35 (n := 966) (by decide) rfl rfl (by decide) (by omega) dX3_spread_55 ?_
          refine r_topi (b := (nI (r0))) (hA) ?_
          refine r_iconst K ((-1)) (by decide) dX3_spread_56 ?_
          refine r_icmp_ne K 63 dX3_spread_57 (by decide) (fun h57 => ?_) (fun h57 => absurd h57 (fun z => nI_m1 (by omega) z))
          refine r_iload K rfl dX3_spread_63 ?_
          refine r_bipush K ((nI (6))) (by decide) dX3_spread_65 ?_
          refine r_irem K (nI_ne0 (by omega) (by omega)) dX3_spread_67 ?_
          refine r_topi (pk_rem (by omega) (by omega) (by omega)) ?_
          refine r_istore K (lv' := [(8, .int (nI (i % 6))), (0, .ref (ad 69)), (1, .int (nI (b))), (2, .int (nI (h0 + k))), (3, .int (nI (k))), (4, .ref (ad 68)), (5, .int (nI (cordS T b))), (6, .int (nI (min (T 10 0) (k + 1) * 20 * 6))), (7, .int (nI (i)))]) (by decide) rfl dX3_spread_68 ?_
          refine r_iconst K ((nI (5))) (by decide) dX3_spread_70 ?_
          refine r_iload K rfl dX3_spread_71 ?_
          refine r_iload K rfl dX3_spread_73 ?_
          refine r_iadd K dX3_spread_75 ?_
          refine r_topi (nI_add _ _) ?_
          refine r_mmin K ml_RX3_66 (by decide) (Nat.le_of_ble_eq_true rfl) dX3_spread_76 ?_
          refine r_topi (b := (nI (min 5 ((i % 6) + (cordS T b))))) (nI_min (by omega) (by omega)) ?_
          refine r_istore K (lv' := [(9, .int (nI (min 5 ((i % 6) + (cordS T b))))), (8, .int (nI (i % 6))), (0, .ref (ad 69)), (1, .int (nI (b))), (2, .int (nI (h0 + k))), (3, .int (nI (k))), (4, .ref (ad 68)), (5, .int (nI (cordS T b))), (6, .int (nI (min (T 10 0) (k + 1) * 20 * 6))), (7, .int (nI (i)))]) (by decide) rfl dX3_spread_79 ?_
          refine r_iconst K ((nI (0))) (by decide) dX3_spread_81 ?_
          refine r_iload K rfl dX3_spread_82 ?_
          refine r_iload K rfl dX3_spread_84 ?_
          refine r_isub K dX3_spread_86 ?_
          refine r_mmax K ml_RX3_104 (by decide) (Nat.le_of_ble_eq_true rfl) dX3_spread_87 ?_
          refine r_topi (b := (nI (i % 6 - cordS T b))) (max_sub (by omega) (by omega)) ?_
          refine r_istore K (lv' := [(10, .int (nI (i % 6 - cordS T b))), (9, .int (nI (min 5 ((i % 6) + (cordS T b))))), (8, .int (nI (i % 6))), (0, .ref (ad 69)), (1, .int (nI (b))), (2, .int (nI (h0 + k))), (3, .int (nI (k))), (4, .ref (ad 68)), (5, .int (nI (cordS T b))), (6, .int (nI (min (T 10 0) (k + 1) * 20 * 6))), (7, .int (nI (i)))]) (by decide) rfl dX3_spread_90 ?_
          refine r_pick [3, 4, 5, 6, 7, 8, 9, 10, 2, 1, 0] (lv' := [(0, .ref (ad 69)), (1, .int (nI (b))), (2, .int (nI (h0 + k))), (3, .int (nI (k))), (4, .ref (ad 68)), (5, .int (nI (cordS T b))), (6, .int (nI (min (T 10 0) (k + 1) * 20 * 6))), (7, .int (nI (i))), (8, .int (nI (i % 6))), (9, .int (nI (min 5 ((i % 6) + (cordS T b))))), (10, .int (nI (i % 6 - cordS T b)))]) rfl ?_
          have lpB : ∀ (mm_ : Nat) (t : Nat) (s2 : Sg), mm_ = min 5 (i % 6 + cordS T b) + 1 - t → (i % 6 - cordS T b ≤ t) → (t ≤ min 5 (i % 6 + cordS T b) + 1) → (same [37] [] [38] false σ s2) → (∀ s, s < 966 → cl (s2.A 37) (s2.J 38) s (DS T b kn h0 k i t s)) → GJ g x 12 92 [(0, .ref (ad 69)), (1, .int (nI (b))), (2, .int (nI (h0 + k))), (3, .int (nI (k))), (4, .ref (ad 68)), (5, .int (nI (cordS T b))), (6, .int (nI (min (T 10 0) (k + 1) * 20 * 6))), (7, .int (nI (i))), (8, .int (nI (i % 6))), (9, .int (nI (min 5 (i % 6 + cordS T b)))), (10, .int (nI (t)))] [] ad (s2) := by
            intro mm_
            induction mm_ using Nat.strongRecOn with
            | _ mm_ ihB =>
              intro t s2 hmB ht ht2 hs2 hd2
              refine r_iload K rfl dX3_spread_92 ?_
              refine r_iload K rfl dX3_spread_94 ?_
              refine n_icmp_gt K 190 (by omega) (by omega) dX3_spread_96 (by decide) (fun h96 => ?_) (fun h96 => ?_)
              · refine r_iinc K ((nI (i + 1))) rfl (nI_1 _) (lv' := [(7, .int (nI (i + 1))), (0, .ref (ad 69)), (1, .int (nI (b))), (2, .int (nI (h0 + k))), (3, .int (nI (k))), (4, .ref (ad 68)), (5, .int (nI (cordS T b))), (6, .int (nI (min (T 10 0) (k + 1) * 20 * 6))), (8, .int (nI (i % 6))), (9, .int (nI (min 5 (i % 6 + cordS T b)))), (10, .int (nI (t)))]) (by decide) rfl dX3_spread_190 ?_
                refine r_goto K 42 dX3_spread_193 (by decide) ?_
                refine r_pick [1, 2, 3, 4, 5, 6, 7, 0] (lv' := [(0, .ref (ad 69)), (1, .int (nI (b))), (2, .int (nI (h0 + k))), (3, .int (nI (k))), (4, .ref (ad 68)), (5, .int (nI (cordS T b))), (6, .int (nI (min (T 10 0) (k + 1) * 20 * 6))), (7, .int (nI (i + 1)))]) rfl ?_
                exact ihA _ (by omega) (i + 1) (s2) rfl (by omega) (hs2) (fun s hs => cl_iff (hd2 s hs) (DS_done (by omega) s))
              · refine r_aload_n K 0 rfl rfl dX3_spread_99 ?_
                refine get_69_1 K fl_RX3_44 dX3_spread_100 ?_
                refine r_iload_n K 1 rfl rfl dX3_spread_103 ?_
                refine r_iload K rfl dX3_spread_104 ?_
                refine r_bipush K ((nI (6))) (by decide) dX3_spread_106 ?_
                refine r_idiv K (nI_ne0 (by omega) (by omega)) dX3_spread_108 ?_
                refine r_topi (pk_div (by omega) (by omega) (by omega)) ?_
                refine r_iload K rfl dX3_spread_109 ?_
                refine r_iload_n K 2 rfl rfl dX3_spread_111 ?_
                refine r_callVp K 62 (As := [.int (nI (b)), .int (nI (i / 6)), .int (nI (t)), .int (nI (h0 + k))]) mv_X4_moved ml_RX3_85 (c_moved hT (hR.same hs2 (by intro k hk; simp; omega) (by simp)) (b := b) (p := i / 6) (l := t) (h := h0 + k) (by omega) (by omega) (by omega) (validP_or hb0.2.2.2.2.2.2.2)) (by decide) rfl rfl rfl rfl (Nat.le_of_ble_eq_true rfl) ⟨by decide, by decide⟩ dX3_spread_112 ?_
                have hgo := validP_le hT (validP_go hT hb0.2.2.2.2.2.2.2 b t (h0 + k))
                refine r_istore K (lv' := [(11, .int (nI (goS T b (i / 6) t (h0 + k)))), (0, .ref (ad 69)), (1, .int (nI (b))), (2, .int (nI (h0 + k))), (3, .int (nI (k))), (4, .ref (ad 68)), (5, .int (nI (cordS T b))), (6, .int (nI (min (T 10 0) (k + 1) * 20 * 6))), (7, .int (nI (i))), (8, .int (nI (i % 6))), (9, .int (nI (min 5 (i % 6 + cordS T b)))), (10, .int (nI (t)))]) (by decide) rfl dX3_spread_115 ?_
                refine r_iload K rfl dX3_spread_117 ?_
                refine r_iload K rfl dX3_spread_119 ?_
                refine r_aload K rfl dX3_spread_121 ?_
                refine get_68_0 K fl_RX3_71 dX3_spread_123 ?_
                refine r_iload_n K 2 rfl rfl dX3_spread_126 ?_
                refine r_iald K 33 (n := 24) (by decide) rfl rfl (by decide) (by omega) dX3_spread_127 ?_
                refine r_topi (b := (nI (lp))) (by rw [hs2.1 33 (by simp)]; exact hlp) ?_
                refine r_aload K rfl dX3_spread_128 ?_
                refine get_68_1 K fl_RX3_74 dX3_spread_130 ?_
                refine r_iload_n K 2 rfl rfl dX3_spread_133 ?_
                refine r_iald K 34 (n := 24) (by decide) rfl rfl (by decide) (by omega) dX3_spread_134 ?_
                refine r_topi (b := (nI (ll))) (by rw [hs2.1 34 (by simp)]; exact hll) ?_
                refine r_callSN K (As := [.int (nI (goS T b (i / 6) t (h0 + k))), .int (nI (t)), .int (nI (lp)), .int (nI (ll))]) ms_X6_isKnot K.2.2.2.2.2.1.2.2.2.2 (c_isKnot (p := goS T b (i / 6) t (h0 + k)) (l := t) (q := lp) (m := ll) hgo (by omega) hlp2 hll2) rfl rfl (Nat.le_of_ble_eq_true rfl) ⟨by decide, by decide⟩ dX3_spread_135 ?_
                refine b_if_ne K 184 dX3_spread_138 (by decide) (fun h138 => ?_) (fun h138 => ?_)
                · refine r_iinc K ((nI (t + 1))) rfl (nI_1 _) (lv' := [(10, .int (nI (t + 1))), (11, .int (nI (goS T b (i / 6) t (h0 + k)))), (0, .ref (ad 69)), (1, .int (nI (b))), (2, .int (nI (h0 + k))), (3, .int (nI (k))), (4, .ref (ad 68)), (5, .int (nI (cordS T b))), (6, .int (nI (min (T 10 0) (k + 1) * 20 * 6))), (7, .int (nI (i))), (8, .int (nI (i % 6))), (9, .int (nI (min 5 (i % 6 + cordS T b))))]) (by decide) rfl dX3_spread_184 ?_
                  refine r_goto K 92 dX3_spread_187 (by decide) ?_
                  refine r_pick [2, 3, 4, 5, 6, 7, 8, 9, 10, 11, 0] (lv' := [(0, .ref (ad 69)), (1, .int (nI (b))), (2, .int (nI (h0 + k))), (3, .int (nI (k))), (4, .ref (ad 68)), (5, .int (nI (cordS T b))), (6, .int (nI (min (T 10 0) (k + 1) * 20 * 6))), (7, .int (nI (i))), (8, .int (nI (i % 6))), (9, .int (nI (min 5 (i % 6 + cordS T b)))), (10, .int (nI (t + 1)))]) rfl ?_
                  exact ihB _ (by omega) (t + 1) (s2) rfl (by omega) (by omega) (hs2) (fun s hs => cl_iff (hd2 s hs) (DS_stay (Or.inl (by rw [← hkn]; exact h138))))
                · refine r_aload_n K 0 rfl rfl dX3_spread_141 ?_
                  refine r_iload K rfl dX3_spread_142 ?_
                  refine r_bipush K ((nI (6))) (by decide) dX3_spread_144 ?_
                  refine r_imul K dX3_spread_146 ?_
                  refine r_topi (pk_mul _ _) ?_
                  refine r_iload K rfl dX3_spread_147 ?_
                  refine r_iadd K dX3_spread_149 ?_
                  refine r_topi (nI_add _ _) ?_
                  refine r_aload_n K 0 rfl rfl dX3_spread_150 ?_
                  refine get_69_6 K fl_RX3_32 dX3_spread_151 ?_
                  refine r_iload K rfl dX3_spread_154 ?_
                  refine r_iald K 35 (n := 966) (by decide) rfl rfl (by decide) (by omega) dX3_spread_156 ?_
                  refine r_topi (b := (nI (r0))) (by rw [hs2.1 35 (by simp)]; rw [hs1.1 35 (by simp)] at hA; exact hA) ?_
                  refine r_iload K rfl dX3_spread_157 ?_
                  refine r_iload K rfl dX3_spread_159 ?_
                  refine r_isub K dX3_spread_161 ?_
                  refine r_mabs K ml_RX3_111 (by decide) (Nat.le_of_ble_eq_true rfl) dX3_spread_162 ?_
                  refine r_topi (b := (nI (offS (i % 6) t))) (abs_off (by omega) (by omega)) ?_
                  refine r_iadd K dX3_spread_165 ?_
                  refine r_topi (nI_add _ _) ?_
                  refine r_aload_n K 0 rfl rfl dX3_spread_166 ?_
                  refine get_69_7 K fl_RX3_35 dX3_spread_167 ?_
                  refine r_iload K rfl dX3_spread_170 ?_
                  refine r_lald K 36 (n := 966) (by decide) rfl rfl (by decide) (by omega) dX3_spread_172 ?_
                  refine r_topl (b := (lN (e0))) (by rw [hs2.2.2.1 36 (by simp)]; rw [hs1.2.2.1 36 (by simp)] at hJ; exact hJ) ?_
                  refine r_ldc2 K (v := (lN (6))) kl_RX3_77 dX3_spread_173 ?_
                  refine r_lmul K dX3_spread_176 ?_
                  refine r_topl (lN_mul _ _) ?_
                  refine r_iload K rfl dX3_spread_177 ?_
                  refine r_i2l K dX3_spread_179 ?_
                  refine r_topl (nI_l (by omega)) ?_
                  refine r_ladd K dX3_spread_180 ?_
                  refine r_topl (lN_add _ _) ?_
                  have hof : offS (i % 6) t ≤ cordS T b := by unfold offS; split <;> omega
                  have hst := DS_step hp0 hmin hh (by omega) (by omega) hof (by rw [← hkn]; exact h138) rfl
                  have hbb := DS_lt hT (by omega) hst.1
                  refine r_callV K 69 (As := [.int (nI (((goS T b (i / 6) t (h0 + k)) * 6) + t)), .int (nI (r0 + (offS (i % 6) t))), .long (lN ((e0 * 6) + t))]) (rest := []) mv_X3_offer ml_RX3_114 (c_offer (P := DS T b kn h0 k i t (goS T b (i / 6) t (h0 + k) * 6 + t)) (P' := DS T b kn h0 k i (t + 1) (goS T b (i / 6) t (h0 + k) * 6 + t)) (s := goS T b (i / 6) t (h0 + k) * 6 + t) (r := r0 + offS (i % 6) t) (e := e0 * 6 + t) (by omega) hbb.1 hbb.2 (fun r e z => DS_lt hT (by omega) z) (hd2 _ (by omega)) (fun r e z => DS_wide z (fun m c _ _ h3 _ => by omega)) hst.1 hst.2) (by decide) rfl rfl rfl rfl (Nat.le_of_ble_eq_true rfl) ⟨by decide, by decide⟩ dX3_spread_181 (fun r_o ad_o s_o h_o => ?_)
                  obtain ⟨rfl, rfl, ho⟩ := h_o
                  refine r_st (st' := []) rfl ?_
                  refine r_iinc K ((nI (t + 1))) rfl (nI_1 _) (lv' := [(10, .int (nI (t + 1))), (11, .int (nI (goS T b (i / 6) t (h0 + k)))), (0, .ref (ad 69)), (1, .int (nI (b))), (2, .int (nI (h0 + k))), (3, .int (nI (k))), (4, .ref (ad 68)), (5, .int (nI (cordS T b))), (6, .int (nI (min (T 10 0) (k + 1) * 20 * 6))), (7, .int (nI (i))), (8, .int (nI (i % 6))), (9, .int (nI (min 5 (i % 6 + cordS T b))))]) (by decide) rfl dX3_spread_184 ?_
                  refine r_goto K 92 dX3_spread_187 (by decide) ?_
                  refine r_pick [2, 3, 4, 5, 6, 7, 8, 9, 10, 11, 0] (lv' := [(0, .ref (ad 69)), (1, .int (nI (b))), (2, .int (nI (h0 + k))), (3, .int (nI (k))), (4, .ref (ad 68)), (5, .int (nI (cordS T b))), (6, .int (nI (min (T 10 0) (k + 1) * 20 * 6))), (7, .int (nI (i))), (8, .int (nI (i % 6))), (9, .int (nI (min 5 (i % 6 + cordS T b)))), (10, .int (nI (t + 1)))]) rfl ?_
                  exact ihB _ (by omega) (t + 1) (s_o) rfl (by omega) (by omega) (same_tr hs2 ho.1) (fun s hs => by by_cases e : s = goS T b (i / 6) t (h0 + k) * 6 + t; (subst e; exact ho.2.2); exact cl_iff (cl_eq (hd2 s hs) (ho.2.1 s e).1 (ho.2.1 s e).2) (DS_stay (Or.inr e)))
          exact lpB _ (_) (s1) rfl (Nat.le_refl _) (by omega) (hs1) (fun s hs => cl_iff (hd1 s hs) (DS_begin s))
  exact lpA _ (0) (_) rfl (Nat.zero_le _) (same_sA (same_rf _ _ _ _ _) (by simp) _) (fun s hs => Or.inl ⟨by rw [sA_at]; unfold fillA; rw [if_pos hs], fun r e => DS_0⟩)

def stt (T : Tv) (b : Nat) (kn : Nat → Nat → Nat → Bool) (h0 j n : Nat) (z : Bool) (s : Sg) : Prop := (z = false ∧ s.A 28 n = -1 ∧ ∀ ms, Cmp T b kn h0 (startS T) 0 ms → j < ms.length) ∨ (z = true ∧ slotR (plS T b kn h0) n s)
theorem stt_of {T : Tv} {b : Nat} {kn : Nat → Nat → Nat → Bool} {h0 k n : Nat} {z : Bool} {s : Sg} (hh : h0 ≤ 24) (hk : k ≤ 24) (hs : ∀ ms, Cmp T b kn h0 (startS T) 0 ms → k ≤ ms.length) (h : stl T b kn h0 k 966 n s) (hz : (z = false ∧ s.A 28 n = -1) ∨ (z = true ∧ s.A 28 n = nI k)) : stt T b kn h0 k n z s := by
  rcases stl_slot hh hs h with ⟨h1, h2⟩ | ⟨h1, h2⟩
  · rcases hz with ⟨hz, -⟩ | ⟨hz, h3⟩
    · exact Or.inl ⟨hz, h1, h2⟩
    · exact absurd (h3.symm.trans h1) (fun e => nI_m1 (by omega) e)
  · rcases hz with ⟨hz, h3⟩ | ⟨hz, -⟩
    · exact absurd (h1.symm.trans h3) (fun e => nI_m1 (by omega) e)
    · exact Or.inr ⟨hz, h2⟩
theorem stt_end {T : Tv} {b : Nat} {kn : Nat → Nat → Nat → Bool} {h0 j n : Nat} {z : Bool} {s : Sg} (hh : h0 ≤ 24) (hj : 24 ≤ h0 + j) (h : stt T b kn h0 j n z s) : slotR (plS T b kn h0) n s := by
  rcases h with ⟨-, h1, h2⟩ | ⟨-, h1⟩
  · rw [plS_none (fun ms hc => by
      have a1 := okP_len hc.1 hh
      have a2 := h2 ms hc
      omega)]
    exact h1
  · exact h1
def schP (n : Nat) (σ s2 : Sg) : Prop := same [28, 29, 35, 36, 37, 38] [] [30, 35, 36, 37, 38] false σ s2 ∧ ∀ j, j ≠ n → s2.A 28 j = σ.A 28 j ∧ s2.A 29 j = σ.A 29 j ∧ s2.J 30 j = σ.J 30 j
theorem schP_st {n : Nat} {σ s s2 : Sg} (h : schP n σ s) (h2 : stP2 n s s2) : schP n σ s2 :=
  ⟨same_tr h.1 (same_w h2.1 (by simp) (by simp) (by simp) id), fun j hj => ⟨(h2.2 j hj).1.trans (h.2 j hj).1, (h2.2 j hj).2.1.trans (h.2 j hj).2.1, (h2.2 j hj).2.2.trans (h.2 j hj).2.2⟩⟩
theorem schP_sp {n : Nat} {σ s s2 : Sg} (h : schP n σ s) (h2 : same [35, 36, 37, 38] [] [35, 36, 37, 38] false s s2) : schP n σ s2 :=
  ⟨same_tr h.1 (same_w h2 (by simp) (by simp) (by simp) id), fun j hj => ⟨by rw [h2.1 28 (by simp)]; exact (h.2 j hj).1, by rw [h2.1 29 (by simp)]; exact (h.2 j hj).2.1, by rw [h2.2.2.1 30 (by simp)]; exact (h.2 j hj).2.2⟩⟩
theorem cl_begin {T : Tv} {b : Nat} {kn : Nat → Nat → Nat → Bool} {h0 : Nat} {A : Nat → Int32} {J : Nat → Int64} {s : Nat} (hs : s < 966) : cl (upd (fillA A (-1) 966) (startS T * 6) (nI 0)) (vp_updL J (startS T * 6) (lN 0)) s (CS T b kn h0 0 s) := by
  unfold upd vp_updL fillA
  by_cases e : s = startS T * 6
  · exact Or.inr ⟨0, 0, CS_0.mpr ⟨by omega, rfl, rfl⟩, if_pos e, if_pos e, fun r' e' z => by have := CS_0.mp z; omega⟩
  · exact Or.inl ⟨(if_neg e).trans (if_pos hs), fun r' e' z => by have := CS_0.mp z; omega⟩
set_option maxHeartbeats 1000000 in
set_option maxRecDepth 10000 in
theorem c_search_67 {g : Gp} {lau : Launch} {ad : Nat → Nat} {σ : Sg} {T : Tv} (hT : TOk T) (hR : RepC T σ) {b n h0 : Nat} {kn : Nat → Nat → Nat → Bool} (hb : b < 4) (hn : n < 112) (hh : h0 < 24) (hL : LineR 31 32 kn σ) : Con g lau yX3_search cX3_search 7 (Option.none : Option Jvm.ClassFile.FieldType) 4 106 [.ref (ad 69), .int (nI (n)), .int (nI (b)), .int (nI (h0)), .ref (ad 67)] ad σ (fun r a2 s2 => none = r ∧ adE ad a2 ∧ schP n σ s2 ∧ slotR (plS T b kn h0) n s2) := by
  refine con_mk (by decide) (Nat.le_of_ble_eq_true rfl) (fun x hxl K hr => ?_)
  subst hxl
  refine r_lv (lv' := [(0, .ref (ad 69)), (1, .int (nI (n))), (2, .int (nI (b))), (3, .int (nI (h0))), (4, .ref (ad 67))]) rfl ?_
  have hsv := validP_le hT (validP_start hT)
  refine r_aload_n K 0 rfl rfl dX3_search_0 ?_
  refine get_69_6 K fl_RX3_32 dX3_search_1 ?_
  refine r_iconst K ((-1)) (by decide) dX3_search_4 ?_
  refine r_callS K (As := [.ref (ad 35), .int (-1)]) (rest := []) ms_J7_fill_53178 ml_RX3_48 (c_fillI 35 (n := 966) (by decide) rfl rfl (by decide) ((-1))) rfl rfl (Nat.le_of_ble_eq_true rfl) ⟨by decide, by decide⟩ dX3_search_5 (fun r_ ad_ s_ h_ => ?_)
  obtain ⟨rfl, rfl, rfl⟩ := h_
  refine r_st (st' := []) rfl ?_
  refine r_aload_n K 0 rfl rfl dX3_search_8 ?_
  refine get_69_6 K fl_RX3_32 dX3_search_9 ?_
  refine r_aload_n K 0 rfl rfl dX3_search_12 ?_
  refine get_69_1 K fl_RX3_44 dX3_search_13 ?_
  refine r_callVp K 62 (As := []) mv_X4_begin ml_RX3_79 (c_begin hT (hR.same (same_sA (same_rf [35] [] [] false σ) (by simp) _) (by intro k hk; simp; omega) (by simp))) (by decide) rfl rfl rfl rfl (Nat.le_of_ble_eq_true rfl) ⟨by decide, by decide⟩ dX3_search_16 ?_
  refine r_bipush K ((nI (6))) (by decide) dX3_search_19 ?_
  refine r_imul K dX3_search_21 ?_
  refine r_topi (pk_mul _ _) ?_
  refine r_iconst K ((nI (0))) (by decide) dX3_search_22 ?_
  refine r_iast K 35 (n := 966) (by decide) rfl rfl (by decide) (by omega) dX3_search_23 ?_
  refine r_aload_n K 0 rfl rfl dX3_search_24 ?_
  refine get_69_7 K fl_RX3_35 dX3_search_25 ?_
  refine r_aload_n K 0 rfl rfl dX3_search_28 ?_
  refine get_69_1 K fl_RX3_44 dX3_search_29 ?_
  refine r_callVp K 62 (As := []) mv_X4_begin ml_RX3_79 (c_begin hT (hR.same (same_sA (same_sA (same_rf [35] [] [] false σ) (by simp) _) (by simp) _) (by intro k hk; simp; omega) (by simp))) (by decide) rfl rfl rfl rfl (Nat.le_of_ble_eq_true rfl) ⟨by decide, by decide⟩ dX3_search_32 ?_
  refine r_bipush K ((nI (6))) (by decide) dX3_search_35 ?_
  refine r_imul K dX3_search_37 ?_
  refine r_topi (pk_mul _ _) ?_
  refine r_lconst K (lN 0) rfl dX3_search_38 ?_
  refine r_last K 36 (n := 966) (by decide) rfl rfl (by decide) (by omega) dX3_search_39 ?_
  refine r_w (σ2 := (((σ).sA 35 (fillA ((σ).A 35) ((-1)) 966)).sA 35 (upd (((σ).sA 35 (fillA ((σ).A 35) ((-1)) 966)).A 35) ((startS T) * 6) ((nI (0))))).sJ 36 (vp_updL ((σ).J 36) ((startS T) * 6) ((lN (0))))) rfl ?_
  have hcb : ∀ s, s < 966 → cl (((((σ).sA 35 (fillA ((σ).A 35) ((-1)) 966)).sA 35 (upd (((σ).sA 35 (fillA ((σ).A 35) ((-1)) 966)).A 35) ((startS T) * 6) ((nI (0))))).sJ 36 (vp_updL ((σ).J 36) ((startS T) * 6) ((lN (0))))).A 35) (((((σ).sA 35 (fillA ((σ).A 35) ((-1)) 966)).sA 35 (upd (((σ).sA 35 (fillA ((σ).A 35) ((-1)) 966)).A 35) ((startS T) * 6) ((nI (0))))).sJ 36 (vp_updL ((σ).J 36) ((startS T) * 6) ((lN (0))))).J 36) s (CS T b kn h0 0 s) := fun s hs => by rw [sJ_A, sA_at, sJ_at, sA_at]; exact cl_begin hs
  have hsb : schP n σ ((((σ).sA 35 (fillA ((σ).A 35) ((-1)) 966)).sA 35 (upd (((σ).sA 35 (fillA ((σ).A 35) ((-1)) 966)).A 35) ((startS T) * 6) ((nI (0))))).sJ 36 (vp_updL ((σ).J 36) ((startS T) * 6) ((lN (0))))) := ⟨same_sJ (same_sA (same_sA (same_rf _ _ _ _ _) (by simp) _) (by simp) _) (by simp) _, fun j _ => ⟨rfl, rfl, rfl⟩⟩
  generalize hs0 : (((σ).sA 35 (fillA ((σ).A 35) ((-1)) 966)).sA 35 (upd (((σ).sA 35 (fillA ((σ).A 35) ((-1)) 966)).A 35) ((startS T) * 6) ((nI (0))))).sJ 36 (vp_updL ((σ).J 36) ((startS T) * 6) ((lN (0)))) = s0 at hcb hsb ⊢
  refine r_aload_n K 0 rfl rfl dX3_search_40 ?_
  refine r_iload_n K 1 rfl rfl dX3_search_41 ?_
  refine r_iconst K ((nI (0))) (by decide) dX3_search_42 ?_
  refine r_callV K 69 (As := [.int (nI (n)), .int (nI (0))]) (rest := []) mv_X3_settle ml_RX3_89 (c_settle hT (b := b) (kn := kn) (h0 := h0) (k := 0) (by omega) (by omega) hn hcb) (by decide) rfl rfl rfl rfl (Nat.le_of_ble_eq_true rfl) ⟨by decide, by decide⟩ dX3_search_43 (fun r_i ad_i s_i h_i => ?_)
  obtain ⟨zi, rfl, rfl, hst, hsl, hzz⟩ := h_i
  refine r_st (st' := [.int (bI zi)]) rfl ?_
  refine r_istore K (lv' := [(5, .int (bI (zi))), (0, .ref (ad 69)), (1, .int (nI (n))), (2, .int (nI (b))), (3, .int (nI (h0))), (4, .ref (ad 67))]) (by decide) rfl dX3_search_46 ?_
  refine r_iload_n K 3 rfl rfl dX3_search_48 ?_
  refine r_istore K (lv' := [(6, .int (nI (h0))), (5, .int (bI (zi))), (0, .ref (ad 69)), (1, .int (nI (n))), (2, .int (nI (b))), (3, .int (nI (h0))), (4, .ref (ad 67))]) (by decide) rfl dX3_search_49 ?_
  refine r_pick [2, 3, 4, 5, 6, 1, 0] (lv' := [(0, .ref (ad 69)), (1, .int (nI (n))), (2, .int (nI (b))), (3, .int (nI (h0))), (4, .ref (ad 67)), (5, .int (bI (zi))), (6, .int (nI (h0)))]) rfl ?_
  have lpA : ∀ (mm_ : Nat) (j : Nat) (z : Bool) (a1 : Nat → Nat) (s1 : Sg), mm_ = 24 - (h0 + j) → (h0 + j ≤ 24) → (adE ad a1) → (schP n σ s1) → (∀ s, s < 966 → cl (s1.A 35) (s1.J 36) s (CS T b kn h0 j s)) → (stt T b kn h0 j n z s1) → GJ g x 7 51 [(0, .ref (a1 69)), (1, .int (nI (n))), (2, .int (nI (b))), (3, .int (nI (h0))), (4, .ref (a1 67)), (5, .int (bI (z))), (6, .int (nI (h0 + j)))] [] a1 (s1) := by
    intro mm_
    induction mm_ using Nat.strongRecOn with
    | _ mm_ ihA =>
      intro j z a1 s1 hmA hj ha1 hp1 hc1 hz1
      refine r_iload K rfl dX3_search_51 ?_
      refine r_bipush K ((nI (24))) (by decide) dX3_search_53 ?_
      refine n_icmp_ge K 95 (by omega) (by omega) dX3_search_55 (by decide) (fun h55 => ?_) (fun h55 => ?_)
      · exact r_vret K hr (⟨rfl, ha1, hp1, stt_end (by omega) (by omega) hz1⟩) dX3_search_95
      · refine r_iload K rfl dX3_search_58 ?_
        refine b_if_ne K 95 dX3_search_60 (by decide) (fun h60 => ?_) (fun h60 => ?_)
        · exact r_vret K hr (⟨rfl, ha1, hp1, by rcases hz1 with ⟨q, -⟩ | ⟨-, q⟩; exact absurd (q.symm.trans h60) (by decide); exact q⟩) dX3_search_95
        · refine r_aload_n K 0 rfl rfl dX3_search_63 ?_
          refine r_iload_n K 2 rfl rfl dX3_search_64 ?_
          refine r_iload K rfl dX3_search_65 ?_
          refine r_iload K rfl dX3_search_67 ?_
          refine r_iload_n K 3 rfl rfl dX3_search_69 ?_
          refine r_isub K dX3_search_70 ?_
          refine r_topi (b := (nI (j))) ((pk_sub (by omega)).trans (by rw [show h0 + j - h0 = j by omega])) ?_
          refine r_aload K rfl dX3_search_71 ?_
          refine r_callV K 69 (As := [.int (nI (b)), .int (nI (h0 + j)), .int (nI (j)), .ref (a1 67)]) (rest := []) mv_X3_spread ml_RX3_93 (c_spread_67 hT (hR.same hp1.1 (by intro k hk; simp; omega) (by simp)) (b := b) (kn := kn) (h0 := h0) (k := j) hb (by omega) (LineR_same hL hp1.1 (by simp) (by simp)) hc1) (by decide) rfl rfl rfl rfl (Nat.le_of_ble_eq_true rfl) ⟨by decide, by decide⟩ dX3_search_73 (fun r_s ad_s s_s h_s => ?_)
          obtain ⟨rfl, ha2, hsp, hcs⟩ := h_s
          refine r_st (st' := []) rfl ?_
          rw [show a1 69 = ad_s 69 from (ha2 69 (by decide)).symm]
          rw [show a1 67 = ad_s 67 from (ha2 67 (by decide)).symm]
          refine r_aload_n K 0 rfl rfl dX3_search_76 ?_
          refine r_iload_n K 1 rfl rfl dX3_search_77 ?_
          refine r_iload K rfl dX3_search_78 ?_
          refine r_iload_n K 3 rfl rfl dX3_search_80 ?_
          refine r_isub K dX3_search_81 ?_
          refine r_topi (b := (nI (j))) ((pk_sub (by omega)).trans (by rw [show h0 + j - h0 = j by omega])) ?_
          refine r_iconst K ((nI (1))) (by decide) dX3_search_82 ?_
          refine r_iadd K dX3_search_83 ?_
          refine r_topi (nI_add _ _) ?_
          refine r_callV K 69 (As := [.int (nI (n)), .int (nI (j + 1))]) (rest := []) mv_X3_settle ml_RX3_89 (c_settle hT (b := b) (kn := kn) (h0 := h0) (k := j + 1) (by omega) (by omega) hn hcs) (by decide) rfl rfl rfl rfl (Nat.le_of_ble_eq_true rfl) ⟨by decide, by decide⟩ dX3_search_84 (fun r_k ad_k s_k h_k => ?_)
          obtain ⟨zk, rfl, rfl, hst, hsl, hzz⟩ := h_k
          refine r_st (st' := [.int (bI zk)]) rfl ?_
          refine r_istore K (lv' := [(5, .int (bI (zk))), (0, .ref (ad_s 69)), (1, .int (nI (n))), (2, .int (nI (b))), (3, .int (nI (h0))), (4, .ref (ad_s 67)), (6, .int (nI (h0 + j)))]) (by decide) rfl dX3_search_87 ?_
          refine r_iinc K ((nI ((h0 + j) + 1))) rfl (nI_1 _) (lv' := [(6, .int (nI ((h0 + j) + 1))), (5, .int (bI (zk))), (0, .ref (ad_s 69)), (1, .int (nI (n))), (2, .int (nI (b))), (3, .int (nI (h0))), (4, .ref (ad_s 67))]) (by decide) rfl dX3_search_89 ?_
          refine r_goto K 51 dX3_search_92 (by decide) ?_
          refine r_pick [2, 3, 4, 5, 6, 1, 0] (lv' := [(0, .ref (ad_s 69)), (1, .int (nI (n))), (2, .int (nI (b))), (3, .int (nI (h0))), (4, .ref (ad_s 67)), (5, .int (bI (zk))), (6, .int (nI ((h0 + j) + 1)))]) rfl ?_
          exact ihA _ (by omega) (j + 1) (zk) (ad_s) (s_k) rfl (by omega) (adE_tr ha1 ha2) (schP_st (schP_sp hp1 hsp) hst) (fun s hs => by rw [hst.1.1 35 (by simp), hst.1.2.2.1 36 (by simp)]; exact hcs s hs) (stt_of (by omega) (by omega) (fun ms hm => by rcases hz1 with ⟨-, -, q⟩ | ⟨q, -⟩; exact q ms hm; exact absurd (q.symm.trans h60) (by decide)) hsl hzz)
  exact lpA _ (0) (zi) (ad) (s_i) rfl (by omega) (adE_rf ad) (schP_st hsb hst) (fun s hs => by rw [hst.1.1 35 (by simp), hst.1.2.2.1 36 (by simp)]; exact hcb s hs) (stt_of (by omega) (by omega) (fun ms _ => Nat.zero_le _) hsl hzz)

set_option maxHeartbeats 1000000 in
set_option maxRecDepth 10000 in
theorem c_search_68 {g : Gp} {lau : Launch} {ad : Nat → Nat} {σ : Sg} {T : Tv} (hT : TOk T) (hR : RepC T σ) {b n h0 : Nat} {kn : Nat → Nat → Nat → Bool} (hb : b < 4) (hn : n < 112) (hh : h0 < 24) (hL : LineR 33 34 kn σ) : Con g lau yX3_search cX3_search 7 (Option.none : Option Jvm.ClassFile.FieldType) 4 106 [.ref (ad 69), .int (nI (n)), .int (nI (b)), .int (nI (h0)), .ref (ad 68)] ad σ (fun r a2 s2 => none = r ∧ adE ad a2 ∧ schP n σ s2 ∧ slotR (plS T b kn h0) n s2) := by
  refine con_mk (by decide) (Nat.le_of_ble_eq_true rfl) (fun x hxl K hr => ?_)
  subst hxl
  refine r_lv (lv' := [(0, .ref (ad 69)), (1, .int (nI (n))), (2, .int (nI (b))), (3, .int (nI (h0))), (4, .ref (ad 68))]) rfl ?_
  have hsv := validP_le hT (validP_start hT)
  refine r_aload_n K 0 rfl rfl dX3_search_0 ?_
  refine get_69_6 K fl_RX3_32 dX3_search_1 ?_
  refine r_iconst K ((-1)) (by decide) dX3_search_4 ?_
  refine r_callS K (As := [.ref (ad 35), .int (-1)]) (rest := []) ms_J7_fill_53178 ml_RX3_48 (c_fillI 35 (n := 966) (by decide) rfl rfl (by decide) ((-1))) rfl rfl (Nat.le_of_ble_eq_true rfl) ⟨by decide, by decide⟩ dX3_search_5 (fun r_ ad_ s_ h_ => ?_)
  obtain ⟨rfl, rfl, rfl⟩ := h_
  refine r_st (st' := []) rfl ?_
  refine r_aload_n K 0 rfl rfl dX3_search_8 ?_
  refine get_69_6 K fl_RX3_32 dX3_search_9 ?_
  refine r_aload_n K 0 rfl rfl dX3_search_12 ?_
  refine get_69_1 K fl_RX3_44 dX3_search_13 ?_
  refine r_callVp K 62 (As := []) mv_X4_begin ml_RX3_79 (c_begin hT (hR.same (same_sA (same_rf [35] [] [] false σ) (by simp) _) (by intro k hk; simp; omega) (by simp))) (by decide) rfl rfl rfl rfl (Nat.le_of_ble_eq_true rfl) ⟨by decide, by decide⟩ dX3_search_16 ?_
  refine r_bipush K ((nI (6))) (by decide) dX3_search_19 ?_
  refine r_imul K dX3_search_21 ?_
  refine r_topi (pk_mul _ _) ?_
  refine r_iconst K ((nI (0))) (by decide) dX3_search_22 ?_
  refine r_iast K 35 (n := 966) (by decide) rfl rfl (by decide) (by omega) dX3_search_23 ?_
  refine r_aload_n K 0 rfl rfl dX3_search_24 ?_
  refine get_69_7 K fl_RX3_35 dX3_search_25 ?_
  refine r_aload_n K 0 rfl rfl dX3_search_28 ?_
  refine get_69_1 K fl_RX3_44 dX3_search_29 ?_
  refine r_callVp K 62 (As := []) mv_X4_begin ml_RX3_79 (c_begin hT (hR.same (same_sA (same_sA (same_rf [35] [] [] false σ) (by simp) _) (by simp) _) (by intro k hk; simp; omega) (by simp))) (by decide) rfl rfl rfl rfl (Nat.le_of_ble_eq_true rfl) ⟨by decide, by decide⟩ dX3_search_32 ?_
  refine r_bipush K ((nI (6))) (by decide) dX3_search_35 ?_
  refine r_imul K dX3_search_37 ?_
  refine r_topi (pk_mul _ _) ?_
  refine r_lconst K (lN 0) rfl dX3_search_38 ?_
  refine r_last K 36 (n := 966) (by decide) rfl rfl (by decide) (by omega) dX3_search_39 ?_
  refine r_w (σ2 := (((σ).sA 35 (fillA ((σ).A 35) ((-1)) 966)).sA 35 (upd (((σ).sA 35 (fillA ((σ).A 35) ((-1)) 966)).A 35) ((startS T) * 6) ((nI (0))))).sJ 36 (vp_updL ((σ).J 36) ((startS T) * 6) ((lN (0))))) rfl ?_
  have hcb : ∀ s, s < 966 → cl (((((σ).sA 35 (fillA ((σ).A 35) ((-1)) 966)).sA 35 (upd (((σ).sA 35 (fillA ((σ).A 35) ((-1)) 966)).A 35) ((startS T) * 6) ((nI (0))))).sJ 36 (vp_updL ((σ).J 36) ((startS T) * 6) ((lN (0))))).A 35) (((((σ).sA 35 (fillA ((σ).A 35) ((-1)) 966)).sA 35 (upd (((σ).sA 35 (fillA ((σ).A 35) ((-1)) 966)).A 35) ((startS T) * 6) ((nI (0))))).sJ 36 (vp_updL ((σ).J 36) ((startS T) * 6) ((lN (0))))).J 36) s (CS T b kn h0 0 s) := fun s hs => by rw [sJ_A, sA_at, sJ_at, sA_at]; exact cl_begin hs
  have hsb : schP n σ ((((σ).sA 35 (fillA ((σ).A 35) ((-1)) 966)).sA 35 (upd (((σ).sA 35 (fillA ((σ).A 35) ((-1)) 966)).A 35) ((startS T) * 6) ((nI (0))))).sJ 36 (vp_updL ((σ).J 36) ((startS T) * 6) ((lN (0))))) := ⟨same_sJ (same_sA (same_sA (same_rf _ _ _ _ _) (by simp) _) (by simp) _) (by simp) _, fun j _ => ⟨rfl, rfl, rfl⟩⟩
  generalize hs0 : (((σ).sA 35 (fillA ((σ).A 35) ((-1)) 966)).sA 35 (upd (((σ).sA 35 (fillA ((σ).A 35) ((-1)) 966)).A 35) ((startS T) * 6) ((nI (0))))).sJ 36 (vp_updL ((σ).J 36) ((startS T) * 6) ((lN (0)))) = s0 at hcb hsb ⊢
  refine r_aload_n K 0 rfl rfl dX3_search_40 ?_
  refine r_iload_n K 1 rfl rfl dX3_search_41 ?_
  refine r_iconst K ((nI (0))) (by decide) dX3_search_42 ?_
  refine r_callV K 69 (As := [.int (nI (n)), .int (nI (0))]) (rest := []) mv_X3_settle ml_RX3_89 (c_settle hT (b := b) (kn := kn) (h0 := h0) (k := 0) (by omega) (by omega) hn hcb) (by decide) rfl rfl rfl rfl (Nat.le_of_ble_eq_true rfl) ⟨by decide, by decide⟩ dX3_search_43 (fun r_i ad_i s_i h_i => ?_)
  obtain ⟨zi, rfl, rfl, hst, hsl, hzz⟩ := h_i
  refine r_st (st' := [.int (bI zi)]) rfl ?_
  refine r_istore K (lv' := [(5, .int (bI (zi))), (0, .ref (ad 69)), (1, .int (nI (n))), (2, .int (nI (b))), (3, .int (nI (h0))), (4, .ref (ad 68))]) (by decide) rfl dX3_search_46 ?_
  refine r_iload_n K 3 rfl rfl dX3_search_48 ?_
  refine r_istore K (lv' := [(6, .int (nI (h0))), (5, .int (bI (zi))), (0, .ref (ad 69)), (1, .int (nI (n))), (2, .int (nI (b))), (3, .int (nI (h0))), (4, .ref (ad 68))]) (by decide) rfl dX3_search_49 ?_
  refine r_pick [2, 3, 4, 5, 6, 1, 0] (lv' := [(0, .ref (ad 69)), (1, .int (nI (n))), (2, .int (nI (b))), (3, .int (nI (h0))), (4, .ref (ad 68)), (5, .int (bI (zi))), (6, .int (nI (h0)))]) rfl ?_
  have lpA : ∀ (mm_ : Nat) (j : Nat) (z : Bool) (a1 : Nat → Nat) (s1 : Sg), mm_ = 24 - (h0 + j) → (h0 + j ≤ 24) → (adE ad a1) → (schP n σ s1) → (∀ s, s < 966 → cl (s1.A 35) (s1.J 36) s (CS T b kn h0 j s)) → (stt T b kn h0 j n z s1) → GJ g x 7 51 [(0, .ref (a1 69)), (1, .int (nI (n))), (2, .int (nI (b))), (3, .int (nI (h0))), (4, .ref (a1 68)), (5, .int (bI (z))), (6, .int (nI (h0 + j)))] [] a1 (s1) := by
    intro mm_
    induction mm_ using Nat.strongRecOn with
    | _ mm_ ihA =>
      intro j z a1 s1 hmA hj ha1 hp1 hc1 hz1
      refine r_iload K rfl dX3_search_51 ?_
      refine r_bipush K ((nI (24))) (by decide) dX3_search_53 ?_
      refine n_icmp_ge K 95 (by omega) (by omega) dX3_search_55 (by decide) (fun h55 => ?_) (fun h55 => ?_)
      · exact r_vret K hr (⟨rfl, ha1, hp1, stt_end (by omega) (by omega) hz1⟩) dX3_search_95
      · refine r_iload K rfl dX3_search_58 ?_
        refine b_if_ne K 95 dX3_search_60 (by decide) (fun h60 => ?_) (fun h60 => ?_)
        · exact r_vret K hr (⟨rfl, ha1, hp1, by rcases hz1 with ⟨q, -⟩ | ⟨-, q⟩; exact absurd (q.symm.trans h60) (by decide); exact q⟩) dX3_search_95
        · refine r_aload_n K 0 rfl rfl dX3_search_63 ?_
          refine r_iload_n K 2 rfl rfl dX3_search_64 ?_
          refine r_iload K rfl dX3_search_65 ?_
          refine r_iload K rfl dX3_search_67 ?_
          refine r_iload_n K 3 rfl rfl dX3_search_69 ?_
          refine r_isub K dX3_search_70 ?_
          refine r_topi (b := (nI (j))) ((pk_sub (by omega)).trans (by rw [show h0 + j - h0 = j by omega])) ?_
          refine r_aload K rfl dX3_search_71 ?_
          refine r_callV K 69 (As := [.int (nI (b)), .int (nI (h0 + j)), .int (nI (j)), .ref (a1 68)]) (rest := []) mv_X3_spread ml_RX3_93 (c_spread_68 hT (hR.same hp1.1 (by intro k hk; simp; omega) (by simp)) (b := b) (kn := kn) (h0 := h0) (k := j) hb (by omega) (LineR_same hL hp1.1 (by simp) (by simp)) hc1) (by decide) rfl rfl rfl rfl (Nat.le_of_ble_eq_true rfl) ⟨by decide, by decide⟩ dX3_search_73 (fun r_s ad_s s_s h_s => ?_)
          obtain ⟨rfl, ha2, hsp, hcs⟩ := h_s
          refine r_st (st' := []) rfl ?_
          rw [show a1 69 = ad_s 69 from (ha2 69 (by decide)).symm]
          rw [show a1 68 = ad_s 68 from (ha2 68 (by decide)).symm]
          refine r_aload_n K 0 rfl rfl dX3_search_76 ?_
          refine r_iload_n K 1 rfl rfl dX3_search_77 ?_
          refine r_iload K rfl dX3_search_78 ?_
          refine r_iload_n K 3 rfl rfl dX3_search_80 ?_
          refine r_isub K dX3_search_81 ?_
          refine r_topi (b := (nI (j))) ((pk_sub (by omega)).trans (by rw [show h0 + j - h0 = j by omega])) ?_
          refine r_iconst K ((nI (1))) (by decide) dX3_search_82 ?_
          refine r_iadd K dX3_search_83 ?_
          refine r_topi (nI_add _ _) ?_
          refine r_callV K 69 (As := [.int (nI (n)), .int (nI (j + 1))]) (rest := []) mv_X3_settle ml_RX3_89 (c_settle hT (b := b) (kn := kn) (h0 := h0) (k := j + 1) (by omega) (by omega) hn hcs) (by decide) rfl rfl rfl rfl (Nat.le_of_ble_eq_true rfl) ⟨by decide, by decide⟩ dX3_search_84 (fun r_k ad_k s_k h_k => ?_)
          obtain ⟨zk, rfl, rfl, hst, hsl, hzz⟩ := h_k
          refine r_st (st' := [.int (bI zk)]) rfl ?_
          refine r_istore K (lv' := [(5, .int (bI (zk))), (0, .ref (ad_s 69)), (1, .int (nI (n))), (2, .int (nI (b))), (3, .int (nI (h0))), (4, .ref (ad_s 68)), (6, .int (nI (h0 + j)))]) (by decide) rfl dX3_search_87 ?_
          refine r_iinc K ((nI ((h0 + j) + 1))) rfl (nI_1 _) (lv' := [(6, .int (nI ((h0 + j) + 1))), (5, .int (bI (zk))), (0, .ref (ad_s 69)), (1, .int (nI (n))), (2, .int (nI (b))), (3, .int (nI (h0))), (4, .ref (ad_s 68))]) (by decide) rfl dX3_search_89 ?_
          refine r_goto K 51 dX3_search_92 (by decide) ?_
          refine r_pick [2, 3, 4, 5, 6, 1, 0] (lv' := [(0, .ref (ad_s 69)), (1, .int (nI (n))), (2, .int (nI (b))), (3, .int (nI (h0))), (4, .ref (ad_s 68)), (5, .int (bI (zk))), (6, .int (nI ((h0 + j) + 1)))]) rfl ?_
          exact ihA _ (by omega) (j + 1) (zk) (ad_s) (s_k) rfl (by omega) (adE_tr ha1 ha2) (schP_st (schP_sp hp1 hsp) hst) (fun s hs => by rw [hst.1.1 35 (by simp), hst.1.2.2.1 36 (by simp)]; exact hcs s hs) (stt_of (by omega) (by omega) (fun ms hm => by rcases hz1 with ⟨-, -, q⟩ | ⟨q, -⟩; exact q ms hm; exact absurd (q.symm.trans h60) (by decide)) hsl hzz)
  exact lpA _ (0) (zi) (ad) (s_i) rfl (by omega) (adE_rf ad) (schP_st hsb hst) (fun s hs => by rw [hst.1.1 35 (by simp), hst.1.2.2.1 36 (by simp)]; exact hcb s hs) (stt_of (by omega) (by omega) (fun ms _ => Nat.zero_le _) hsl hzz)

