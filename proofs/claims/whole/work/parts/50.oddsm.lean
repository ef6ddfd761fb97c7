theorem offS_comm (a b : Nat) : offS a b = offS b a := by
  unfold offS
  split <;> split <;> omega
def seX (T : Tv) (b p n h s : Nat) : Nat := if isP T (s / 6) = true then seeV T b p (n - h) h (s / 6) (s % 6) else 0
theorem seX_at {T : Tv} {b p n h q m : Nat} (hq : validP T q) (hm : m < 6) : seX T b p n h (6 * q + m) = seeV T b p (n - h) h q m := by
  unfold seX
  rw [show (6 * q + m) / 6 = q by omega, show (6 * q + m) % 6 = m by omega, if_pos (isP_iff.mpr hq)]
theorem seX_n {T : Tv} {b p n s : Nat} (hs : s < 966) : seX T b p n n s = if s / 6 = 160 then 1 else 0 := by
  unfold seX
  rw [Nat.sub_self, seeV]
  by_cases e : s / 6 = 160
  · rw [if_pos e, if_pos (isP_iff.mpr (Or.inl e))]
  · rw [if_neg e, ite_self]
theorem mx_skip {l c m : Nat} {f : Nat → Nat} (ho : c < offS m l) : mxV l c f m = mxV l c f (m + 1) := by
  rw [mxV, if_neg (fun z => by have := z.1; rw [offS_comm] at this; omega)]
theorem mx_take {l c m : Nat} {f : Nat → Nat} (ho : offS m l ≤ c) (h : mxV l c f m < f m) : f m = mxV l c f (m + 1) := by
  rw [mxV, if_pos ⟨by rw [offS_comm]; exact ho, h⟩]
theorem mx_stay {l c m : Nat} {f : Nat → Nat} (h : f m ≤ mxV l c f m) : mxV l c f m = mxV l c f (m + 1) := by
  rw [mxV, if_neg (fun z => by omega)]
def dgt (c h : Nat) : Nat := c / 6 ^ h % 6
def mayB (T : Tv) (b c : Nat) : Nat → Bool
  | 0 => true
  | h + 1 => mayB T b c h && decide (offS (prevL (dgt c) h) (dgt c h) ≤ cordS T b)
theorem may_adm {T : Tv} {b c : Nat} : ∀ n, mayB T b c n = true ↔ adm T b (dgt c) n
  | 0 => ⟨fun _ h hh => absurd hh (Nat.not_lt_zero h), fun _ => rfl⟩
  | n + 1 => by
    rw [mayB, Bool.and_eq_true, may_adm n, decide_eq_true_iff]
    constructor
    · rintro ⟨h1, h2⟩ h hh
      by_cases e : h = n
      · rw [e]; exact ⟨Nat.mod_lt _ (by decide), h2⟩
      · exact h1 h (by omega)
    · exact fun h => ⟨fun i hi => h i (by omega), (h n (by omega)).2⟩
def encB (ls : Nat → Nat) : Nat → Nat
  | 0 => 0
  | n + 1 => encB ls n + ls n * 6 ^ n
theorem encB_lt {ls : Nat → Nat} : ∀ n, (∀ h, h < n → ls h < 6) → encB ls n < 6 ^ n
  | 0, _ => Nat.zero_lt_one
  | n + 1, hl => by
    have h1 := encB_lt n (fun h hh => hl h (by omega))
    have h2 : ls n * 6 ^ n ≤ 5 * 6 ^ n := Nat.mul_le_mul_right _ (by have := hl n (by omega); omega)
    rw [encB, Nat.pow_succ]
    omega
theorem encB_dgt {ls : Nat → Nat} : ∀ n, (∀ h, h < n → ls h < 6) → ∀ h, h < n → dgt (encB ls n) h = ls h
  | 0, _, h, hh => absurd hh (Nat.not_lt_zero h)
  | n + 1, hl, h, hh => by
    have h1 := encB_lt n (fun h hh => hl h (by omega))
    have hp : 0 < 6 ^ h := Nat.pow_pos (by decide)
    unfold dgt
    rw [encB]
    by_cases e : h = n
    · subst e
      rw [Nat.add_comm, Nat.mul_comm, Nat.mul_add_div hp, Nat.div_eq_of_lt h1, Nat.add_zero]
      exact Nat.mod_eq_of_lt (hl h (by omega))
    · obtain ⟨c, hc⟩ : ∃ c, n = h + (c + 1) := ⟨n - h - 1, by omega⟩
      have e1 : ls n * 6 ^ n = 6 ^ h * (6 * (ls n * 6 ^ c)) := by
        rw [hc, Nat.pow_add, Nat.pow_succ]
        rw [show ls (h + (c + 1)) * (6 ^ h * (6 ^ c * 6)) = 6 ^ h * (ls (h + (c + 1)) * (6 ^ c * 6)) by rw [← Nat.mul_assoc, Nat.mul_comm (ls (h + (c + 1))), Nat.mul_assoc]]
        congr 1
        rw [← Nat.mul_assoc, Nat.mul_comm _ 6]
      rw [e1, Nat.add_comm, Nat.mul_add_div hp, Nat.mul_add_mod]
      have ih := encB_dgt n (fun h hh => hl h (by omega)) h (by omega)
      unfold dgt at ih
      exact ih
theorem adm_eq {T : Tv} {b n : Nat} {ls ls' : Nat → Nat} (h : adm T b ls n) (he : ∀ i, i < n → ls' i = ls i) : adm T b ls' n := by
  intro i hi
  rw [he i hi, show prevL ls' i = prevL ls i from prevL_eq (fun k hk => he k (by omega))]
  exact h i hi
def cdH (T : Tv) (b p n c X : Nat) : Prop := (∀ k, k < c → adm T b (dgt k) n → rowV T b p (dgt k) n 0 (startS T) ≤ X) ∧ (X = 0 ∨ ∃ ls, adm T b ls n ∧ rowV T b p ls n 0 (startS T) = X)
theorem cdH_bl {T : Tv} {b p n c X : Nat} (hc : 6 ^ n ≤ c) (h : cdH T b p n c X) : blS T b p n X := by
  refine ⟨fun ls ha => ?_, h.2⟩
  have h6 : ∀ i, i < n → ls i < 6 := fun i hi => (ha i hi).1
  have he := encB_dgt n h6
  have := h.1 (encB ls n) (by have := encB_lt n h6; omega) (adm_eq ha he)
  rwa [rowV_eq n 0 _ (fun i _ hi => he i (by omega))] at this
theorem cdH_skip {T : Tv} {b p n c X : Nat} (h : cdH T b p n c X) (hm : mayB T b c n = false) : cdH T b p n (c + 1) X :=
  ⟨fun k hk ha => by by_cases e : k = c; (rw [e] at ha; rw [(may_adm n).mpr ha] at hm; cases hm); exact h.1 k (by omega) ha, h.2⟩
theorem cdH_keep {T : Tv} {b p n c X : Nat} (h : cdH T b p n c X) (hm : rowV T b p (dgt c) n 0 (startS T) ≤ X) : cdH T b p n (c + 1) X :=
  ⟨fun k hk ha => by by_cases e : k = c; (rw [e]; exact hm); exact h.1 k (by omega) ha, h.2⟩
theorem cdH_new {T : Tv} {b p n c X : Nat} (h : cdH T b p n c X) (hm : mayB T b c n = true) (hx : X < rowV T b p (dgt c) n 0 (startS T)) : cdH T b p n (c + 1) (rowV T b p (dgt c) n 0 (startS T)) :=
  ⟨fun k hk ha => by by_cases e : k = c; (rw [e]; exact Nat.le_refl _); exact Nat.le_trans (h.1 k (by omega) ha) (Nat.le_of_lt hx), Or.inr ⟨dgt c, (may_adm n).mp hm, rfl⟩⟩
theorem cdH_le {T : Tv} {b p n c X : Nat} (hp : p ≤ 10) (h : cdH T b p n c X) : X ≤ 10 ^ n := by
  rcases h.2 with e | ⟨ls, -, e⟩
  · rw [e]; exact Nat.zero_le _
  · rw [← e]; exact rowV_le hp _ _ _
set_option maxHeartbeats 1000000 in
set_option maxRecDepth 10000 in
theorem m_byRow {g : Gp} {lau : Launch} {ad : Nat → Nat} {σ : Sg} {T : Tv} (hT : TOk T) (hR : RepM T σ) {b n p c : Nat} {ls : Nat → Nat} (hb : b < 4) (hw1 : 1 ≤ T 6 b) (hn : n ≤ 8) (hp : p ≤ 10) (hc : c ≤ 24) (hl6 : ∀ h, ls h < 6) (hls : ∀ h, h < n → if c = 0 then ls h = 0 else σ.A 55 (min h (c - 1)) = nI (ls h)) : Con g lau yX7_byRow cX7_byRow 14 (Option.some .long) 3 74 [.ref (ad 71), .int (nI (b)), .int (nI (n)), .int (nI (p)), .int (nI (c))] ad σ (pu (.long (lN (rowV T b p ls n 0 (startS T)))) ad σ) := by
  refine con_mk (by decide) (Nat.le_of_ble_eq_true rfl) (fun x hxl K hr => ?_)
  subst hxl
  refine r_lv (lv' := [(0, .ref (ad 71)), (1, .int (nI (b))), (2, .int (nI (n))), (3, .int (nI (p))), (4, .int (nI (c)))]) rfl ?_
  have hn8 := hT.2.1
  have hn9 := hT.2.2.1
  have h256 := pow_le9 hn
  refine r_lconst K (lN 0) rfl dX7_byRow_0 ?_
  refine r_lstore K (lv' := [(5, .long (lN (0))), (0, .ref (ad 71)), (1, .int (nI (b))), (2, .int (nI (n))), (3, .int (nI (p))), (4, .int (nI (c)))]) (by decide) rfl dX7_byRow_1 ?_
  refine r_iconst K ((nI (0))) (by decide) dX7_byRow_3 ?_
  refine r_istore K (lv' := [(7, .int (nI (0))), (5, .long (lN (0))), (0, .ref (ad 71)), (1, .int (nI (b))), (2, .int (nI (n))), (3, .int (nI (p))), (4, .int (nI (c)))]) (by decide) rfl dX7_byRow_4 ?_
  refine r_pick [2, 3, 4, 5, 6, 1, 0] (lv' := [(0, .ref (ad 71)), (1, .int (nI (b))), (2, .int (nI (n))), (3, .int (nI (p))), (4, .int (nI (c))), (5, .long (lN (0))), (7, .int (nI (0)))]) rfl ?_
  have lpA : ∀ (mm_ : Nat) (s : Nat) (a : Nat), mm_ = 2 ^ n - s → (s ≤ 2 ^ n) → (a = sumS (fun s => if plB T b ls s n = 160 then chB p s n else 0) s) → GJ g x 14 6 [(0, .ref (ad 71)), (1, .int (nI (b))), (2, .int (nI (n))), (3, .int (nI (p))), (4, .int (nI (c))), (5, .long (lN (a))), (7, .int (nI (s)))] [] ad (σ) := by
    intro mm_
    induction mm_ using Nat.strongRecOn with
    | _ mm_ ihA =>
      intro s a hmA hs ha
      refine r_iload K rfl dX7_byRow_6 ?_
      refine r_iconst K ((nI (1))) (by decide) dX7_byRow_8 ?_
      refine r_iload_n K 2 rfl rfl dX7_byRow_9 ?_
      refine r_ishl K dX7_byRow_10 ?_
      refine r_topi (b := (nI (2 ^ n))) (nI_shl1 (by omega)) ?_
      refine n_icmp_ge K 147 (by omega) (by omega) dX7_byRow_11 (by decide) (fun h11 => ?_) (fun h11 => ?_)
      · refine r_lload K rfl dX7_byRow_147 ?_
        exact r_lret K hr (⟨by rw [ha, show s = 2 ^ n by omega, set_leaf], rfl, rfl⟩) dX7_byRow_149
      · refine r_aload_n K 0 rfl rfl dX7_byRow_14 ?_
        refine r_callVp K 71 (As := []) mv_X7_start ml_RX7_169 (m_start hT hR) (by decide) rfl rfl rfl rfl (Nat.le_of_ble_eq_true rfl) ⟨by decide, by decide⟩ dX7_byRow_15 ?_
        refine r_istore K (lv' := [(8, .int (nI (startS T))), (0, .ref (ad 71)), (1, .int (nI (b))), (2, .int (nI (n))), (3, .int (nI (p))), (4, .int (nI (c))), (5, .long (lN (a))), (7, .int (nI (s)))]) (by decide) rfl dX7_byRow_18 ?_
        refine r_lconst K (lN 1) rfl dX7_byRow_20 ?_
        refine r_lstore K (lv' := [(9, .long (lN (1))), (8, .int (nI (startS T))), (0, .ref (ad 71)), (1, .int (nI (b))), (2, .int (nI (n))), (3, .int (nI (p))), (4, .int (nI (c))), (5, .long (lN (a))), (7, .int (nI (s)))]) (by decide) rfl dX7_byRow_21 ?_
        refine r_iconst K ((nI (0))) (by decide) dX7_byRow_23 ?_
        refine r_istore K (lv' := [(11, .int (nI (0))), (9, .long (lN (1))), (8, .int (nI (startS T))), (0, .ref (ad 71)), (1, .int (nI (b))), (2, .int (nI (n))), (3, .int (nI (p))), (4, .int (nI (c))), (5, .long (lN (a))), (7, .int (nI (s)))]) (by decide) rfl dX7_byRow_24 ?_
        refine r_pick [3, 4, 5, 6, 7, 8, 9, 2, 1, 0] (lv' := [(0, .ref (ad 71)), (1, .int (nI (b))), (2, .int (nI (n))), (3, .int (nI (p))), (4, .int (nI (c))), (5, .long (lN (a))), (7, .int (nI (s))), (8, .int (nI (startS T))), (9, .long (lN (1))), (11, .int (nI (0)))]) rfl ?_
        have lpB : ∀ (mm_ : Nat) (h : Nat) (q : Nat) (v : Nat), mm_ = n - h → (h ≤ n) → (q = plB T b ls s h) → (v = chB p s h) → GJ g x 14 26 [(0, .ref (ad 71)), (1, .int (nI (b))), (2, .int (nI (n))), (3, .int (nI (p))), (4, .int (nI (c))), (5, .long (lN (a))), (7, .int (nI (s))), (8, .int (nI (q))), (9, .long (lN (v))), (11, .int (nI (h)))] [] ad (σ) := by
          intro mm_
          induction mm_ using Nat.strongRecOn with
          | _ mm_ ihB =>
            intro h q v hmB hh hq hv
            refine r_iload K rfl dX7_byRow_26 ?_
            refine r_iload_n K 2 rfl rfl dX7_byRow_28 ?_
            refine n_icmp_ge K 122 (by omega) (by omega) dX7_byRow_29 (by decide) (fun h29 => ?_) (fun h29 => ?_)
            · have hvq := validP_le hT (plB_valid hT (b := b) (ls := ls) (s := s) h)
              rw [← hq] at hvq
              refine r_lload K rfl dX7_byRow_122 ?_
              refine r_iload K rfl dX7_byRow_124 ?_
              refine r_sipush K ((nI (160))) (by decide) dX7_byRow_126 ?_
              refine n_icmp_ne K 137 (by omega) (by omega) dX7_byRow_129 (by decide) (fun h129 => ?_) (fun h129 => ?_)
              · refine r_lconst K (lN 0) rfl dX7_byRow_137 ?_
                refine r_ladd K dX7_byRow_138 ?_
                refine r_topl (lN_add _ _) ?_
                refine r_lstore K (lv' := [(5, .long (lN (a + 0))), (0, .ref (ad 71)), (1, .int (nI (b))), (2, .int (nI (n))), (3, .int (nI (p))), (4, .int (nI (c))), (7, .int (nI (s))), (8, .int (nI (q))), (9, .long (lN (v))), (11, .int (nI (h)))]) (by decide) rfl dX7_byRow_139 ?_
                refine r_iinc K ((nI (s + 1))) rfl (nI_1 _) (lv' := [(7, .int (nI (s + 1))), (5, .long (lN (a + 0))), (0, .ref (ad 71)), (1, .int (nI (b))), (2, .int (nI (n))), (3, .int (nI (p))), (4, .int (nI (c))), (8, .int (nI (q))), (9, .long (lN (v))), (11, .int (nI (h)))]) (by decide) rfl dX7_byRow_141 ?_
                refine r_goto K 6 dX7_byRow_144 (by decide) ?_
                refine r_pick [2, 3, 4, 5, 6, 1, 0] (lv' := [(0, .ref (ad 71)), (1, .int (nI (b))), (2, .int (nI (n))), (3, .int (nI (p))), (4, .int (nI (c))), (5, .long (lN (a + 0))), (7, .int (nI (s + 1)))]) rfl ?_
                exact ihA _ (by omega) (s + 1) (_) rfl (by omega) (by rw [ha, sumS]; show _ = _ + (if plB T b ls s n = 160 then chB p s n else 0); rw [hq, show h = n by omega] at h129; rw [if_neg h129])
              · refine r_lload K rfl dX7_byRow_132 ?_
                refine r_goto K 138 dX7_byRow_134 (by decide) ?_
                refine r_ladd K dX7_byRow_138 ?_
                refine r_topl (lN_add _ _) ?_
                refine r_lstore K (lv' := [(5, .long (lN (a + v))), (0, .ref (ad 71)), (1, .int (nI (b))), (2, .int (nI (n))), (3, .int (nI (p))), (4, .int (nI (c))), (7, .int (nI (s))), (8, .int (nI (q))), (9, .long (lN (v))), (11, .int (nI (h)))]) (by decide) rfl dX7_byRow_139 ?_
                refine r_iinc K ((nI (s + 1))) rfl (nI_1 _) (lv' := [(7, .int (nI (s + 1))), (5, .long (lN (a + v))), (0, .ref (ad 71)), (1, .int (nI (b))), (2, .int (nI (n))), (3, .int (nI (p))), (4, .int (nI (c))), (8, .int (nI (q))), (9, .long (lN (v))), (11, .int (nI (h)))]) (by decide) rfl dX7_byRow_141 ?_
                refine r_goto K 6 dX7_byRow_144 (by decide) ?_
                refine r_pick [2, 3, 4, 5, 6, 1, 0] (lv' := [(0, .ref (ad 71)), (1, .int (nI (b))), (2, .int (nI (n))), (3, .int (nI (p))), (4, .int (nI (c))), (5, .long (lN (a + v))), (7, .int (nI (s + 1)))]) rfl ?_
                exact ihA _ (by omega) (s + 1) (_) rfl (by omega) (by rw [ha, sumS, hv]; show _ = _ + (if plB T b ls s n = 160 then chB p s n else 0); rw [hq] at h129; rw [show h = n by omega] at h129 ⊢; rw [if_pos h129])
            · refine r_iload K rfl dX7_byRow_32 ?_
              refine r_iload K rfl dX7_byRow_34 ?_
              refine r_callSp K (As := [.int (nI (s)), .int (nI (h))]) ms_X7_has ml_RX7_68 (m_has (s := s) (k := h) (by omega) (by omega)) rfl rfl (Nat.le_of_ble_eq_true rfl) ⟨by decide, by decide⟩ dX7_byRow_36 ?_
              refine r_istore K (lv' := [(12, .int (bI (decide (s / 2 ^ h % 2 = 1)))), (0, .ref (ad 71)), (1, .int (nI (b))), (2, .int (nI (n))), (3, .int (nI (p))), (4, .int (nI (c))), (5, .long (lN (a))), (7, .int (nI (s))), (8, .int (nI (q))), (9, .long (lN (v))), (11, .int (nI (h)))]) (by decide) rfl dX7_byRow_39 ?_
              refine r_lload K rfl dX7_byRow_41 ?_
              refine r_iload K rfl dX7_byRow_43 ?_
              refine b_if_eq K 53 dX7_byRow_45 (by decide) (fun h45 => ?_) (fun h45 => ?_)
              · have hbit : ¬ s / 2 ^ h % 2 = 1 := of_decide_eq_false h45
                rw [h45]
                refine r_bipush K ((nI (10))) (by decide) dX7_byRow_53 ?_
                refine r_iload_n K 3 rfl rfl dX7_byRow_55 ?_
                refine r_isub K dX7_byRow_56 ?_
                refine r_topi (b := (nI (10 - p))) (pk_sub (by omega)) ?_
                refine r_i2l K dX7_byRow_57 ?_
                refine r_topl (nI_l (by omega)) ?_
                refine r_lmul K dX7_byRow_58 ?_
                refine r_topl (lN_mul _ _) ?_
                refine r_lstore K (lv' := [(9, .long (lN (v * (10 - p)))), (12, .int (bI (false))), (0, .ref (ad 71)), (1, .int (nI (b))), (2, .int (nI (n))), (3, .int (nI (p))), (4, .int (nI (c))), (5, .long (lN (a))), (7, .int (nI (s))), (8, .int (nI (q))), (11, .int (nI (h)))]) (by decide) rfl dX7_byRow_59 ?_
                refine r_iload K rfl dX7_byRow_61 ?_
                refine n_if_ne K 70 (by omega) dX7_byRow_63 (by decide) (fun h63 => ?_) (fun h63 => ?_)
                · refine r_aload_n K 0 rfl rfl dX7_byRow_70 ?_
                  refine get_71_23 K fl_RX7_42 dX7_byRow_71 ?_
                  refine r_iload K rfl dX7_byRow_74 ?_
                  refine r_iload K rfl dX7_byRow_76 ?_
                  refine n_icmp_ge K 86 (by omega) (by omega) dX7_byRow_78 (by decide) (fun h78 => ?_) (fun h78 => ?_)
                  · refine r_iload K rfl dX7_byRow_86 ?_
                    refine r_iconst K ((nI (1))) (by decide) dX7_byRow_88 ?_
                    refine r_isub K dX7_byRow_89 ?_
                    refine r_topi (b := (nI (c - 1))) (pk_sub (by omega)) ?_
                    refine r_iald K 55 (n := 24) (by decide) rfl rfl (by decide) (by omega) dX7_byRow_90 ?_
                    refine r_topi (b := (nI (ls h))) (by have hz := hls h (by omega); rw [if_neg h63, show min h (c - 1) = c - 1 by omega] at hz; exact hz) ?_
                    refine r_istore K (lv' := [(13, .int (nI (ls h))), (9, .long (lN (v * (10 - p)))), (12, .int (bI (false))), (0, .ref (ad 71)), (1, .int (nI (b))), (2, .int (nI (n))), (3, .int (nI (p))), (4, .int (nI (c))), (5, .long (lN (a))), (7, .int (nI (s))), (8, .int (nI (q))), (11, .int (nI (h)))]) (by decide) rfl dX7_byRow_91 ?_
                    refine r_iload K rfl dX7_byRow_93 ?_
                    refine b_if_eq K 103 dX7_byRow_95 (by decide) (fun _ => ?_) (fun z => absurd z (by decide))
                    refine r_aload_n K 0 rfl rfl dX7_byRow_103 ?_
                    refine r_iload_n K 1 rfl rfl dX7_byRow_104 ?_
                    refine r_iload K rfl dX7_byRow_105 ?_
                    refine r_iload K rfl dX7_byRow_107 ?_
                    refine r_iload K rfl dX7_byRow_109 ?_
                    refine r_callVp K 71 (As := [.int (nI (b)), .int (nI (q)), .int (nI (ls h)), .int (nI (h))]) mv_X7_goes ml_RX7_205 (m_goes hT hR (b := b) (p := q) (l := ls h) (h := h) hb hw1 (hl6 h) (by omega) (validP_or (by rw [hq]; exact plB_valid hT h))) (by decide) rfl rfl rfl rfl (Nat.le_of_ble_eq_true rfl) ⟨by decide, by decide⟩ dX7_byRow_111 ?_
                    refine r_istore K (lv' := [(8, .int (nI (goS T b q (ls h) h))), (13, .int (nI (ls h))), (9, .long (lN (v * (10 - p)))), (12, .int (bI (false))), (0, .ref (ad 71)), (1, .int (nI (b))), (2, .int (nI (n))), (3, .int (nI (p))), (4, .int (nI (c))), (5, .long (lN (a))), (7, .int (nI (s))), (11, .int (nI (h)))]) (by decide) rfl dX7_byRow_114 ?_
                    refine r_iinc K ((nI (h + 1))) rfl (nI_1 _) (lv' := [(11, .int (nI (h + 1))), (8, .int (nI (goS T b q (ls h) h))), (13, .int (nI (ls h))), (9, .long (lN (v * (10 - p)))), (12, .int (bI (false))), (0, .ref (ad 71)), (1, .int (nI (b))), (2, .int (nI (n))), (3, .int (nI (p))), (4, .int (nI (c))), (5, .long (lN (a))), (7, .int (nI (s)))]) (by decide) rfl dX7_byRow_116 ?_
                    refine r_goto K 26 dX7_byRow_119 (by decide) ?_
                    refine r_pick [5, 6, 7, 8, 9, 10, 11, 1, 3, 0] (lv' := [(0, .ref (ad 71)), (1, .int (nI (b))), (2, .int (nI (n))), (3, .int (nI (p))), (4, .int (nI (c))), (5, .long (lN (a))), (7, .int (nI (s))), (8, .int (nI (goS T b q (ls h) h))), (9, .long (lN (v * (10 - p)))), (11, .int (nI (h + 1)))]) rfl ?_
                    exact ihB _ (by omega) (h + 1) (_) (_) rfl (by omega) (by rw [plB, if_neg hbit, hq]) (by rw [chB, if_neg hbit, hv])
                  · refine r_iload K rfl dX7_byRow_81 ?_
                    refine r_goto K 90 dX7_byRow_83 (by decide) ?_
                    refine r_iald K 55 (n := 24) (by decide) rfl rfl (by decide) (by omega) dX7_byRow_90 ?_
                    refine r_topi (b := (nI (ls h))) (by have hz := hls h (by omega); rw [if_neg h63, show min h (c - 1) = h by omega] at hz; exact hz) ?_
                    refine r_istore K (lv' := [(13, .int (nI (ls h))), (9, .long (lN (v * (10 - p)))), (12, .int (bI (false))), (0, .ref (ad 71)), (1, .int (nI (b))), (2, .int (nI (n))), (3, .int (nI (p))), (4, .int (nI (c))), (5, .long (lN (a))), (7, .int (nI (s))), (8, .int (nI (q))), (11, .int (nI (h)))]) (by decide) rfl dX7_byRow_91 ?_
                    refine r_iload K rfl dX7_byRow_93 ?_
                    refine b_if_eq K 103 dX7_byRow_95 (by decide) (fun _ => ?_) (fun z => absurd z (by decide))
                    refine r_aload_n K 0 rfl rfl dX7_byRow_103 ?_
                    refine r_iload_n K 1 rfl rfl dX7_byRow_104 ?_
                    refine r_iload K rfl dX7_byRow_105 ?_
                    refine r_iload K rfl dX7_byRow_107 ?_
                    refine r_iload K rfl dX7_byRow_109 ?_
                    refine r_callVp K 71 (As := [.int (nI (b)), .int (nI (q)), .int (nI (ls h)), .int (nI (h))]) mv_X7_goes ml_RX7_205 (m_goes hT hR (b := b) (p := q) (l := ls h) (h := h) hb hw1 (hl6 h) (by omega) (validP_or (by rw [hq]; exact plB_valid hT h))) (by decide) rfl rfl rfl rfl (Nat.le_of_ble_eq_true rfl) ⟨by decide, by decide⟩ dX7_byRow_111 ?_
                    refine r_istore K (lv' := [(8, .int (nI (goS T b q (ls h) h))), (13, .int (nI (ls h))), (9, .long (lN (v * (10 - p)))), (12, .int (bI (false))), (0, .ref (ad 71)), (1, .int (nI (b))), (2, .int (nI (n))), (3, .int (nI (p))), (4, .int (nI (c))), (5, .long (lN (a))), (7, .int (nI (s))), (11, .int (nI (h)))]) (by decide) rfl dX7_byRow_114 ?_
                    refine r_iinc K ((nI (h + 1))) rfl (nI_1 _) (lv' := [(11, .int (nI (h + 1))), (8, .int (nI (goS T b q (ls h) h))), (13, .int (nI (ls h))), (9, .long (lN (v * (10 - p)))), (12, .int (bI (false))), (0, .ref (ad 71)), (1, .int (nI (b))), (2, .int (nI (n))), (3, .int (nI (p))), (4, .int (nI (c))), (5, .long (lN (a))), (7, .int (nI (s)))]) (by decide) rfl dX7_byRow_116 ?_
                    refine r_goto K 26 dX7_byRow_119 (by decide) ?_
                    refine r_pick [5, 6, 7, 8, 9, 10, 11, 1, 3, 0] (lv' := [(0, .ref (ad 71)), (1, .int (nI (b))), (2, .int (nI (n))), (3, .int (nI (p))), (4, .int (nI (c))), (5, .long (lN (a))), (7, .int (nI (s))), (8, .int (nI (goS T b q (ls h) h))), (9, .long (lN (v * (10 - p)))), (11, .int (nI (h + 1)))]) rfl ?_
                    exact ihB _ (by omega) (h + 1) (_) (_) rfl (by omega) (by rw [plB, if_neg hbit, hq]) (by rw [chB, if_neg hbit, hv])
                · refine r_iconst K ((nI (0))) (by decide) dX7_byRow_66 ?_
                  refine r_topi (b := (nI (ls h))) (by have hz := hls h (by omega); rw [if_pos h63] at hz; rw [hz]) ?_
                  refine r_goto K 91 dX7_byRow_67 (by decide) ?_
                  refine r_istore K (lv' := [(13, .int (nI (ls h))), (9, .long (lN (v * (10 - p)))), (12, .int (bI (false))), (0, .ref (ad 71)), (1, .int (nI (b))), (2, .int (nI (n))), (3, .int (nI (p))), (4, .int (nI (c))), (5, .long (lN (a))), (7, .int (nI (s))), (8, .int (nI (q))), (11, .int (nI (h)))]) (by decide) rfl dX7_byRow_91 ?_
                  refine r_iload K rfl dX7_byRow_93 ?_
                  refine b_if_eq K 103 dX7_byRow_95 (by decide) (fun _ => ?_) (fun z => absurd z (by decide))
                  refine r_aload_n K 0 rfl rfl dX7_byRow_103 ?_
                  refine r_iload_n K 1 rfl rfl dX7_byRow_104 ?_
                  refine r_iload K rfl dX7_byRow_105 ?_
                  refine r_iload K rfl dX7_byRow_107 ?_
                  refine r_iload K rfl dX7_byRow_109 ?_
                  refine r_callVp K 71 (As := [.int (nI (b)), .int (nI (q)), .int (nI (ls h)), .int (nI (h))]) mv_X7_goes ml_RX7_205 (m_goes hT hR (b := b) (p := q) (l := ls h) (h := h) hb hw1 (hl6 h) (by omega) (validP_or (by rw [hq]; exact plB_valid hT h))) (by decide) rfl rfl rfl rfl (Nat.le_of_ble_eq_true rfl) ⟨by decide, by decide⟩ dX7_byRow_111 ?_
                  refine r_istore K (lv' := [(8, .int (nI (goS T b q (ls h) h))), (13, .int (nI (ls h))), (9, .long (lN (v * (10 - p)))), (12, .int (bI (false))), (0, .ref (ad 71)), (1, .int (nI (b))), (2, .int (nI (n))), (3, .int (nI (p))), (4, .int (nI (c))), (5, .long (lN (a))), (7, .int (nI (s))), (11, .int (nI (h)))]) (by decide) rfl dX7_byRow_114 ?_
                  refine r_iinc K ((nI (h + 1))) rfl (nI_1 _) (lv' := [(11, .int (nI (h + 1))), (8, .int (nI (goS T b q (ls h) h))), (13, .int (nI (ls h))), (9, .long (lN (v * (10 - p)))), (12, .int (bI (false))), (0, .ref (ad 71)), (1, .int (nI (b))), (2, .int (nI (n))), (3, .int (nI (p))), (4, .int (nI (c))), (5, .long (lN (a))), (7, .int (nI (s)))]) (by decide) rfl dX7_byRow_116 ?_
                  refine r_goto K 26 dX7_byRow_119 (by decide) ?_
                  refine r_pick [5, 6, 7, 8, 9, 10, 11, 1, 3, 0] (lv' := [(0, .ref (ad 71)), (1, .int (nI (b))), (2, .int (nI (n))), (3, .int (nI (p))), (4, .int (nI (c))), (5, .long (lN (a))), (7, .int (nI (s))), (8, .int (nI (goS T b q (ls h) h))), (9, .long (lN (v * (10 - p)))), (11, .int (nI (h + 1)))]) rfl ?_
                  exact ihB _ (by omega) (h + 1) (_) (_) rfl (by omega) (by rw [plB, if_neg hbit, hq]) (by rw [chB, if_neg hbit, hv])
              · have hbit : s / 2 ^ h % 2 = 1 := of_decide_eq_true h45
                rw [h45]
                refine r_iload_n K 3 rfl rfl dX7_byRow_48 ?_
                refine r_i2l K dX7_byRow_49 ?_
                refine r_topl (nI_l (by omega)) ?_
                refine r_goto K 58 dX7_byRow_50 (by decide) ?_
                refine r_lmul K dX7_byRow_58 ?_
                refine r_topl (lN_mul _ _) ?_
                refine r_lstore K (lv' := [(9, .long (lN (v * p))), (12, .int (bI (true))), (0, .ref (ad 71)), (1, .int (nI (b))), (2, .int (nI (n))), (3, .int (nI (p))), (4, .int (nI (c))), (5, .long (lN (a))), (7, .int (nI (s))), (8, .int (nI (q))), (11, .int (nI (h)))]) (by decide) rfl dX7_byRow_59 ?_
                refine r_iload K rfl dX7_byRow_61 ?_
                refine n_if_ne K 70 (by omega) dX7_byRow_63 (by decide) (fun h63 => ?_) (fun h63 => ?_)
                · refine r_aload_n K 0 rfl rfl dX7_byRow_70 ?_
                  refine get_71_23 K fl_RX7_42 dX7_byRow_71 ?_
                  refine r_iload K rfl dX7_byRow_74 ?_
                  refine r_iload K rfl dX7_byRow_76 ?_
                  refine n_icmp_ge K 86 (by omega) (by omega) dX7_byRow_78 (by decide) (fun h78 => ?_) (fun h78 => ?_)
                  · refine r_iload K rfl dX7_byRow_86 ?_
                    refine r_iconst K ((nI (1))) (by decide) dX7_byRow_88 ?_
                    refine r_isub K dX7_byRow_89 ?_
                    refine r_topi (b := (nI (c - 1))) (pk_sub (by omega)) ?_
                    refine r_iald K 55 (n := 24) (by decide) rfl rfl (by decide) (by omega) dX7_byRow_90 ?_
                    refine r_topi (b := (nI (ls h))) (by have hz := hls h (by omega); rw [if_neg h63, show min h (c - 1) = c - 1 by omega] at hz; exact hz) ?_
                    refine r_istore K (lv' := [(13, .int (nI (ls h))), (9, .long (lN (v * p))), (12, .int (bI (true))), (0, .ref (ad 71)), (1, .int (nI (b))), (2, .int (nI (n))), (3, .int (nI (p))), (4, .int (nI (c))), (5, .long (lN (a))), (7, .int (nI (s))), (8, .int (nI (q))), (11, .int (nI (h)))]) (by decide) rfl dX7_byRow_91 ?_
                    refine r_iload K rfl dX7_byRow_93 ?_
                    refine b_if_eq K 103 dX7_byRow_95 (by decide) (fun z => absurd z (by decide)) (fun _ => ?_)
                    refine r_iload K rfl dX7_byRow_98 ?_
                    refine r_goto K 114 dX7_byRow_100 (by decide) ?_
                    refine r_istore K (lv' := [(8, .int (nI (q))), (13, .int (nI (ls h))), (9, .long (lN (v * p))), (12, .int (bI (true))), (0, .ref (ad 71)), (1, .int (nI (b))), (2, .int (nI (n))), (3, .int (nI (p))), (4, .int (nI (c))), (5, .long (lN (a))), (7, .int (nI (s))), (11, .int (nI (h)))]) (by decide) rfl dX7_byRow_114 ?_
                    refine r_iinc K ((nI (h + 1))) rfl (nI_1 _) (lv' := [(11, .int (nI (h + 1))), (8, .int (nI (q))), (13, .int (nI (ls h))), (9, .long (lN (v * p))), (12, .int (bI (true))), (0, .ref (ad 71)), (1, .int (nI (b))), (2, .int (nI (n))), (3, .int (nI (p))), (4, .int (nI (c))), (5, .long (lN (a))), (7, .int (nI (s)))]) (by decide) rfl dX7_byRow_116 ?_
                    refine r_goto K 26 dX7_byRow_119 (by decide) ?_
                    refine r_pick [5, 6, 7, 8, 9, 10, 11, 1, 3, 0] (lv' := [(0, .ref (ad 71)), (1, .int (nI (b))), (2, .int (nI (n))), (3, .int (nI (p))), (4, .int (nI (c))), (5, .long (lN (a))), (7, .int (nI (s))), (8, .int (nI (q))), (9, .long (lN (v * p))), (11, .int (nI (h + 1)))]) rfl ?_
                    exact ihB _ (by omega) (h + 1) (_) (_) rfl (by omega) (by rw [plB, if_pos hbit]; exact hq) (by rw [chB, if_pos hbit, hv])
                  · refine r_iload K rfl dX7_byRow_81 ?_
                    refine r_goto K 90 dX7_byRow_83 (by decide) ?_
                    refine r_iald K 55 (n := 24) (by decide) rfl rfl (by decide) (by omega) dX7_byRow_90 ?_
                    refine r_topi (b := (nI (ls h))) (by have hz := hls h (by omega); rw [if_neg h63, show min h (c - 1) = h by omega] at hz; exact hz) ?_
                    refine r_istore K (lv' := [(13, .int (nI (ls h))), (9, .long (lN (v * p))), (12, .int (bI (true))), (0, .ref (ad 71)), (1, .int (nI (b))), (2, .int (nI (n))), (3, .int (nI (p))), (4, .int (nI (c))), (5, .long (lN (a))), (7, .int (nI (s))), (8, .int (nI (q))), (11, .int (nI (h)))]) (by decide) rfl dX7_byRow_91 ?_
                    refine r_iload K rfl dX7_byRow_93 ?_
                    refine b_if_eq K 103 dX7_byRow_95 (by decide) (fun z => absurd z (by decide)) (fun _ => ?_)
                    refine r_iload K rfl dX7_byRow_98 ?_
                    refine r_goto K 114 dX7_byRow_100 (by decide) ?_
                    refine r_istore K (lv' := [(8, .int (nI (q))), (13, .int (nI (ls h))), (9, .long (lN (v * p))), (12, .int (bI (true))), (0, .ref (ad 71)), (1, .int (nI (b))), (2, .int (nI (n))), (3, .int (nI (p))), (4, .int (nI (c))), (5, .long (lN (a))), (7, .int (nI (s))), (11, .int (nI (h)))]) (by decide) rfl dX7_byRow_114 ?_
                    refine r_iinc K ((nI (h + 1))) rfl (nI_1 _) (lv' := [(11, .int (nI (h + 1))), (8, .int (nI (q))), (13, .int (nI (ls h))), (9, .long (lN (v * p))), (12, .int (bI (true))), (0, .ref (ad 71)), (1, .int (nI (b))), (2, .int (nI (n))), (3, .int (nI (p))), (4, .int (nI (c))), (5, .long (lN (a))), (7, .int (nI (s)))]) (by decide) rfl dX7_byRow_116 ?_
                    refine r_goto K 26 dX7_byRow_119 (by decide) ?_
                    refine r_pick [5, 6, 7, 8, 9, 10, 11, 1, 3, 0] (lv' := [(0, .ref (ad 71)), (1, .int (nI (b))), (2, .int (nI (n))), (3, .int (nI (p))), (4, .int (nI (c))), (5, .long (lN (a))), (7, .int (nI (s))), (8, .int (nI (q))), (9, .long (lN (v * p))), (11, .int (nI (h + 1)))]) rfl ?_
                    exact ihB _ (by omega) (h + 1) (_) (_) rfl (by omega) (by rw [plB, if_pos hbit]; exact hq) (by rw [chB, if_pos hbit, hv])
                · refine r_iconst K ((nI (0))) (by decide) dX7_byRow_66 ?_
                  refine r_topi (b := (nI (ls h))) (by have hz := hls h (by omega); rw [if_pos h63] at hz; rw [hz]) ?_
                  refine r_goto K 91 dX7_byRow_67 (by decide) ?_
                  refine r_istore K (lv' := [(13, .int (nI (ls h))), (9, .long (lN (v * p))), (12, .int (bI (true))), (0, .ref (ad 71)), (1, .int (nI (b))), (2, .int (nI (n))), (3, .int (nI (p))), (4, .int (nI (c))), (5, .long (lN (a))), (7, .int (nI (s))), (8, .int (nI (q))), (11, .int (nI (h)))]) (by decide) rfl dX7_byRow_91 ?_
                  refine r_iload K rfl dX7_byRow_93 ?_
                  refine b_if_eq K 103 dX7_byRow_95 (by decide) (fun z => absurd z (by decide)) (fun _ => ?_)
                  refine r_iload K rfl dX7_byRow_98 ?_
                  refine r_goto K 114 dX7_byRow_100 (by decide) ?_
                  refine r_istore K (lv' := [(8, .int (nI (q))), (13, .int (nI (ls h))), (9, .long (lN (v * p))), (12, .int (bI (true))), (0, .ref (ad 71)), (1, .int (nI (b))), (2, .int (nI (n))), (3, .int (nI (p))), (4, .int (nI (c))), (5, .long (lN (a))), (7, .int (nI (s))), (11, .int (nI (h)))]) (by decide) rfl dX7_byRow_114 ?_
                  refine r_iinc K ((nI (h + 1))) rfl (nI_1 _) (lv' := [(11, .int (nI (h + 1))), (8, .int (nI (q))), (13, .int (nI (ls h))), (9, .long (lN (v * p))), (12, .int (bI (true))), (0, .ref (ad 71)), (1, .int (nI (b))), (2, .int (nI (n))), (3, .int (nI (p))), (4, .int (nI (c))), (5, .long (lN (a))), (7, .int (nI (s)))]) (by decide) rfl dX7_byRow_116 ?_
                  refine r_goto K 26 dX7_byRow_119 (by decide) ?_
                  refine r_pick [5, 6, 7, 8, 9, 10, 11, 1, 3, 0] (lv' := [(0, .ref (ad 71)), (1, .int (nI (b))), (2, .int (nI (n))), (3, .int (nI (p))), (4, .int (nI (c))), (5, .long (lN (a))), (7, .int (nI (s))), (8, .int (nI (q))), (9, .long (lN (v * p))), (11, .int (nI (h + 1)))]) rfl ?_
                  exact ihB _ (by omega) (h + 1) (_) (_) rfl (by omega) (by rw [plB, if_pos hbit]; exact hq) (by rw [chB, if_pos hbit, hv])
        exact lpB _ (0) (_) (_) rfl (by omega) (rfl) (rfl)
  exact lpA _ (0) (0) rfl (Nat.zero_le _) (rfl)

set_option maxHeartbeats 2000000 in
set_option maxRecDepth 10000 in
theorem m_sightOf {g : Gp} {lau : Launch} {ad : Nat → Nat} {σ : Sg} {T : Tv} (hT : TOk T) (hR : RepM T σ) {b n p : Nat} (hb : b < 4) (hw1 : 1 ≤ T 6 b) (hn : n ≤ 8) (hp : p ≤ 10) : Con g lau yX7_sightOf cX7_sightOf 16 (Option.some .long) 3 74 [.ref (ad 71), .int (nI (b)), .int (nI (n)), .int (nI (p))] ad σ (fun r a2 s2 => some (.long (lN (seeV T b p n 0 (startS T) 0))) = r ∧ ad = a2 ∧ same [] [] [59] false σ s2) := by
  refine con_mk (by decide) (Nat.le_of_ble_eq_true rfl) (fun x hxl K hr => ?_)
  subst hxl
  refine r_lv (lv' := [(0, .ref (ad 71)), (1, .int (nI (b))), (2, .int (nI (n))), (3, .int (nI (p)))]) rfl ?_
  have hn8 := hT.2.1
  have hn9 := hT.2.2.1
  have hsv := validP_le hT (validP_start hT)
  refine r_iconst K ((nI (0))) (by decide) dX7_sightOf_0 ?_
  refine r_istore K (lv' := [(4, .int (nI (0))), (0, .ref (ad 71)), (1, .int (nI (b))), (2, .int (nI (n))), (3, .int (nI (p)))]) (by decide) rfl dX7_sightOf_1 ?_
  refine r_pick [1, 2, 3, 4, 0] (lv' := [(0, .ref (ad 71)), (1, .int (nI (b))), (2, .int (nI (n))), (3, .int (nI (p))), (4, .int (nI (0)))]) rfl ?_
  have lpA : ∀ (mm_ : Nat) (i : Nat) (s1 : Sg), mm_ = 966 - i → (i ≤ 966) → (same [] [] [59] false σ s1) → (∀ k, k < i → s1.J 59 (966 * n + k) = lN (seX T b p n n k)) → GJ g x 16 3 [(0, .ref (ad 71)), (1, .int (nI (b))), (2, .int (nI (n))), (3, .int (nI (p))), (4, .int (nI (i)))] [] ad (s1) := by
    intro mm_
    induction mm_ using Nat.strongRecOn with
    | _ mm_ ihA =>
      intro i s1 hmA hi hs1 h0
      refine r_iload K rfl dX7_sightOf_3 ?_
      refine r_sipush K ((nI (966))) (by decide) dX7_sightOf_5 ?_
      refine n_icmp_ge K 46 (by omega) (by omega) dX7_sightOf_8 (by decide) (fun h8 => ?_) (fun h8 => ?_)
      · refine r_iload_n K 2 rfl rfl dX7_sightOf_46 ?_
        refine r_iconst K ((nI (1))) (by decide) dX7_sightOf_47 ?_
        refine r_isub K dX7_sightOf_48 ?_
        refine r_istore K (lv' := [(4, .int ((nI (n)) - (nI (1)))), (0, .ref (ad 71)), (1, .int (nI (b))), (2, .int (nI (n))), (3, .int (nI (p)))]) (by decide) rfl dX7_sightOf_49 ?_
        refine r_lv (lv' := [(4, .int (nI n + (-1))), (0, .ref (ad 71)), (1, .int (nI (b))), (2, .int (nI (n))), (3, .int (nI (p)))]) (by rw [sub1_eq n]) ?_
        refine r_pick [1, 2, 3, 4, 0] (lv' := [(0, .ref (ad 71)), (1, .int (nI (b))), (2, .int (nI (n))), (3, .int (nI (p))), (4, .int (nI n + (-1)))]) rfl ?_
        have lpB : ∀ (mm_ : Nat) (j : Nat) (s2 : Sg), mm_ = j → (j ≤ n) → (same [] [] [59] false σ s2) → (∀ h k, j ≤ h → h ≤ n → k < 966 → s2.J 59 (966 * h + k) = lN (seX T b p n h k)) → GJ g x 16 51 [(0, .ref (ad 71)), (1, .int (nI (b))), (2, .int (nI (n))), (3, .int (nI (p))), (4, .int (nI j + (-1)))] [] ad (s2) := by
          intro mm_
          induction mm_ using Nat.strongRecOn with
          | _ mm_ ihB =>
            intro j s2 hmB hj hs2 hA
            refine r_iload K rfl dX7_sightOf_51 ?_
            rcases (show j = 0 ∨ 1 ≤ j by omega) with hj0 | hj1
            · skip
              refine r_if_lt K 254 dX7_sightOf_53 (by decide) (fun h53 => ?_) (fun h53 => absurd h53 (fun z => z (by rw [hj0]; decide)))
              refine r_aload_n K 0 rfl rfl dX7_sightOf_254 ?_
              refine get_71_27 K fl_RX7_54 dX7_sightOf_255 ?_
              refine r_bipush K ((nI (6))) (by decide) dX7_sightOf_258 ?_
              refine r_aload_n K 0 rfl rfl dX7_sightOf_260 ?_
              refine r_callVp K 71 (As := []) mv_X7_start ml_RX7_169 (m_start hT (hR.same hs2 (by simp) (by simp))) (by decide) rfl rfl rfl rfl (Nat.le_of_ble_eq_true rfl) ⟨by decide, by decide⟩ dX7_sightOf_261 ?_
              refine r_imul K dX7_sightOf_264 ?_
              refine r_topi (pk_mul _ _) ?_
              refine r_lald K 59 (n := 8694) (by decide) rfl rfl (by decide) (by omega) dX7_sightOf_265 ?_
              refine r_topl (b := (lN (seeV T b p n 0 (startS T) 0))) (by have hz := hA 0 (6 * startS T + 0) (by omega) (by omega) (by omega); rw [seX_at (validP_start hT) (by decide)] at hz; rw [show 966 * 0 + (6 * startS T + 0) = 6 * startS T by omega] at hz; exact hz) ?_
              exact r_lret K hr (⟨rfl, rfl, hs2⟩) dX7_sightOf_266
            · rw [nI_dec (show 0 < j by omega)]
              refine r_if_lt K 254 dX7_sightOf_53 (by decide) (fun h53 => absurd h53 (nI_nn (by omega))) (fun h53 => ?_)
              refine r_iconst K ((nI (0))) (by decide) dX7_sightOf_56 ?_
              refine r_istore K (lv' := [(5, .int (nI (0))), (0, .ref (ad 71)), (1, .int (nI (b))), (2, .int (nI (n))), (3, .int (nI (p))), (4, .int (nI (j - 1)))]) (by decide) rfl dX7_sightOf_57 ?_
              refine r_pick [1, 2, 3, 4, 5, 0] (lv' := [(0, .ref (ad 71)), (1, .int (nI (b))), (2, .int (nI (n))), (3, .int (nI (p))), (4, .int (nI (j - 1))), (5, .int (nI (0)))]) rfl ?_
              have lpC : ∀ (mm_ : Nat) (s : Nat) (s3 : Sg), mm_ = 966 - s → (s ≤ 966) → (same [] [] [59] false σ s3) → (∀ h k, j ≤ h → h ≤ n → k < 966 → s3.J 59 (966 * h + k) = lN (seX T b p n h k)) → (∀ k, k < s → s3.J 59 (966 * (j - 1) + k) = lN (seX T b p n (j - 1) k)) → GJ g x 16 59 [(0, .ref (ad 71)), (1, .int (nI (b))), (2, .int (nI (n))), (3, .int (nI (p))), (4, .int (nI (j - 1))), (5, .int (nI (s)))] [] ad (s3) := by
                intro mm_
                induction mm_ using Nat.strongRecOn with
                | _ mm_ ihC =>
                  intro s s3 hmC hs9 hs3 hA3 hB
                  refine r_iload K rfl dX7_sightOf_59 ?_
                  refine r_sipush K ((nI (966))) (by decide) dX7_sightOf_61 ?_
                  refine n_icmp_ge K 248 (by omega) (by omega) dX7_sightOf_64 (by decide) (fun h64 => ?_) (fun h64 => ?_)
                  · refine r_iinc K ((nI (j - 1) + (-1))) rfl (by rw [show Int32.ofInt (-1) = (-1 : Int32) from rfl]) (lv' := [(4, .int (nI (j - 1) + (-1))), (0, .ref (ad 71)), (1, .int (nI (b))), (2, .int (nI (n))), (3, .int (nI (p))), (5, .int (nI (s)))]) (by decide) rfl dX7_sightOf_248 ?_
                    refine r_goto K 51 dX7_sightOf_251 (by decide) ?_
                    refine r_pick [1, 2, 3, 4, 0] (lv' := [(0, .ref (ad 71)), (1, .int (nI (b))), (2, .int (nI (n))), (3, .int (nI (p))), (4, .int (nI (j - 1) + (-1)))]) rfl ?_
                    exact ihB _ (by omega) (j - 1) (s3) rfl (by omega) (hs3) (fun h k h1 h2 h3 => by by_cases e : h = j - 1; (rw [e]; exact hB k (by omega)); (exact hA3 h k (by omega) h2 h3))
                  · refine r_iload K rfl dX7_sightOf_67 ?_
                    refine r_bipush K ((nI (6))) (by decide) dX7_sightOf_69 ?_
                    refine r_idiv K (nI_ne0 (by omega) (by omega)) dX7_sightOf_71 ?_
                    refine r_topi (pk_div (by omega) (by omega) (by omega)) ?_
                    refine r_istore K (lv' := [(6, .int (nI (s / 6))), (0, .ref (ad 71)), (1, .int (nI (b))), (2, .int (nI (n))), (3, .int (nI (p))), (4, .int (nI (j - 1))), (5, .int (nI (s)))]) (by decide) rfl dX7_sightOf_72 ?_
                    refine r_lconst K (lN 0) rfl dX7_sightOf_74 ?_
                    refine r_lstore K (lv' := [(7, .long (lN (0))), (6, .int (nI (s / 6))), (0, .ref (ad 71)), (1, .int (nI (b))), (2, .int (nI (n))), (3, .int (nI (p))), (4, .int (nI (j - 1))), (5, .int (nI (s)))]) (by decide) rfl dX7_sightOf_75 ?_
                    refine r_lconst K (lN 0) rfl dX7_sightOf_77 ?_
                    refine r_lstore K (lv' := [(9, .long (lN (0))), (7, .long (lN (0))), (6, .int (nI (s / 6))), (0, .ref (ad 71)), (1, .int (nI (b))), (2, .int (nI (n))), (3, .int (nI (p))), (4, .int (nI (j - 1))), (5, .int (nI (s)))]) (by decide) rfl dX7_sightOf_78 ?_
                    refine r_iconst K ((nI (0))) (by decide) dX7_sightOf_80 ?_
                    refine r_istore K (lv' := [(11, .int (nI (0))), (9, .long (lN (0))), (7, .long (lN (0))), (6, .int (nI (s / 6))), (0, .ref (ad 71)), (1, .int (nI (b))), (2, .int (nI (n))), (3, .int (nI (p))), (4, .int (nI (j - 1))), (5, .int (nI (s)))]) (by decide) rfl dX7_sightOf_81 ?_
                    refine r_pick [4, 5, 6, 7, 8, 9, 3, 2, 1, 0] (lv' := [(0, .ref (ad 71)), (1, .int (nI (b))), (2, .int (nI (n))), (3, .int (nI (p))), (4, .int (nI (j - 1))), (5, .int (nI (s))), (6, .int (nI (s / 6))), (7, .long (lN (0))), (9, .long (lN (0))), (11, .int (nI (0)))]) rfl ?_
                    have lpD : ∀ (mm_ : Nat) (m : Nat) (lu : Nat) (wi : Nat), mm_ = 6 - m → (m ≤ 6) → (m = 0 ∨ isP T (s / 6) = true) → (lu = mxV (s % 6) (cordS T b) (fun m => seeV T b p (n - j) j (s / 6) m) m) → (wi = mxV (s % 6) (cordS T b) (fun m => seeV T b p (n - j) j (goS T b (s / 6) m (j - 1)) m) m) → GJ g x 16 83 [(0, .ref (ad 71)), (1, .int (nI (b))), (2, .int (nI (n))), (3, .int (nI (p))), (4, .int (nI (j - 1))), (5, .int (nI (s))), (6, .int (nI (s / 6))), (7, .long (lN (lu))), (9, .long (lN (wi))), (11, .int (nI (m)))] [] ad (s3) := by
                      intro mm_
                      induction mm_ using Nat.strongRecOn with
                      | _ mm_ ihD =>
                        intro m lu wi hmD hm hq hlu hwi
                        refine r_iload K rfl dX7_sightOf_83 ?_
                        refine r_bipush K ((nI (6))) (by decide) dX7_sightOf_85 ?_
                        refine n_icmp_ge K 214 (by omega) (by omega) dX7_sightOf_87 (by decide) (fun h87 => ?_) (fun h87 => ?_)
                        · have hfin : p * lu + (10 - p) * wi = seX T b p n (j - 1) s := by
                            by_cases e : isP T (s / 6) = true
                            · have hm6 : m = 6 := by first | omega | (rw [e] at h96; cases h96)
                              rw [hlu, hwi, hm6, see_next hj1 hj]
                              unfold seX
                              rw [if_pos e]
                            · have hm0 : m = 0 := hq.resolve_right e
                              rw [hlu, hwi, hm0]
                              unfold seX
                              rw [if_neg e]
                              rfl
                          refine r_aload_n K 0 rfl rfl dX7_sightOf_214 ?_
                          refine get_71_27 K fl_RX7_54 dX7_sightOf_215 ?_
                          refine r_sipush K ((nI (966))) (by decide) dX7_sightOf_218 ?_
                          refine r_iload K rfl dX7_sightOf_221 ?_
                          refine r_imul K dX7_sightOf_223 ?_
                          refine r_topi (pk_mul _ _) ?_
                          refine r_iload K rfl dX7_sightOf_224 ?_
                          refine r_iadd K dX7_sightOf_226 ?_
                          refine r_topi (nI_add _ _) ?_
                          refine r_iload_n K 3 rfl rfl dX7_sightOf_227 ?_
                          refine r_i2l K dX7_sightOf_228 ?_
                          refine r_topl (nI_l (by omega)) ?_
                          refine r_lload K rfl dX7_sightOf_229 ?_
                          refine r_lmul K dX7_sightOf_231 ?_
                          refine r_topl (lN_mul _ _) ?_
                          refine r_bipush K ((nI (10))) (by decide) dX7_sightOf_232 ?_
                          refine r_iload_n K 3 rfl rfl dX7_sightOf_234 ?_
                          refine r_isub K dX7_sightOf_235 ?_
                          refine r_topi (b := (nI (10 - p))) (pk_sub (by omega)) ?_
                          refine r_i2l K dX7_sightOf_236 ?_
                          refine r_topl (nI_l (by omega)) ?_
                          refine r_lload K rfl dX7_sightOf_237 ?_
                          refine r_lmul K dX7_sightOf_239 ?_
                          refine r_topl (lN_mul _ _) ?_
                          refine r_ladd K dX7_sightOf_240 ?_
                          refine r_topl (lN_add _ _) ?_
                          refine r_last K 59 (n := 8694) (by decide) rfl rfl (by decide) (by omega) dX7_sightOf_241 ?_
                          refine r_iinc K ((nI (s + 1))) rfl (nI_1 _) (lv' := [(5, .int (nI (s + 1))), (0, .ref (ad 71)), (1, .int (nI (b))), (2, .int (nI (n))), (3, .int (nI (p))), (4, .int (nI (j - 1))), (6, .int (nI (s / 6))), (7, .long (lN (lu))), (9, .long (lN (wi))), (11, .int (nI (m)))]) (by decide) rfl dX7_sightOf_242 ?_
                          refine r_goto K 59 dX7_sightOf_245 (by decide) ?_
                          refine r_pick [1, 2, 3, 4, 5, 0] (lv' := [(0, .ref (ad 71)), (1, .int (nI (b))), (2, .int (nI (n))), (3, .int (nI (p))), (4, .int (nI (j - 1))), (5, .int (nI (s + 1)))]) rfl ?_
                          exact ihC _ (by omega) (s + 1) ((s3).sJ 59 (vp_updL ((s3).J 59) ((966 * (j - 1)) + s) ((lN ((p * lu) + ((10 - p) * wi)))))) rfl (by omega) (same_sJ hs3 (by simp) _) (fun h k h1 h2 h3 => by rw [sJ_at]; unfold vp_updL; rw [if_neg (by omega)]; exact hA3 h k h1 h2 h3) (fun k hk => by rw [sJ_at]; unfold vp_updL; by_cases e : k = s; (rw [if_pos (by omega), e, hfin]); (rw [if_neg (by omega)]; exact hB k (by omega)))
                        · refine r_aload_n K 0 rfl rfl dX7_sightOf_90 ?_
                          refine r_iload K rfl dX7_sightOf_91 ?_
                          refine r_callVp K 71 (As := [.int (nI (s / 6))]) mv_X7_isPlace ml_RX7_213 (m_isPlace hT (hR.same hs3 (by simp) (by simp)) (p := s / 6) (by omega)) (by decide) rfl rfl rfl rfl (Nat.le_of_ble_eq_true rfl) ⟨by decide, by decide⟩ dX7_sightOf_93 ?_
                          refine b_if_eq K 214 dX7_sightOf_96 (by decide) (fun h96 => ?_) (fun h96 => ?_)
                          · have hfin : p * lu + (10 - p) * wi = seX T b p n (j - 1) s := by
                              by_cases e : isP T (s / 6) = true
                              · have hm6 : m = 6 := by first | omega | (rw [e] at h96; cases h96)
                                rw [hlu, hwi, hm6, see_next hj1 hj]
                                unfold seX
                                rw [if_pos e]
                              · have hm0 : m = 0 := hq.resolve_right e
                                rw [hlu, hwi, hm0]
                                unfold seX
                                rw [if_neg e]
                                rfl
                            refine r_aload_n K 0 rfl rfl dX7_sightOf_214 ?_
                            refine get_71_27 K fl_RX7_54 dX7_sightOf_215 ?_
                            refine r_sipush K ((nI (966))) (by decide) dX7_sightOf_218 ?_
                            refine r_iload K rfl dX7_sightOf_221 ?_
                            refine r_imul K dX7_sightOf_223 ?_
                            refine r_topi (pk_mul _ _) ?_
                            refine r_iload K rfl dX7_sightOf_224 ?_
                            refine r_iadd K dX7_sightOf_226 ?_
                            refine r_topi (nI_add _ _) ?_
                            refine r_iload_n K 3 rfl rfl dX7_sightOf_227 ?_
                            refine r_i2l K dX7_sightOf_228 ?_
                            refine r_topl (nI_l (by omega)) ?_
                            refine r_lload K rfl dX7_sightOf_229 ?_
                            refine r_lmul K dX7_sightOf_231 ?_
                            refine r_topl (lN_mul _ _) ?_
                            refine r_bipush K ((nI (10))) (by decide) dX7_sightOf_232 ?_
                            refine r_iload_n K 3 rfl rfl dX7_sightOf_234 ?_
                            refine r_isub K dX7_sightOf_235 ?_
                            refine r_topi (b := (nI (10 - p))) (pk_sub (by omega)) ?_
                            refine r_i2l K dX7_sightOf_236 ?_
                            refine r_topl (nI_l (by omega)) ?_
                            refine r_lload K rfl dX7_sightOf_237 ?_
                            refine r_lmul K dX7_sightOf_239 ?_
                            refine r_topl (lN_mul _ _) ?_
                            refine r_ladd K dX7_sightOf_240 ?_
                            refine r_topl (lN_add _ _) ?_
                            refine r_last K 59 (n := 8694) (by decide) rfl rfl (by decide) (by omega) dX7_sightOf_241 ?_
                            refine r_iinc K ((nI (s + 1))) rfl (nI_1 _) (lv' := [(5, .int (nI (s + 1))), (0, .ref (ad 71)), (1, .int (nI (b))), (2, .int (nI (n))), (3, .int (nI (p))), (4, .int (nI (j - 1))), (6, .int (nI (s / 6))), (7, .long (lN (lu))), (9, .long (lN (wi))), (11, .int (nI (m)))]) (by decide) rfl dX7_sightOf_242 ?_
                            refine r_goto K 59 dX7_sightOf_245 (by decide) ?_
                            refine r_pick [1, 2, 3, 4, 5, 0] (lv' := [(0, .ref (ad 71)), (1, .int (nI (b))), (2, .int (nI (n))), (3, .int (nI (p))), (4, .int (nI (j - 1))), (5, .int (nI (s + 1)))]) rfl ?_
                            exact ihC _ (by omega) (s + 1) ((s3).sJ 59 (vp_updL ((s3).J 59) ((966 * (j - 1)) + s) ((lN ((p * lu) + ((10 - p) * wi)))))) rfl (by omega) (same_sJ hs3 (by simp) _) (fun h k h1 h2 h3 => by rw [sJ_at]; unfold vp_updL; rw [if_neg (by omega)]; exact hA3 h k h1 h2 h3) (fun k hk => by rw [sJ_at]; unfold vp_updL; by_cases e : k = s; (rw [if_pos (by omega), e, hfin]); (rw [if_neg (by omega)]; exact hB k (by omega)))
                          · refine r_iload K rfl dX7_sightOf_99 ?_
                            refine r_iload K rfl dX7_sightOf_101 ?_
                            refine r_bipush K ((nI (6))) (by decide) dX7_sightOf_103 ?_
                            refine r_irem K (nI_ne0 (by omega) (by omega)) dX7_sightOf_105 ?_
                            refine r_topi (pk_rem (by omega) (by omega) (by omega)) ?_
                            refine r_callSp K (As := [.int (nI (m)), .int (nI (s % 6))]) ms_X7_off ml_RX7_197 (m_off (a := m) (b := s % 6) (by omega) (by omega)) rfl rfl (Nat.le_of_ble_eq_true rfl) ⟨by decide, by decide⟩ dX7_sightOf_106 ?_
                            refine r_aload_n K 0 rfl rfl dX7_sightOf_109 ?_
                            refine r_iload_n K 1 rfl rfl dX7_sightOf_110 ?_
                            refine r_callVp K 71 (As := [.int (nI (b))]) mv_X7_cordOf ml_RX7_189 (m_cordOf hT (hR.same hs3 (by simp) (by simp)) (b := b) (by omega)) (by decide) rfl rfl rfl rfl (Nat.le_of_ble_eq_true rfl) ⟨by decide, by decide⟩ dX7_sightOf_111 ?_
                            have hcd := cordS_le hT b
                            have hof5 := offS_le6 (show m < 6 by omega) (show s % 6 < 6 by omega)
                            refine n_icmp_gt K 208 (by omega) (by omega) dX7_sightOf_114 (by decide) (fun h114 => ?_) (fun h114 => ?_)
                            · refine r_iinc K ((nI (m + 1))) rfl (nI_1 _) (lv' := [(11, .int (nI (m + 1))), (0, .ref (ad 71)), (1, .int (nI (b))), (2, .int (nI (n))), (3, .int (nI (p))), (4, .int (nI (j - 1))), (5, .int (nI (s))), (6, .int (nI (s / 6))), (7, .long (lN (lu))), (9, .long (lN (wi)))]) (by decide) rfl dX7_sightOf_208 ?_
                              refine r_goto K 83 dX7_sightOf_211 (by decide) ?_
                              refine r_pick [1, 2, 3, 4, 5, 6, 7, 8, 9, 0] (lv' := [(0, .ref (ad 71)), (1, .int (nI (b))), (2, .int (nI (n))), (3, .int (nI (p))), (4, .int (nI (j - 1))), (5, .int (nI (s))), (6, .int (nI (s / 6))), (7, .long (lN (lu))), (9, .long (lN (wi))), (11, .int (nI (m + 1)))]) rfl ?_
                              exact ihD _ (by omega) (m + 1) (_) (_) rfl (by omega) (Or.inr h96) (hlu.trans (mx_skip h114)) (hwi.trans (mx_skip h114))
                            · refine r_aload_n K 0 rfl rfl dX7_sightOf_117 ?_
                              refine get_71_27 K fl_RX7_54 dX7_sightOf_118 ?_
                              refine r_sipush K ((nI (966))) (by decide) dX7_sightOf_121 ?_
                              refine r_iload K rfl dX7_sightOf_124 ?_
                              refine r_iconst K ((nI (1))) (by decide) dX7_sightOf_126 ?_
                              refine r_iadd K dX7_sightOf_127 ?_
                              refine r_topi (nI_add _ _) ?_
                              refine r_imul K dX7_sightOf_128 ?_
                              refine r_topi (pk_mul _ _) ?_
                              refine r_bipush K ((nI (6))) (by decide) dX7_sightOf_129 ?_
                              refine r_iload K rfl dX7_sightOf_131 ?_
                              refine r_imul K dX7_sightOf_133 ?_
                              refine r_topi (pk_mul _ _) ?_
                              refine r_iadd K dX7_sightOf_134 ?_
                              refine r_topi (nI_add _ _) ?_
                              refine r_iload K rfl dX7_sightOf_135 ?_
                              refine r_iadd K dX7_sightOf_137 ?_
                              refine r_topi (nI_add _ _) ?_
                              refine r_lald K 59 (n := 8694) (by decide) rfl rfl (by decide) (by omega) dX7_sightOf_138 ?_
                              have hvp := isP_iff.mp h96
                              have hb1 := Nat.le_trans (seeV_le (T := T) (b := b) hp (n - j) j (s / 6) m) (pow8 (by omega))
                              refine r_topl (b := (lN (seeV T b p (n - j) j (s / 6) m))) (by rw [show 966 * (j - 1 + 1) + 6 * (s / 6) + m = 966 * j + (6 * (s / 6) + m) by omega, hA3 j _ (Nat.le_refl _) (by omega) (by omega), seX_at hvp (by omega)]) ?_
                              refine r_lstore K (lv' := [(12, .long (lN (seeV T b p (n - j) j (s / 6) m))), (0, .ref (ad 71)), (1, .int (nI (b))), (2, .int (nI (n))), (3, .int (nI (p))), (4, .int (nI (j - 1))), (5, .int (nI (s))), (6, .int (nI (s / 6))), (7, .long (lN (lu))), (9, .long (lN (wi))), (11, .int (nI (m)))]) (by decide) rfl dX7_sightOf_139 ?_
                              refine r_aload_n K 0 rfl rfl dX7_sightOf_141 ?_
                              refine get_71_27 K fl_RX7_54 dX7_sightOf_142 ?_
                              refine r_sipush K ((nI (966))) (by decide) dX7_sightOf_145 ?_
                              refine r_iload K rfl dX7_sightOf_148 ?_
                              refine r_iconst K ((nI (1))) (by decide) dX7_sightOf_150 ?_
                              refine r_iadd K dX7_sightOf_151 ?_
                              refine r_topi (nI_add _ _) ?_
                              refine r_imul K dX7_sightOf_152 ?_
                              refine r_topi (pk_mul _ _) ?_
                              refine r_bipush K ((nI (6))) (by decide) dX7_sightOf_153 ?_
                              refine r_aload_n K 0 rfl rfl dX7_sightOf_155 ?_
                              refine r_iload_n K 1 rfl rfl dX7_sightOf_156 ?_
                              refine r_iload K rfl dX7_sightOf_157 ?_
                              refine r_iload K rfl dX7_sightOf_159 ?_
                              refine r_iload K rfl dX7_sightOf_161 ?_
                              refine r_callVp K 71 (As := [.int (nI (b)), .int (nI (s / 6)), .int (nI (m)), .int (nI (j - 1))]) mv_X7_goes ml_RX7_205 (m_goes hT (hR.same hs3 (by simp) (by simp)) (b := b) (p := s / 6) (l := m) (h := j - 1) hb hw1 (by omega) (by omega) (validP_or (isP_iff.mp h96))) (by decide) rfl rfl rfl rfl (Nat.le_of_ble_eq_true rfl) ⟨by decide, by decide⟩ dX7_sightOf_163 ?_
                              have hgo := validP_le hT (validP_go hT (isP_iff.mp h96) b m (j - 1))
                              refine r_imul K dX7_sightOf_166 ?_
                              refine r_topi (pk_mul _ _) ?_
                              refine r_iadd K dX7_sightOf_167 ?_
                              refine r_topi (nI_add _ _) ?_
                              refine r_iload K rfl dX7_sightOf_168 ?_
                              refine r_iadd K dX7_sightOf_170 ?_
                              refine r_topi (nI_add _ _) ?_
                              refine r_lald K 59 (n := 8694) (by decide) rfl rfl (by decide) (by omega) dX7_sightOf_171 ?_
                              have hb2 := Nat.le_trans (seeV_le (T := T) (b := b) hp (n - j) j (goS T b (s / 6) m (j - 1)) m) (pow8 (by omega))
                              have hlu8 : lu ≤ 100000000 := by rw [hlu]; exact Nat.le_trans (mxV_le (fun m => seeV_le hp _ _ _ _) _) (pow8 (show n - j ≤ 8 by omega))
                              have hwi8 : wi ≤ 100000000 := by rw [hwi]; exact Nat.le_trans (mxV_le (fun m => seeV_le hp _ _ _ _) _) (pow8 (show n - j ≤ 8 by omega))
                              refine r_topl (b := (lN (seeV T b p (n - j) j (goS T b (s / 6) m (j - 1)) m))) (by rw [show 966 * (j - 1 + 1) + 6 * goS T b (s / 6) m (j - 1) + m = 966 * j + (6 * goS T b (s / 6) m (j - 1) + m) by omega, hA3 j _ (Nat.le_refl _) (by omega) (by omega), seX_at (validP_go hT hvp _ _ _) (by omega)]) ?_
                              refine r_lstore K (lv' := [(14, .long (lN (seeV T b p (n - j) j (goS T b (s / 6) m (j - 1)) m))), (12, .long (lN (seeV T b p (n - j) j (s / 6) m))), (0, .ref (ad 71)), (1, .int (nI (b))), (2, .int (nI (n))), (3, .int (nI (p))), (4, .int (nI (j - 1))), (5, .int (nI (s))), (6, .int (nI (s / 6))), (7, .long (lN (lu))), (9, .long (lN (wi))), (11, .int (nI (m)))]) (by decide) rfl dX7_sightOf_172 ?_
                              refine r_lload K rfl dX7_sightOf_174 ?_
                              refine r_lload K rfl dX7_sightOf_176 ?_
                              refine n_lcmp_le K 187 (⟨by omega, by omega⟩) dX7_sightOf_178 dX7_sightOf_179 (by decide) (fun h178 => ?_) (fun h178 => ?_)
                              · refine r_lload K rfl dX7_sightOf_187 ?_
                                refine r_lstore K (lv' := [(7, .long (lN (lu))), (14, .long (lN (seeV T b p (n - j) j (goS T b (s / 6) m (j - 1)) m))), (12, .long (lN (seeV T b p (n - j) j (s / 6) m))), (0, .ref (ad 71)), (1, .int (nI (b))), (2, .int (nI (n))), (3, .int (nI (p))), (4, .int (nI (j - 1))), (5, .int (nI (s))), (6, .int (nI (s / 6))), (9, .long (lN (wi))), (11, .int (nI (m)))]) (by decide) rfl dX7_sightOf_189 ?_
                                refine r_lload K rfl dX7_sightOf_191 ?_
                                refine r_lload K rfl dX7_sightOf_193 ?_
                                refine n_lcmp_le K 204 (⟨by omega, by omega⟩) dX7_sightOf_195 dX7_sightOf_196 (by decide) (fun h195 => ?_) (fun h195 => ?_)
                                · refine r_lload K rfl dX7_sightOf_204 ?_
                                  refine r_lstore K (lv' := [(9, .long (lN (wi))), (7, .long (lN (lu))), (14, .long (lN (seeV T b p (n - j) j (goS T b (s / 6) m (j - 1)) m))), (12, .long (lN (seeV T b p (n - j) j (s / 6) m))), (0, .ref (ad 71)), (1, .int (nI (b))), (2, .int (nI (n))), (3, .int (nI (p))), (4, .int (nI (j - 1))), (5, .int (nI (s))), (6, .int (nI (s / 6))), (11, .int (nI (m)))]) (by decide) rfl dX7_sightOf_206 ?_
                                  refine r_iinc K ((nI (m + 1))) rfl (nI_1 _) (lv' := [(11, .int (nI (m + 1))), (9, .long (lN (wi))), (7, .long (lN (lu))), (14, .long (lN (seeV T b p (n - j) j (goS T b (s / 6) m (j - 1)) m))), (12, .long (lN (seeV T b p (n - j) j (s / 6) m))), (0, .ref (ad 71)), (1, .int (nI (b))), (2, .int (nI (n))), (3, .int (nI (p))), (4, .int (nI (j - 1))), (5, .int (nI (s))), (6, .int (nI (s / 6)))]) (by decide) rfl dX7_sightOf_208 ?_
                                  refine r_goto K 83 dX7_sightOf_211 (by decide) ?_
                                  refine r_pick [5, 6, 7, 8, 9, 10, 11, 2, 1, 0] (lv' := [(0, .ref (ad 71)), (1, .int (nI (b))), (2, .int (nI (n))), (3, .int (nI (p))), (4, .int (nI (j - 1))), (5, .int (nI (s))), (6, .int (nI (s / 6))), (7, .long (lN (lu))), (9, .long (lN (wi))), (11, .int (nI (m + 1)))]) rfl ?_
                                  exact ihD _ (by omega) (m + 1) (_) (_) rfl (by omega) (Or.inr h96) (by rw [hlu] at h178; exact hlu.trans (mx_stay (f := (fun m => seeV T b p (n - j) j (s / 6) m)) h178)) (by rw [hwi] at h195; exact hwi.trans (mx_stay (f := (fun m => seeV T b p (n - j) j (goS T b (s / 6) m (j - 1)) m)) h195))
                                · refine r_lload K rfl dX7_sightOf_199 ?_
                                  refine r_goto K 206 dX7_sightOf_201 (by decide) ?_
                                  refine r_lstore K (lv' := [(9, .long (lN (seeV T b p (n - j) j (goS T b (s / 6) m (j - 1)) m))), (7, .long (lN (lu))), (14, .long (lN (seeV T b p (n - j) j (goS T b (s / 6) m (j - 1)) m))), (12, .long (lN (seeV T b p (n - j) j (s / 6) m))), (0, .ref (ad 71)), (1, .int (nI (b))), (2, .int (nI (n))), (3, .int (nI (p))), (4, .int (nI (j - 1))), (5, .int (nI (s))), (6, .int (nI (s / 6))), (11, .int (nI (m)))]) (by decide) rfl dX7_sightOf_206 ?_
                                  refine r_iinc K ((nI (m + 1))) rfl (nI_1 _) (lv' := [(11, .int (nI (m + 1))), (9, .long (lN (seeV T b p (n - j) j (goS T b (s / 6) m (j - 1)) m))), (7, .long (lN (lu))), (14, .long (lN (seeV T b p (n - j) j (goS T b (s / 6) m (j - 1)) m))), (12, .long (lN (seeV T b p (n - j) j (s / 6) m))), (0, .ref (ad 71)), (1, .int (nI (b))), (2, .int (nI (n))), (3, .int (nI (p))), (4, .int (nI (j - 1))), (5, .int (nI (s))), (6, .int (nI (s / 6)))]) (by decide) rfl dX7_sightOf_208 ?_
                                  refine r_goto K 83 dX7_sightOf_211 (by decide) ?_
                                  refine r_pick [5, 6, 7, 8, 9, 10, 11, 2, 1, 0] (lv' := [(0, .ref (ad 71)), (1, .int (nI (b))), (2, .int (nI (n))), (3, .int (nI (p))), (4, .int (nI (j - 1))), (5, .int (nI (s))), (6, .int (nI (s / 6))), (7, .long (lN (lu))), (9, .long (lN (seeV T b p (n - j) j (goS T b (s / 6) m (j - 1)) m))), (11, .int (nI (m + 1)))]) rfl ?_
                                  exact ihD _ (by omega) (m + 1) (_) (_) rfl (by omega) (Or.inr h96) (by rw [hlu] at h178; exact hlu.trans (mx_stay (f := (fun m => seeV T b p (n - j) j (s / 6) m)) h178)) (by rw [hwi] at h195; exact mx_take (f := (fun m => seeV T b p (n - j) j (goS T b (s / 6) m (j - 1)) m)) h114 h195)
                              · refine r_lload K rfl dX7_sightOf_182 ?_
                                refine r_goto K 189 dX7_sightOf_184 (by decide) ?_
                                refine r_lstore K (lv' := [(7, .long (lN (seeV T b p (n - j) j (s / 6) m))), (14, .long (lN (seeV T b p (n - j) j (goS T b (s / 6) m (j - 1)) m))), (12, .long (lN (seeV T b p (n - j) j (s / 6) m))), (0, .ref (ad 71)), (1, .int (nI (b))), (2, .int (nI (n))), (3, .int (nI (p))), (4, .int (nI (j - 1))), (5, .int (nI (s))), (6, .int (nI (s / 6))), (9, .long (lN (wi))), (11, .int (nI (m)))]) (by decide) rfl dX7_sightOf_189 ?_
                                refine r_lload K rfl dX7_sightOf_191 ?_
                                refine r_lload K rfl dX7_sightOf_193 ?_
                                refine n_lcmp_le K 204 (⟨by omega, by omega⟩) dX7_sightOf_195 dX7_sightOf_196 (by decide) (fun h195 => ?_) (fun h195 => ?_)
                                · refine r_lload K rfl dX7_sightOf_204 ?_
                                  refine r_lstore K (lv' := [(9, .long (lN (wi))), (7, .long (lN (seeV T b p (n - j) j (s / 6) m))), (14, .long (lN (seeV T b p (n - j) j (goS T b (s / 6) m (j - 1)) m))), (12, .long (lN (seeV T b p (n - j) j (s / 6) m))), (0, .ref (ad 71)), (1, .int (nI (b))), (2, .int (nI (n))), (3, .int (nI (p))), (4, .int (nI (j - 1))), (5, .int (nI (s))), (6, .int (nI (s / 6))), (11, .int (nI (m)))]) (by decide) rfl dX7_sightOf_206 ?_
                                  refine r_iinc K ((nI (m + 1))) rfl (nI_1 _) (lv' := [(11, .int (nI (m + 1))), (9, .long (lN (wi))), (7, .long (lN (seeV T b p (n - j) j (s / 6) m))), (14, .long (lN (seeV T b p (n - j) j (goS T b (s / 6) m (j - 1)) m))), (12, .long (lN (seeV T b p (n - j) j (s / 6) m))), (0, .ref (ad 71)), (1, .int (nI (b))), (2, .int (nI (n))), (3, .int (nI (p))), (4, .int (nI (j - 1))), (5, .int (nI (s))), (6, .int (nI (s / 6)))]) (by decide) rfl dX7_sightOf_208 ?_
                                  refine r_goto K 83 dX7_sightOf_211 (by decide) ?_
                                  refine r_pick [5, 6, 7, 8, 9, 10, 11, 2, 1, 0] (lv' := [(0, .ref (ad 71)), (1, .int (nI (b))), (2, .int (nI (n))), (3, .int (nI (p))), (4, .int (nI (j - 1))), (5, .int (nI (s))), (6, .int (nI (s / 6))), (7, .long (lN (seeV T b p (n - j) j (s / 6) m))), (9, .long (lN (wi))), (11, .int (nI (m + 1)))]) rfl ?_
                                  exact ihD _ (by omega) (m + 1) (_) (_) rfl (by omega) (Or.inr h96) (by rw [hlu] at h178; exact mx_take (f := (fun m => seeV T b p (n - j) j (s / 6) m)) h114 h178) (by rw [hwi] at h195; exact hwi.trans (mx_stay (f := (fun m => seeV T b p (n - j) j (goS T b (s / 6) m (j - 1)) m)) h195))
                                · refine r_lload K rfl dX7_sightOf_199 ?_
                                  refine r_goto K 206 dX7_sightOf_201 (by decide) ?_
                                  refine r_lstore K (lv' := [(9, .long (lN (seeV T b p (n - j) j (goS T b (s / 6) m (j - 1)) m))), (7, .long (lN (seeV T b p (n - j) j (s / 6) m))), (14, .long (lN (seeV T b p (n - j) j (goS T b (s / 6) m (j - 1)) m))), (12, .long (lN (seeV T b p (n - j) j (s / 6) m))), (0, .ref (ad 71)), (1, .int (nI (b))), (2, .int (nI (n))), (3, .int (nI (p))), (4, .int (nI (j - 1))), (5, .int (nI (s))), (6, .int (nI (s / 6))), (11, .int (nI (m)))]) (by decide) rfl dX7_sightOf_206 ?_
                                  refine r_iinc K ((nI (m + 1))) rfl (nI_1 _) (lv' := [(11, .int (nI (m + 1))), (9, .long (lN (seeV T b p (n - j) j (goS T b (s / 6) m (j - 1)) m))), (7, .long (lN (seeV T b p (n - j) j (s / 6) m))), (14, .long (lN (seeV T b p (n - j) j (goS T b (s / 6) m (j - 1)) m))), (12, .long (lN (seeV T b p (n - j) j (s / 6) m))), (0, .ref (ad 71)), (1, .int (nI (b))), (2, .int (nI (n))), (3, .int (nI (p))), (4, .int (nI (j - 1))), (5, .int (nI (s))), (6, .int (nI (s / 6)))]) (by decide) rfl dX7_sightOf_208 ?_
                                  refine r_goto K 83 dX7_sightOf_211 (by decide) ?_
                                  refine r_pick [5, 6, 7, 8, 9, 10, 11, 2, 1, 0] (lv' := [(0, .ref (ad 71)), (1, .int (nI (b))), (2, .int (nI (n))), (3, .int (nI (p))), (4, .int (nI (j - 1))), (5, .int (nI (s))), (6, .int (nI (s / 6))), (7, .long (lN (seeV T b p (n - j) j (s / 6) m))), (9, .long (lN (seeV T b p (n - j) j (goS T b (s / 6) m (j - 1)) m))), (11, .int (nI (m + 1)))]) rfl ?_
                                  exact ihD _ (by omega) (m + 1) (_) (_) rfl (by omega) (Or.inr h96) (by rw [hlu] at h178; exact mx_take (f := (fun m => seeV T b p (n - j) j (s / 6) m)) h114 h178) (by rw [hwi] at h195; exact mx_take (f := (fun m => seeV T b p (n - j) j (goS T b (s / 6) m (j - 1)) m)) h114 h195)
                    exact lpD _ (0) (0) (0) rfl (by omega) (Or.inl rfl) (rfl) (rfl)
              exact lpC _ (0) (s2) rfl (by omega) (hs2) (hA) (fun k hk => absurd hk (Nat.not_lt_zero k))
        exact lpB _ (n) (s1) rfl (Nat.le_refl _) (hs1) (fun h k h1 h2 hk => by rw [show h = n by omega]; exact h0 k (by omega))
      · refine r_aload_n K 0 rfl rfl dX7_sightOf_11 ?_
        refine get_71_27 K fl_RX7_54 dX7_sightOf_12 ?_
        refine r_sipush K ((nI (966))) (by decide) dX7_sightOf_15 ?_
        refine r_iload_n K 2 rfl rfl dX7_sightOf_18 ?_
        refine r_imul K dX7_sightOf_19 ?_
        refine r_topi (pk_mul _ _) ?_
        refine r_iload K rfl dX7_sightOf_20 ?_
        refine r_iadd K dX7_sightOf_22 ?_
        refine r_topi (nI_add _ _) ?_
        refine r_iload K rfl dX7_sightOf_23 ?_
        refine r_bipush K ((nI (6))) (by decide) dX7_sightOf_25 ?_
        refine r_idiv K (nI_ne0 (by omega) (by omega)) dX7_sightOf_27 ?_
        refine r_topi (pk_div (by omega) (by omega) (by omega)) ?_
        refine r_sipush K ((nI (160))) (by decide) dX7_sightOf_28 ?_
        refine n_icmp_ne K 38 (by omega) (by omega) dX7_sightOf_31 (by decide) (fun h31 => ?_) (fun h31 => ?_)
        · refine r_lconst K (lN 0) rfl dX7_sightOf_38 ?_
          refine r_last K 59 (n := 8694) (by decide) rfl rfl (by decide) (by omega) dX7_sightOf_39 ?_
          refine r_iinc K ((nI (i + 1))) rfl (nI_1 _) (lv' := [(4, .int (nI (i + 1))), (0, .ref (ad 71)), (1, .int (nI (b))), (2, .int (nI (n))), (3, .int (nI (p)))]) (by decide) rfl dX7_sightOf_40 ?_
          refine r_goto K 3 dX7_sightOf_43 (by decide) ?_
          refine r_pick [1, 2, 3, 4, 0] (lv' := [(0, .ref (ad 71)), (1, .int (nI (b))), (2, .int (nI (n))), (3, .int (nI (p))), (4, .int (nI (i + 1)))]) rfl ?_
          exact ihA _ (by omega) (i + 1) ((s1).sJ 59 (vp_updL ((s1).J 59) ((966 * n) + i) ((lN (0))))) rfl (by omega) (same_sJ hs1 (by simp) _) (fun k hk => by rw [sJ_at]; unfold vp_updL; by_cases e : k = i; (rw [if_pos (by omega), e, seX_n (by omega), if_neg h31]); (rw [if_neg (by omega)]; exact h0 k (by omega)))
        · refine r_lconst K (lN 1) rfl dX7_sightOf_34 ?_
          refine r_goto K 39 dX7_sightOf_35 (by decide) ?_
          refine r_last K 59 (n := 8694) (by decide) rfl rfl (by decide) (by omega) dX7_sightOf_39 ?_
          refine r_iinc K ((nI (i + 1))) rfl (nI_1 _) (lv' := [(4, .int (nI (i + 1))), (0, .ref (ad 71)), (1, .int (nI (b))), (2, .int (nI (n))), (3, .int (nI (p)))]) (by decide) rfl dX7_sightOf_40 ?_
          refine r_goto K 3 dX7_sightOf_43 (by decide) ?_
          refine r_pick [1, 2, 3, 4, 0] (lv' := [(0, .ref (ad 71)), (1, .int (nI (b))), (2, .int (nI (n))), (3, .int (nI (p))), (4, .int (nI (i + 1)))]) rfl ?_
          exact ihA _ (by omega) (i + 1) ((s1).sJ 59 (vp_updL ((s1).J 59) ((966 * n) + i) ((lN (1))))) rfl (by omega) (same_sJ hs1 (by simp) _) (fun k hk => by rw [sJ_at]; unfold vp_updL; by_cases e : k = i; (rw [if_pos (by omega), e, seX_n (by omega), if_pos h31]); (rw [if_neg (by omega)]; exact h0 k (by omega)))
  exact lpA _ (0) (σ) rfl (by omega) (same_rf _ _ _ _ _) (fun k hk => absurd hk (Nat.not_lt_zero k))

