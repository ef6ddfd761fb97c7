theorem tb_or : ∀ t, t < 16 → ∀ a, a < 4 → nI t ||| nI (2 ^ a) = nI (if t / 2 ^ a % 2 = 1 then t else t + 2 ^ a) := by decide +kernel
theorem tb_and : ∀ t, t < 16 → ∀ a, a < 4 → nI t &&& (nI (2 ^ a) ^^^ (-1)) = nI (if t / 2 ^ a % 2 = 1 then t - 2 ^ a else t) := by decide +kernel
theorem tbits_set {T T2 : Tv} {b v : Nat} (hb : b < 4) (h : ∀ c, T2 5 c = if c = b then v else T 5 c) : tbits T2 + T 5 b * 2 ^ b = tbits T + v * 2 ^ b := by
  unfold tbits
  rw [h 0, h 1, h 2, h 3]
  rcases (show b = 0 ∨ b = 1 ∨ b = 2 ∨ b = 3 by omega) with rfl | rfl | rfl | rfl <;> simp <;> omega
theorem told_or {T : Tv} {N : Nat → Nat} (hT : TOk T) (h1 : N 1 ≤ 3) : nI (tbits T) ||| nI (2 ^ N 1) = nI (tbits (tellS T 5 N)) := by
  have hb : N 1 < 4 := by omega
  rw [tb_or _ (tbits_lt hT) _ hb, tbits_at hT hb]
  have h := tbits_set (T := T) (T2 := tellS T 5 N) (v := 1) hb (fun c => by unfold tellS; rw [if_neg (by decide), if_neg (by decide), if_neg (by decide), if_pos rfl]; by_cases q : c = N 1; (rw [if_pos q, if_pos q, if_pos rfl]); (rw [if_neg q, if_neg q]))
  have := (hT.2.2.2.2.2.2.1 (N 1)).1
  congr 1
  by_cases q : T 5 (N 1) = 1
  · rw [if_pos q]; rw [q] at h; omega
  · rw [if_neg q]; rw [show T 5 (N 1) = 0 by omega] at h; omega
theorem told_and {T : Tv} {N : Nat → Nat} (hT : TOk T) (h1 : N 1 ≤ 3) : nI (tbits T) &&& (nI (2 ^ N 1) ^^^ (-1)) = nI (tbits (tellS T 6 N)) := by
  have hb : N 1 < 4 := by omega
  rw [tb_and _ (tbits_lt hT) _ hb, tbits_at hT hb]
  have h := tbits_set (T := T) (T2 := tellS T 6 N) (v := 0) hb (fun c => by unfold tellS; rw [if_neg (by decide), if_neg (by decide), if_neg (by decide), if_neg (by decide), if_pos rfl]; by_cases q : c = N 1; (rw [if_pos ⟨rfl, q⟩, if_pos q]); (rw [if_neg (fun z => q z.2), if_neg q]))
  have := (hT.2.2.2.2.2.2.1 (N 1)).1
  congr 1
  by_cases q : T 5 (N 1) = 1
  · rw [if_pos q]; rw [q] at h; omega
  · rw [if_neg q]; rw [show T 5 (N 1) = 0 by omega] at h; omega
theorem tbits_eq {T T2 : Tv} (h : ∀ c, T2 5 c = T 5 c) : tbits T2 = tbits T := by unfold tbits; rw [h, h, h, h]
theorem RepM_dry {T : Tv} {σ : Sg} {N : Nat → Nat} (hR : RepM T σ) : RepM (tellS T 3 N) (σ.sI 13 (nI 0)) := by
  have e : ∀ k i, tellS T 3 N k i = (if k = 10 then 0 else T k i) := fun k i => by unfold tellS; rw [if_neg (by decide), if_pos rfl]
  obtain ⟨h1, h2, h3, h4, h5, h6⟩ := hR
  refine ⟨by rw [sI_at, e, if_pos rfl], by rw [sI_ne _ _ (by decide), e]; simp; exact h2, by rw [sI_ne _ _ (by decide), tbits_eq (T := T) (fun c => by rw [e]; simp)]; exact h3, fun r hr k hk => by rw [e, if_neg (by omega)]; exact h4 r hr k hk, fun j hj => by rw [e, e, if_neg (by decide), if_neg (by decide)]; exact h5 j hj, fun b hb k hk => by rw [e, if_neg (by omega)]; exact h6 b hb k hk⟩
theorem RepM_still {T : Tv} {σ : Sg} {N : Nat → Nat} (hR : RepM T σ) : RepM (tellS T 7 N) (σ.sI 14 (nI (N 1))) := by
  have e : ∀ k i, tellS T 7 N k i = (if k = 11 then N 1 else T k i) := fun k i => by unfold tellS; rw [if_neg (by decide), if_neg (by decide), if_neg (by decide), if_neg (by decide), if_neg (by decide), if_pos rfl]
  obtain ⟨h1, h2, h3, h4, h5, h6⟩ := hR
  refine ⟨by rw [sI_ne _ _ (by decide), e]; simp; exact h1, by rw [sI_at, e, if_pos rfl], by rw [sI_ne _ _ (by decide), tbits_eq (T := T) (fun c => by rw [e]; simp)]; exact h3, fun r hr k hk => by rw [e, if_neg (by omega)]; exact h4 r hr k hk, fun j hj => by rw [e, e, if_neg (by decide), if_neg (by decide)]; exact h5 j hj, fun b hb k hk => by rw [e, if_neg (by omega)]; exact h6 b hb k hk⟩
theorem RepM_sold {T : Tv} {σ : Sg} {N : Nat → Nat} (hT : TOk T) (hR : RepM T σ) (h1 : N 1 ≤ 3) : RepM (tellS T 6 N) (σ.sI 15 (nI (tbits (tellS T 6 N)))) := by
  have e : ∀ k i, tellS T 6 N k i = (if k = 5 ∧ i = N 1 then 0 else T k i) := fun k i => by unfold tellS; rw [if_neg (by decide), if_neg (by decide), if_neg (by decide), if_neg (by decide), if_pos rfl]
  obtain ⟨h1, h2, h3, h4, h5, h6⟩ := hR
  refine ⟨by rw [sI_ne _ _ (by decide), e]; simp; exact h1, by rw [sI_ne _ _ (by decide), e]; simp; exact h2, sI_at _ _ _, fun r hr k hk => by rw [e, if_neg (by omega)]; exact h4 r hr k hk, fun j hj => by rw [e, e, if_neg (by omega), if_neg (by omega)]; exact h5 j hj, fun b hb k hk => by rw [e, if_neg (by omega)]; exact h6 b hb k hk⟩
theorem RepM_reach {T : Tv} {σ : Sg} {w : Nat} {N : Nat → Nat} {f : Nat → Int32} (hR : RepM T σ) (hw : w ≤ 2) (hf : f = upd (upd (upd (σ.A 46) (3 * T 10 0) (nI (N 1))) (3 * T 10 0 + 1) (nI (N 2))) (3 * T 10 0 + 2) (nI w)) : RepM (tellS T w N) ((σ.sA 46 f).sI 13 (nI (T 10 0 + 1))) := by
  subst hf
  have e : ∀ k i, tellS T w N k i = (if k = 10 then T 10 0 + 1 else if i = T 10 0 then (if k = 0 then N 1 else if k = 1 then N 2 else if k = 2 then w else T k i) else T k i) := fun k i => by unfold tellS; rw [if_pos hw]
  obtain ⟨h1, h2, h3, h4, h5, h6⟩ := hR
  refine ⟨by rw [sI_at, e, if_pos rfl], ?_, ?_, fun r hr k hk => ?_, fun j hj => ?_, fun b hb k hk => ?_⟩
  · rw [sI_ne _ _ (by decide), sA_I, e]; simp; exact h2
  · rw [sI_ne _ _ (by decide), sA_I, tbits_eq (T := T) (fun c => by rw [e]; simp)]; exact h3
  · rw [sI_A, sA_at, e, if_neg (by omega)]
    unfold upd
    by_cases q : r = T 10 0
    · rw [if_pos q]
      rcases (show k = 0 ∨ k = 1 ∨ k = 2 by omega) with rfl | rfl | rfl
      · rw [if_neg (by omega), if_neg (by omega), if_pos (by omega), if_pos rfl]
      · rw [if_neg (by omega), if_pos (by omega), if_neg (by decide), if_pos rfl]
      · rw [if_pos (by omega), if_neg (by decide), if_neg (by decide), if_pos rfl]
    · rw [if_neg q, if_neg (by omega), if_neg (by omega), if_neg (by omega)]
      exact h4 r hr k hk
  · rw [sI_A, sA_A, if_neg (by decide), e, e]; simp; exact h5 j hj
  · have e6 : tellS T w N (6 + k) b = T (6 + k) b := by
      rw [e, if_neg (show ¬ 6 + k = 10 by omega)]
      by_cases q : b = T 10 0
      · rw [if_pos q, if_neg (show ¬ 6 + k = 0 by omega), if_neg (show ¬ 6 + k = 1 by omega), if_neg (show ¬ 6 + k = 2 by omega)]
      · rw [if_neg q]
    rw [sI_A, sA_A, if_neg (by decide), e6]
    exact h6 b hb k hk
def windM (T : Tv) (N : Nat → Nat) (h : Nat) (σ s : Sg) : Prop := same [47] [] [] false σ s ∧ ∀ j, j < 144 → s.A 47 (2 * j) = nI (if 24 * N 1 + N 2 ≤ j ∧ j < 24 * N 1 + h then N 4 else T 3 j) ∧ s.A 47 (2 * j + 1) = nI (if 24 * N 1 + N 2 ≤ j ∧ j < 24 * N 1 + h then N 5 else T 4 j)
theorem windM_0 {T : Tv} {N : Nat → Nat} {σ : Sg} (hR : RepM T σ) : windM T N (N 2) σ σ := ⟨same_rf _ _ _ _ _, fun j hj => by rw [if_neg (by omega), if_neg (by omega)]; exact hR.2.2.2.2.1 j hj⟩
theorem windM_s {T : Tv} {N : Nat → Nat} {h : Nat} {σ s : Sg} {f : Nat → Int32} (hI : windM T N h σ s) (hh : N 2 ≤ h) (hf : f = upd (upd (s.A 47) (48 * N 1 + 2 * h) (nI (N 4))) (48 * N 1 + 2 * h + 1) (nI (N 5))) : windM T N (h + 1) σ (s.sA 47 f) := by
  subst hf
  refine ⟨same_sA hI.1 (by simp) _, fun j hj => ?_⟩
  obtain ⟨a1, a2⟩ := hI.2 j hj
  rw [sA_at]
  unfold upd
  by_cases q : j = 24 * N 1 + h
  · refine ⟨?_, ?_⟩
    · rw [if_neg (show ¬ 2 * j = 48 * N 1 + 2 * h + 1 by omega), if_pos (show 2 * j = 48 * N 1 + 2 * h by omega), if_pos (show 24 * N 1 + N 2 ≤ j ∧ j < 24 * N 1 + (h + 1) by omega)]
    · rw [if_pos (show 2 * j + 1 = 48 * N 1 + 2 * h + 1 by omega), if_pos (show 24 * N 1 + N 2 ≤ j ∧ j < 24 * N 1 + (h + 1) by omega)]
  · have hz : (24 * N 1 + N 2 ≤ j ∧ j < 24 * N 1 + (h + 1)) = (24 * N 1 + N 2 ≤ j ∧ j < 24 * N 1 + h) := propext ⟨fun z => by omega, fun z => by omega⟩
    simp only [hz]
    rw [← a1, ← a2]
    refine ⟨?_, ?_⟩
    · rw [if_neg (show ¬ 2 * j = 48 * N 1 + 2 * h + 1 by omega), if_neg (show ¬ 2 * j = 48 * N 1 + 2 * h by omega)]
    · rw [if_neg (show ¬ 2 * j + 1 = 48 * N 1 + 2 * h + 1 by omega), if_neg (show ¬ 2 * j + 1 = 48 * N 1 + 2 * h by omega)]
theorem windM_end {T : Tv} {N : Nat → Nat} {σ s : Sg} (hR : RepM T σ) (hI : windM T N (N 3 + 1) σ s) : RepM (tellS T 4 N) s := by
  have e : ∀ k i, tellS T 4 N k i = (if 24 * N 1 + N 2 ≤ i ∧ i ≤ 24 * N 1 + N 3 then (if k = 3 then N 4 else if k = 4 then N 5 else T k i) else T k i) := fun k i => by unfold tellS; rw [if_neg (by decide), if_neg (by decide), if_pos rfl]
  obtain ⟨h1, h2, h3, h4, h5, h6⟩ := hR
  refine ⟨by rw [hI.1.2.1 13 (by simp), e]; simp; exact h1, by rw [hI.1.2.1 14 (by simp), e]; simp; exact h2, by rw [hI.1.2.1 15 (by simp), tbits_eq (T := T) (fun c => by rw [e]; simp)]; exact h3, fun r hr k hk => ?_, fun j hj => ?_, fun b hb k hk => ?_⟩
  · have e4 : tellS T 4 N k r = T k r := by rw [e, if_neg (show ¬ k = 3 by omega), if_neg (show ¬ k = 4 by omega), ite_self]
    rw [hI.1.1 46 (by simp), e4]; exact h4 r hr k hk
  · obtain ⟨a1, a2⟩ := hI.2 j hj
    have hle : (24 * N 1 + N 2 ≤ j ∧ j < 24 * N 1 + (N 3 + 1)) = (24 * N 1 + N 2 ≤ j ∧ j ≤ 24 * N 1 + N 3) := propext ⟨fun z => by omega, fun z => by omega⟩
    rw [a1, a2, e, e]
    simp only [hle, if_true, if_neg (show ¬ (4 : Nat) = 3 by decide)]
    exact ⟨trivial, trivial⟩
  · have e4 : tellS T 4 N (6 + k) b = T (6 + k) b := by rw [e, if_neg (show ¬ 6 + k = 3 by omega), if_neg (show ¬ 6 + k = 4 by omega), ite_self]
    rw [hI.1.1 48 (by simp), e4]; exact h6 b hb k hk
def brgM (T : Tv) (N : Nat → Nat) (i : Nat) (σ s : Sg) : Prop := same [48] [15] [] false σ s ∧ s.I 15 = nI (tbits (tellS T 5 N)) ∧ ∀ b, b < 4 → ∀ k, k < 4 → s.A 48 (4 * b + k) = nI (if b = N 1 ∧ k < i then N (k + 2) else T (6 + k) b)
theorem brgM_s {T : Tv} {N : Nat → Nat} {i : Nat} {σ s : Sg} (hI : brgM T N i σ s) (hi : i < 4) : brgM T N (i + 1) σ (s.sA 48 (upd (s.A 48) (4 * N 1 + i) (nI (N (i + 2))))) := by
  refine ⟨same_sA hI.1 (by simp) _, hI.2.1, fun b hb k hk => ?_⟩
  rw [sA_at]
  unfold upd
  by_cases q : b = N 1 ∧ k = i
  · obtain ⟨q1, q2⟩ := q
    subst q2
    rw [if_pos (by omega), if_pos ⟨q1, by omega⟩]
  · rw [if_neg (by omega), hI.2.2 b hb k hk]
    by_cases z : b = N 1 ∧ k < i
    · rw [if_pos z, if_pos ⟨z.1, by omega⟩]
    · rw [if_neg z, if_neg (by omega)]
theorem brgM_end {T : Tv} {N : Nat → Nat} {σ s : Sg} (hR : RepM T σ) (hI : brgM T N 4 σ s) : RepM (tellS T 5 N) s := by
  have e : ∀ k i, tellS T 5 N k i = (if i = N 1 then (if k = 5 then 1 else if k = 6 then N 2 else if k = 7 then N 3 else if k = 8 then N 4 else if k = 9 then N 5 else T k i) else T k i) := fun k i => by unfold tellS; rw [if_neg (by decide), if_neg (by decide), if_neg (by decide), if_pos rfl]
  obtain ⟨h1, h2, h3, h4, h5, h6⟩ := hR
  refine ⟨by rw [hI.1.2.1 13 (by simp), e]; simp; exact h1, by rw [hI.1.2.1 14 (by simp), e]; simp; exact h2, hI.2.1, fun r hr k hk => ?_, fun j hj => ?_, fun b hb k hk => ?_⟩
  · have e4 : tellS T 5 N k r = T k r := by rw [e, if_neg (show ¬ k = 5 by omega), if_neg (show ¬ k = 6 by omega), if_neg (show ¬ k = 7 by omega), if_neg (show ¬ k = 8 by omega), if_neg (show ¬ k = 9 by omega), ite_self]
    rw [hI.1.1 46 (by simp), e4]; exact h4 r hr k hk
  · rw [hI.1.1 47 (by simp), e, e]; simp; exact h5 j hj
  · rw [hI.2.2 b hb k hk, e]
    by_cases q : b = N 1
    · rw [if_pos ⟨q, hk⟩, if_pos q]
      rcases (show k = 0 ∨ k = 1 ∨ k = 2 ∨ k = 3 by omega) with rfl | rfl | rfl | rfl <;> simp
    · rw [if_neg (fun z => q z.1), if_neg q]
set_option maxHeartbeats 2000000 in
set_option maxRecDepth 10000 in
theorem m_doLine {g : Gp} {lau : Launch} {ad : Nat → Nat} {σ : Sg} {T : Tv} (hT : TOk T) (hR : RepM T σ) {N : Nat → Nat} {w wh : Nat} (hwh : wh ≤ 42) (hO : NOk T w N) (hw0 : σ.A 50 wh = nI w) (hN : ∀ j, j < needS w → σ.A 50 (wh + (j + 1)) = nI (N (j + 1))) : Con g lau yX7_doLine cX7_doLine 4 (Option.none : Option Jvm.ClassFile.FieldType) 0 0 [.ref (ad 71), .int (nI (wh))] ad σ (fun r a2 s2 => none = r ∧ ad = a2 ∧ same [46, 47, 48] [13, 14, 15] [] false σ s2 ∧ RepM (tellS T w N) s2) := by
  refine con_mk (by decide) (Nat.le_of_ble_eq_true rfl) (fun x hxl K hr => ?_)
  subst hxl
  refine r_lv (lv' := [(0, .ref (ad 71)), (1, .int (nI (wh)))]) rfl ?_
  have hw7 := hO.2.2.2.2.2
  have htb := tbits_lt hT
  refine r_aload_n K 0 rfl rfl dX7_doLine_0 ?_
  refine get_71_16 K fl_RX7_26 dX7_doLine_1 ?_
  refine r_iload_n K 1 rfl rfl dX7_doLine_4 ?_
  refine r_iconst K ((nI (1))) (by decide) dX7_doLine_5 ?_
  refine r_iadd K dX7_doLine_6 ?_
  refine r_topi (nI_add _ _) ?_
  refine r_iald K 50 (n := 48) (by decide) rfl rfl (by decide) (by omega) dX7_doLine_7 ?_
  refine r_istore_n K (lv' := [(2, .int (σ.A 50 (wh + 1))), (0, .ref (ad 71)), (1, .int (nI (wh)))]) 2 rfl (by decide) rfl dX7_doLine_8 ?_
  refine r_aload_n K 0 rfl rfl dX7_doLine_9 ?_
  refine get_71_16 K fl_RX7_26 dX7_doLine_10 ?_
  refine r_iload_n K 1 rfl rfl dX7_doLine_13 ?_
  refine r_iald K 50 (n := 48) (by decide) rfl rfl (by decide) (by omega) dX7_doLine_14 ?_
  refine r_topi (b := (nI (w))) (hw0) ?_
  by_cases q15_3 : w = 3
  · refine r_topi (b := nI 3) (by rw [q15_3]) ?_
    refine r_tableIn K 48 dX7_doLine_15 (by decide) (by decide) rfl (by decide) ?_
    refine r_aload_n K 0 rfl rfl dX7_doLine_48 ?_
    refine r_iconst K ((nI (0))) (by decide) dX7_doLine_49 ?_
    refine put_71_0 K fl_RX7_160 dX7_doLine_50 ?_
    refine r_goto K 265 dX7_doLine_53 (by decide) ?_
    exact r_vret K hr (⟨rfl, rfl, same_sI (same_rf _ _ _ _ _) (by simp) _, by rw [q15_3]; exact RepM_dry hR⟩) dX7_doLine_265
  · by_cases q15_4 : w = 4
    · refine r_topi (b := nI 4) (by rw [q15_4]) ?_
      refine r_tableIn K 56 dX7_doLine_15 (by decide) (by decide) rfl (by decide) ?_
      refine r_lv (lv' := [(2, .int (nI (N 1))), (0, .ref (ad 71)), (1, .int (nI (wh)))]) (by rw [show σ.A 50 (wh + 1) = nI (N 1) from hN 0 (need_lt (by omega))]) ?_
      have hb4 := hO.2.1 (by omega)
      refine r_aload_n K 0 rfl rfl dX7_doLine_56 ?_
      refine get_71_16 K fl_RX7_26 dX7_doLine_57 ?_
      refine r_iload_n K 1 rfl rfl dX7_doLine_60 ?_
      refine r_iconst K ((nI (2))) (by decide) dX7_doLine_61 ?_
      refine r_iadd K dX7_doLine_62 ?_
      refine r_topi (nI_add _ _) ?_
      refine r_iald K 50 (n := 48) (by decide) rfl rfl (by decide) (by omega) dX7_doLine_63 ?_
      refine r_topi (b := (nI (N 2))) (show σ.A 50 (wh + 2) = _ from hN 1 (need_lt (by omega))) ?_
      refine r_istore_n K (lv' := [(3, .int (nI (N 2))), (2, .int (nI (N 1))), (0, .ref (ad 71)), (1, .int (nI (wh)))]) 3 rfl (by decide) rfl dX7_doLine_64 ?_
      refine r_pick [2, 3, 1, 0] (lv' := [(0, .ref (ad 71)), (1, .int (nI (wh))), (2, .int (nI (N 1))), (3, .int (nI (N 2)))]) rfl ?_
      have lpA : ∀ (mm_ : Nat) (h : Nat) (s1 : Sg), mm_ = N 3 + 1 - h → (N 2 ≤ h ∧ h ≤ N 3 + 1) → (windM T N h σ s1) → GJ g x 4 65 [(0, .ref (ad 71)), (1, .int (nI (wh))), (2, .int (nI (N 1))), (3, .int (nI (h)))] [] ad (s1) := by
        intro mm_
        induction mm_ using Nat.strongRecOn with
        | _ mm_ ihA =>
          intro h s1 hmA hh hI
          refine r_iload_n K 3 rfl rfl dX7_doLine_65 ?_
          refine r_aload_n K 0 rfl rfl dX7_doLine_66 ?_
          refine get_71_16 K fl_RX7_26 dX7_doLine_67 ?_
          refine r_iload_n K 1 rfl rfl dX7_doLine_70 ?_
          refine r_iconst K ((nI (3))) (by decide) dX7_doLine_71 ?_
          refine r_iadd K dX7_doLine_72 ?_
          refine r_topi (nI_add _ _) ?_
          refine r_iald K 50 (n := 48) (by decide) rfl rfl (by decide) (by omega) dX7_doLine_73 ?_
          refine r_topi (b := (nI (N 3))) (by rw [hI.1.1 50 (by simp)]; exact hN 2 (need_lt (by omega))) ?_
          refine n_icmp_gt K 127 (by omega) (by omega) dX7_doLine_74 (by decide) (fun h74 => ?_) (fun h74 => ?_)
          · refine r_goto K 265 dX7_doLine_127 (by decide) ?_
            exact r_vret K hr (⟨rfl, rfl, same_w hI.1 (by simp) (by simp) (by simp) id, by rw [q15_4]; exact windM_end hR ((show h = N 3 + 1 by omega) ▸ hI)⟩) dX7_doLine_265
          · refine r_aload_n K 0 rfl rfl dX7_doLine_77 ?_
            refine get_71_2 K fl_RX7_13 dX7_doLine_78 ?_
            refine r_bipush K ((nI (48))) (by decide) dX7_doLine_81 ?_
            refine r_iload_n K 2 rfl rfl dX7_doLine_83 ?_
            refine r_imul K dX7_doLine_84 ?_
            refine r_topi (pk_mul _ _) ?_
            refine r_iconst K ((nI (2))) (by decide) dX7_doLine_85 ?_
            refine r_iload_n K 3 rfl rfl dX7_doLine_86 ?_
            refine r_imul K dX7_doLine_87 ?_
            refine r_topi (pk_mul _ _) ?_
            refine r_iadd K dX7_doLine_88 ?_
            refine r_topi (nI_add _ _) ?_
            refine r_aload_n K 0 rfl rfl dX7_doLine_89 ?_
            refine get_71_16 K fl_RX7_26 dX7_doLine_90 ?_
            refine r_iload_n K 1 rfl rfl dX7_doLine_93 ?_
            refine r_iconst K ((nI (4))) (by decide) dX7_doLine_94 ?_
            refine r_iadd K dX7_doLine_95 ?_
            refine r_topi (nI_add _ _) ?_
            refine r_iald K 50 (n := 48) (by decide) rfl rfl (by decide) (by omega) dX7_doLine_96 ?_
            refine r_topi (b := (nI (N 4))) (by rw [hI.1.1 50 (by simp)]; exact hN 3 (need_lt (by omega))) ?_
            refine r_iast K 47 (n := 288) (by decide) rfl rfl (by decide) (by omega) dX7_doLine_97 ?_
            refine r_aload_n K 0 rfl rfl dX7_doLine_98 ?_
            refine get_71_2 K fl_RX7_13 dX7_doLine_99 ?_
            refine r_bipush K ((nI (48))) (by decide) dX7_doLine_102 ?_
            refine r_iload_n K 2 rfl rfl dX7_doLine_104 ?_
            refine r_imul K dX7_doLine_105 ?_
            refine r_topi (pk_mul _ _) ?_
            refine r_iconst K ((nI (2))) (by decide) dX7_doLine_106 ?_
            refine r_iload_n K 3 rfl rfl dX7_doLine_107 ?_
            refine r_imul K dX7_doLine_108 ?_
            refine r_topi (pk_mul _ _) ?_
            refine r_iadd K dX7_doLine_109 ?_
            refine r_topi (nI_add _ _) ?_
            refine r_iconst K ((nI (1))) (by decide) dX7_doLine_110 ?_
            refine r_iadd K dX7_doLine_111 ?_
            refine r_topi (nI_add _ _) ?_
            refine r_aload_n K 0 rfl rfl dX7_doLine_112 ?_
            refine get_71_16 K fl_RX7_26 dX7_doLine_113 ?_
            refine r_iload_n K 1 rfl rfl dX7_doLine_116 ?_
            refine r_iconst K ((nI (5))) (by decide) dX7_doLine_117 ?_
            refine r_iadd K dX7_doLine_118 ?_
            refine r_topi (nI_add _ _) ?_
            refine r_iald K 50 (n := 48) (by decide) rfl rfl (by decide) (by omega) dX7_doLine_119 ?_
            refine r_topi (b := s1.A 50 (wh + 5)) rfl ?_
            refine r_topi (b := (nI (N 5))) (by rw [hI.1.1 50 (by simp)]; exact hN 4 (need_lt (by omega))) ?_
            refine r_iast K 47 (n := 288) (by decide) rfl rfl (by decide) (by omega) dX7_doLine_120 ?_
            refine r_iinc K ((nI (h + 1))) rfl (nI_1 _) (lv' := [(3, .int (nI (h + 1))), (0, .ref (ad 71)), (1, .int (nI (wh))), (2, .int (nI (N 1)))]) (by decide) rfl dX7_doLine_121 ?_
            refine r_goto K 65 dX7_doLine_124 (by decide) ?_
            refine r_pick [1, 2, 3, 0] (lv' := [(0, .ref (ad 71)), (1, .int (nI (wh))), (2, .int (nI (N 1))), (3, .int (nI (h + 1)))]) rfl ?_
            exact ihA _ (by omega) (h + 1) (((s1).sA 47 (upd ((s1).A 47) ((48 * (N 1)) + (2 * h)) ((nI (N 4))))).sA 47 (upd (((s1).sA 47 (upd ((s1).A 47) ((48 * (N 1)) + (2 * h)) ((nI (N 4))))).A 47) (((48 * (N 1)) + (2 * h)) + 1) ((nI (N 5))))) rfl (by omega) (by rw [sA_sA, sA_at]; exact windM_s hI hh.1 rfl)
      exact lpA _ (N 2) (σ) rfl (by omega) (windM_0 hR)
    · by_cases q15_5 : w = 5
      · refine r_topi (b := nI 5) (by rw [q15_5]) ?_
        refine r_tableIn K 130 dX7_doLine_15 (by decide) (by decide) rfl (by decide) ?_
        refine r_lv (lv' := [(2, .int (nI (N 1))), (0, .ref (ad 71)), (1, .int (nI (wh)))]) (by rw [show σ.A 50 (wh + 1) = nI (N 1) from hN 0 (need_lt (by omega))]) ?_
        have hb5 := (hO.2.2.1 (by omega)).1
        refine r_aload_n K 0 rfl rfl dX7_doLine_130 ?_
        refine r_aload_n K 0 rfl rfl dX7_doLine_131 ?_
        refine get_71_4 K fl_RX7_65 dX7_doLine_132 ?_
        refine r_topi (b := (nI (tbits T))) (hR.2.2.1) ?_
        refine r_iconst K ((nI (1))) (by decide) dX7_doLine_135 ?_
        refine r_iload_n K 2 rfl rfl dX7_doLine_136 ?_
        refine r_ishl K dX7_doLine_137 ?_
        refine r_topi (b := (nI (2 ^ N 1))) (nI_shl1 (by omega)) ?_
        refine r_ior K dX7_doLine_138 ?_
        refine r_topi (b := (nI (tbits (tellS T 5 N)))) (told_or hT hb5) ?_
        refine put_71_4 K fl_RX7_65 dX7_doLine_139 ?_
        refine r_iconst K ((nI (0))) (by decide) dX7_doLine_142 ?_
        refine r_istore_n K (lv' := [(3, .int (nI (0))), (2, .int (nI (N 1))), (0, .ref (ad 71)), (1, .int (nI (wh)))]) 3 rfl (by decide) rfl dX7_doLine_143 ?_
        refine r_pick [2, 3, 1, 0] (lv' := [(0, .ref (ad 71)), (1, .int (nI (wh))), (2, .int (nI (N 1))), (3, .int (nI (0)))]) rfl ?_
        have lpB : ∀ (mm_ : Nat) (i : Nat) (s1 : Sg), mm_ = 4 - i → (i ≤ 4) → (brgM T N i σ s1) → GJ g x 4 144 [(0, .ref (ad 71)), (1, .int (nI (wh))), (2, .int (nI (N 1))), (3, .int (nI (i)))] [] ad (s1) := by
          intro mm_
          induction mm_ using Nat.strongRecOn with
          | _ mm_ ihB =>
            intro i s1 hmB hi hI
            refine r_iload_n K 3 rfl rfl dX7_doLine_144 ?_
            refine r_iconst K ((nI (4))) (by decide) dX7_doLine_145 ?_
            refine n_icmp_ge K 175 (by omega) (by omega) dX7_doLine_146 (by decide) (fun h146 => ?_) (fun h146 => ?_)
            · refine r_goto K 265 dX7_doLine_175 (by decide) ?_
              exact r_vret K hr (⟨rfl, rfl, same_w hI.1 (by simp) (by simp) (by simp) id, by rw [q15_5]; exact brgM_end hR ((show i = 4 by omega) ▸ hI)⟩) dX7_doLine_265
            · refine r_aload_n K 0 rfl rfl dX7_doLine_149 ?_
              refine get_71_5 K fl_RX7_20 dX7_doLine_150 ?_
              refine r_iconst K ((nI (4))) (by decide) dX7_doLine_153 ?_
              refine r_iload_n K 2 rfl rfl dX7_doLine_154 ?_
              refine r_imul K dX7_doLine_155 ?_
              refine r_topi (pk_mul _ _) ?_
              refine r_iload_n K 3 rfl rfl dX7_doLine_156 ?_
              refine r_iadd K dX7_doLine_157 ?_
              refine r_topi (nI_add _ _) ?_
              refine r_aload_n K 0 rfl rfl dX7_doLine_158 ?_
              refine get_71_16 K fl_RX7_26 dX7_doLine_159 ?_
              refine r_iload_n K 1 rfl rfl dX7_doLine_162 ?_
              refine r_iconst K ((nI (2))) (by decide) dX7_doLine_163 ?_
              refine r_iadd K dX7_doLine_164 ?_
              refine r_topi (nI_add _ _) ?_
              refine r_iload_n K 3 rfl rfl dX7_doLine_165 ?_
              refine r_iadd K dX7_doLine_166 ?_
              refine r_topi (nI_add _ _) ?_
              refine r_iald K 50 (n := 48) (by decide) rfl rfl (by decide) (by omega) dX7_doLine_167 ?_
              refine r_topi (b := (nI (N (i + 2)))) (by rw [hI.1.1 50 (by simp), show wh + 2 + i = wh + (i + 1 + 1) by omega]; exact hN (i + 1) (need_lt (by omega))) ?_
              refine r_iast K 48 (n := 16) (by decide) rfl rfl (by decide) (by omega) dX7_doLine_168 ?_
              refine r_iinc K ((nI (i + 1))) rfl (nI_1 _) (lv' := [(3, .int (nI (i + 1))), (0, .ref (ad 71)), (1, .int (nI (wh))), (2, .int (nI (N 1)))]) (by decide) rfl dX7_doLine_169 ?_
              refine r_goto K 144 dX7_doLine_172 (by decide) ?_
              refine r_pick [1, 2, 3, 0] (lv' := [(0, .ref (ad 71)), (1, .int (nI (wh))), (2, .int (nI (N 1))), (3, .int (nI (i + 1)))]) rfl ?_
              exact ihB _ (by omega) (i + 1) ((s1).sA 48 (upd ((s1).A 48) ((4 * (N 1)) + i) ((nI (N (i + 2)))))) rfl (by omega) (brgM_s hI (by omega))
        exact lpB _ (0) ((σ).sI 15 ((nI (tbits (tellS T 5 N))))) rfl (by omega) (⟨same_sI (same_rf _ _ _ _ _) (by simp) _, sI_at _ _ _, fun b hb k hk => by rw [if_neg (by omega)]; exact hR.2.2.2.2.2 b hb k hk⟩)
      · by_cases q15_6 : w = 6
        · refine r_topi (b := nI 6) (by rw [q15_6]) ?_
          refine r_tableIn K 178 dX7_doLine_15 (by decide) (by decide) rfl (by decide) ?_
          refine r_lv (lv' := [(2, .int (nI (N 1))), (0, .ref (ad 71)), (1, .int (nI (wh)))]) (by rw [show σ.A 50 (wh + 1) = nI (N 1) from hN 0 (need_lt (by omega))]) ?_
          have hb6 := hO.2.2.2.1 (by omega)
          refine r_aload_n K 0 rfl rfl dX7_doLine_178 ?_
          refine r_aload_n K 0 rfl rfl dX7_doLine_179 ?_
          refine get_71_4 K fl_RX7_65 dX7_doLine_180 ?_
          refine r_topi (b := (nI (tbits T))) (hR.2.2.1) ?_
          refine r_iconst K ((nI (1))) (by decide) dX7_doLine_183 ?_
          refine r_iload_n K 2 rfl rfl dX7_doLine_184 ?_
          refine r_ishl K dX7_doLine_185 ?_
          refine r_topi (b := (nI (2 ^ N 1))) (nI_shl1 (by omega)) ?_
          refine r_iconst K ((-1)) (by decide) dX7_doLine_186 ?_
          refine r_ixor K dX7_doLine_187 ?_
          refine r_iand K dX7_doLine_188 ?_
          refine r_topi (b := (nI (tbits (tellS T 6 N)))) (told_and hT hb6) ?_
          refine put_71_4 K fl_RX7_65 dX7_doLine_189 ?_
          refine r_goto K 265 dX7_doLine_192 (by decide) ?_
          exact r_vret K hr (⟨rfl, rfl, same_sI (same_rf _ _ _ _ _) (by simp) _, by rw [q15_6]; exact RepM_sold hT hR hb6⟩) dX7_doLine_265
        · by_cases q15_7 : w = 7
          · refine r_topi (b := nI 7) (by rw [q15_7]) ?_
            refine r_tableIn K 195 dX7_doLine_15 (by decide) (by decide) rfl (by decide) ?_
            refine r_lv (lv' := [(2, .int (nI (N 1))), (0, .ref (ad 71)), (1, .int (nI (wh)))]) (by rw [show σ.A 50 (wh + 1) = nI (N 1) from hN 0 (need_lt (by omega))]) ?_
            refine r_aload_n K 0 rfl rfl dX7_doLine_195 ?_
            refine r_iload_n K 2 rfl rfl dX7_doLine_196 ?_
            refine put_71_3 K fl_RX7_16 dX7_doLine_197 ?_
            refine r_goto K 265 dX7_doLine_200 (by decide) ?_
            exact r_vret K hr (⟨rfl, rfl, same_sI (same_rf _ _ _ _ _) (by simp) _, by rw [q15_7]; exact RepM_still hR⟩) dX7_doLine_265
          · refine r_tableOut K 203 dX7_doLine_15 (by rw [nI_toInt (by omega)]; omega) (by decide) ?_
            refine r_lv (lv' := [(2, .int (nI (N 1))), (0, .ref (ad 71)), (1, .int (nI (wh)))]) (by rw [show σ.A 50 (wh + 1) = nI (N 1) from hN 0 (need_lt (by omega))]) ?_
            have hb0 := hO.1 (by omega)
            have hn8 := hT.2.1
            refine r_aload_n K 0 rfl rfl dX7_doLine_203 ?_
            refine get_71_1 K fl_RX7_7 dX7_doLine_204 ?_
            refine r_iconst K ((nI (3))) (by decide) dX7_doLine_207 ?_
            refine r_aload_n K 0 rfl rfl dX7_doLine_208 ?_
            refine get_71_0 K fl_RX7_160 dX7_doLine_209 ?_
            refine r_topi (b := (nI (T 10 0))) (hR.1) ?_
            refine r_imul K dX7_doLine_212 ?_
            refine r_topi (pk_mul _ _) ?_
            refine r_iload_n K 2 rfl rfl dX7_doLine_213 ?_
            refine r_iast K 46 (n := 24) (by decide) rfl rfl (by decide) (by omega) dX7_doLine_214 ?_
            refine r_aload_n K 0 rfl rfl dX7_doLine_215 ?_
            refine get_71_1 K fl_RX7_7 dX7_doLine_216 ?_
            refine r_iconst K ((nI (3))) (by decide) dX7_doLine_219 ?_
            refine r_aload_n K 0 rfl rfl dX7_doLine_220 ?_
            refine get_71_0 K fl_RX7_160 dX7_doLine_221 ?_
            refine r_topi (b := σ.I 13) rfl ?_
            refine r_topi (b := (nI (T 10 0))) (hR.1) ?_
            refine r_imul K dX7_doLine_224 ?_
            refine r_topi (pk_mul _ _) ?_
            refine r_iconst K ((nI (1))) (by decide) dX7_doLine_225 ?_
            refine r_iadd K dX7_doLine_226 ?_
            refine r_topi (nI_add _ _) ?_
            refine r_aload_n K 0 rfl rfl dX7_doLine_227 ?_
            refine get_71_16 K fl_RX7_26 dX7_doLine_228 ?_
            refine r_iload_n K 1 rfl rfl dX7_doLine_231 ?_
            refine r_iconst K ((nI (2))) (by decide) dX7_doLine_232 ?_
            refine r_iadd K dX7_doLine_233 ?_
            refine r_topi (nI_add _ _) ?_
            refine r_iald K 50 (n := 48) (by decide) rfl rfl (by decide) (by omega) dX7_doLine_234 ?_
            refine r_topi (b := σ.A 50 (wh + 2)) rfl ?_
            refine r_topi (b := (nI (N 2))) (show σ.A 50 (wh + 2) = _ from hN 1 (need_lt (by omega))) ?_
            refine r_iast K 46 (n := 24) (by decide) rfl rfl (by decide) (by omega) dX7_doLine_235 ?_
            refine r_aload_n K 0 rfl rfl dX7_doLine_236 ?_
            refine get_71_1 K fl_RX7_7 dX7_doLine_237 ?_
            refine r_iconst K ((nI (3))) (by decide) dX7_doLine_240 ?_
            refine r_aload_n K 0 rfl rfl dX7_doLine_241 ?_
            refine get_71_0 K fl_RX7_160 dX7_doLine_242 ?_
            refine r_topi (b := σ.I 13) rfl ?_
            refine r_topi (b := (nI (T 10 0))) (hR.1) ?_
            refine r_imul K dX7_doLine_245 ?_
            refine r_topi (pk_mul _ _) ?_
            refine r_iconst K ((nI (2))) (by decide) dX7_doLine_246 ?_
            refine r_iadd K dX7_doLine_247 ?_
            refine r_topi (nI_add _ _) ?_
            refine r_aload_n K 0 rfl rfl dX7_doLine_248 ?_
            refine get_71_16 K fl_RX7_26 dX7_doLine_249 ?_
            refine r_iload_n K 1 rfl rfl dX7_doLine_252 ?_
            refine r_iald K 50 (n := 48) (by decide) rfl rfl (by decide) (by omega) dX7_doLine_253 ?_
            refine r_topi (b := σ.A 50 (wh)) rfl ?_
            refine r_topi (b := (nI (w))) (hw0) ?_
            refine r_iast K 46 (n := 24) (by decide) rfl rfl (by decide) (by omega) dX7_doLine_254 ?_
            refine r_aload_n K 0 rfl rfl dX7_doLine_255 ?_
            refine r_dup K rfl dX7_doLine_256 ?_
            refine get_71_0 K fl_RX7_160 dX7_doLine_257 ?_
            refine r_topi (b := σ.I 13) rfl ?_
            refine r_topi (b := (nI (T 10 0))) (hR.1) ?_
            refine r_iconst K ((nI (1))) (by decide) dX7_doLine_260 ?_
            refine r_iadd K dX7_doLine_261 ?_
            refine r_topi (nI_add _ _) ?_
            refine put_71_0 K fl_RX7_160 dX7_doLine_262 ?_
            exact r_vret K hr (⟨rfl, rfl, same_sI (same_sA (same_sA (same_sA (same_rf _ _ _ _ _) (by simp) _) (by simp) _) (by simp) _) (by simp) _, by rw [sA_sA, sA_sA]; exact RepM_reach hR (by omega) (by rw [sA_at, sA_at])⟩) dX7_doLine_265

