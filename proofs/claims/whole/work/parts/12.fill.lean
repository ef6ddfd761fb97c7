set_option maxRecDepth 40000 in
theorem ml_RX0_37 : Cond.methodLink RX0 37 arraycopyName ∈ gtb := gmem 518 rfl rfl
/-- one value, a known world -/
def ex (v : Option Value) (ad : Nat → Nat) (σ : Sg) : Option Value → (Nat → Nat) → Sg → Prop := fun r a2 s2 => v = r ∧ ad = a2 ∧ σ = s2
theorem sA_sA (σ : Sg) (q : Nat) (f f2 : Nat → Int32) : (σ.sA q f).sA q f2 = σ.sA q f2 := by
  unfold Sg.sA Sg.A
  congr 2
  funext j
  by_cases h : j = q
  · simp [h]
  · simp [h]
theorem sJ_sJ (σ : Sg) (q : Nat) (f f2 : Nat → Int64) : (σ.sJ q f).sJ q f2 = σ.sJ q f2 := by
  unfold Sg.sJ Sg.J
  congr 3
  funext j
  by_cases h : j = q
  · simp [h]
  · simp [h]
theorem sA_id (σ : Sg) (q : Nat) : σ.sA q (σ.A q) = σ := by
  unfold Sg.sA Sg.A
  congr 2
  funext j
  by_cases h : j = q
  · simp [h]
  · simp [h]
theorem sJ_id (σ : Sg) (q : Nat) : σ.sJ q (σ.J q) = σ := by
  unfold Sg.sJ Sg.J
  congr 3
  funext j
  by_cases h : j = q
  · simp [h]
  · simp [h]
def fillA (f : Nat → Int32) (v : Int32) (n : Nat) : Nat → Int32 := fun j => if j < n then v else f j
def fillJ (f : Nat → Int64) (v : Int64) (n : Nat) : Nat → Int64 := fun j => if j < n then v else f j
theorem fillA_0 (f : Nat → Int32) (v : Int32) : fillA f v 0 = f := by funext j; simp [fillA]
theorem fillJ_0 (f : Nat → Int64) (v : Int64) : fillJ f v 0 = f := by funext j; simp [fillJ]
theorem fillA_s (f : Nat → Int32) (v : Int32) (i : Nat) : upd (fillA f v i) i v = fillA f v (i + 1) := by
  funext j
  unfold upd fillA
  by_cases h : j = i
  · rw [if_pos h, if_pos (by omega)]
  · rw [if_neg h]
    by_cases h2 : j < i
    · rw [if_pos h2, if_pos (by omega)]
    · rw [if_neg h2, if_neg (by omega)]
theorem fillJ_s (f : Nat → Int64) (v : Int64) (i : Nat) : vp_updL (fillJ f v i) i v = fillJ f v (i + 1) := by
  funext j
  unfold vp_updL fillJ
  by_cases h : j = i
  · rw [if_pos h, if_pos (by omega)]
  · rw [if_neg h]
    by_cases h2 : j < i
    · rw [if_pos h2, if_pos (by omega)]
    · rw [if_neg h2, if_neg (by omega)]
theorem c_fillI {g : Gp} {lau : Launch} {ad : Nat → Nat} {σ : Sg} (q : Nat) {n : Nat} (hq : q < 60) (ht : tyA q = 0) (hn : lenA q = n) (hb : n < 2 ^ 31) (v : Int32) : Con g lau yJ7_fill_53178 cJ7_fill_53178 4 none 0 0 [.ref (ad q), .int v] ad σ (ex none ad (σ.sA q (fillA (σ.A q) v n))) := by
  refine con_mk (by decide) (Nat.le_of_ble_eq_true rfl) (fun x hxl K hr => ?_)
  refine r_lv (lv' := [(0, .ref (ad q)), (1, .int v)]) rfl ?_
  have lp : ∀ (m i : Nat), m = n - i → i ≤ n → GJ g x 4 5 [(3, .int (nI n)), (2, .int (nI i)), (0, .ref (ad q)), (1, .int v)] [] ad (σ.sA q (fillA (σ.A q) v i)) := by
    intro m
    induction m using Nat.strongRecOn with
    | _ m ih =>
      intro i hm hi
      refine r_iload_n K 2 rfl rfl dJ7_fill_53178_5 ?_
      refine r_iload_n K 3 rfl rfl dJ7_fill_53178_6 ?_
      refine n_icmp_ge K 20 (by omega) (by omega) dJ7_fill_53178_7 (by decide) (fun h => ?_) (fun h => ?_)
      · refine r_vret K hr ⟨rfl, rfl, ?_⟩ dJ7_fill_53178_20
        rw [show i = n by omega]
      · refine r_aload_n K 0 rfl rfl dJ7_fill_53178_10 ?_
        refine r_iload_n K 2 rfl rfl dJ7_fill_53178_11 ?_
        refine r_iload_n K 1 rfl rfl dJ7_fill_53178_12 ?_
        refine r_iast K q (n := n) hq ht hn hb h dJ7_fill_53178_13 ?_
        refine r_w (σ2 := σ.sA q (fillA (σ.A q) v (i + 1))) (by rw [sA_sA, sA_A, if_pos rfl, fillA_s]) ?_
        refine r_iinc K (nI (i + 1)) rfl (nI_1 _) (lv' := [(2, .int (nI (i + 1))), (3, .int (nI n)), (0, .ref (ad q)), (1, .int v)]) (by decide) rfl dJ7_fill_53178_14 ?_
        refine r_goto K 5 dJ7_fill_53178_17 (by decide) ?_
        refine r_pick [1, 0, 2, 3] (lv' := [(3, .int (nI n)), (2, .int (nI (i + 1))), (0, .ref (ad q)), (1, .int v)]) rfl ?_
        exact ih _ (by omega) (i + 1) rfl (by omega)
  refine r_iconst K (nI 0) (by decide) dJ7_fill_53178_0 ?_
  refine r_istore_n K (lv' := [(2, .int (nI 0)), (0, .ref (ad q)), (1, .int v)]) 2 rfl (by decide) rfl dJ7_fill_53178_1 ?_
  refine r_aload_n K 0 rfl rfl dJ7_fill_53178_2 ?_
  refine r_alenI K q (n := n) hq ht hn dJ7_fill_53178_3 ?_
  refine r_istore_n K (lv' := [(3, .int (nI n)), (2, .int (nI 0)), (0, .ref (ad q)), (1, .int v)]) 3 rfl (by decide) rfl dJ7_fill_53178_4 ?_
  refine r_w (σ2 := σ.sA q (fillA (σ.A q) v 0)) (by rw [fillA_0, sA_id]) ?_
  exact lp _ 0 rfl (Nat.zero_le _)
theorem c_fillJ {g : Gp} {lau : Launch} {ad : Nat → Nat} {σ : Sg} (q : Nat) {n : Nat} (hq : q < 60) (ht : tyA q = 2) (hn : lenA q = n) (hb : n < 2 ^ 31) (v : Int64) : Con g lau yJ7_fill_d0a16 cJ7_fill_d0a16 5 none 0 0 [.ref (ad q), .long v] ad σ (ex none ad (σ.sJ q (fillJ (σ.J q) v n))) := by
  refine con_mk (by decide) (Nat.le_of_ble_eq_true rfl) (fun x hxl K hr => ?_)
  refine r_lv (lv' := [(0, .ref (ad q)), (1, .long v)]) rfl ?_
  have lp : ∀ (m i : Nat), m = n - i → i ≤ n → GJ g x 5 6 [(4, .int (nI n)), (3, .int (nI i)), (0, .ref (ad q)), (1, .long v)] [] ad (σ.sJ q (fillJ (σ.J q) v i)) := by
    intro m
    induction m using Nat.strongRecOn with
    | _ m ih =>
      intro i hm hi
      refine r_iload_n K 3 rfl rfl dJ7_fill_d0a16_6 ?_
      refine r_iload K rfl dJ7_fill_d0a16_7 ?_
      refine n_icmp_ge K 22 (by omega) (by omega) dJ7_fill_d0a16_9 (by decide) (fun h => ?_) (fun h => ?_)
      · refine r_vret K hr ⟨rfl, rfl, ?_⟩ dJ7_fill_d0a16_22
        rw [show i = n by omega]
      · refine r_aload_n K 0 rfl rfl dJ7_fill_d0a16_12 ?_
        refine r_iload_n K 3 rfl rfl dJ7_fill_d0a16_13 ?_
        refine r_lload_n K 1 rfl rfl dJ7_fill_d0a16_14 ?_
        refine r_last K q (n := n) hq ht hn hb h dJ7_fill_d0a16_15 ?_
        refine r_w (σ2 := σ.sJ q (fillJ (σ.J q) v (i + 1))) (by rw [sJ_sJ, sJ_J, if_pos rfl, fillJ_s]) ?_
        refine r_iinc K (nI (i + 1)) rfl (nI_1 _) (lv' := [(3, .int (nI (i + 1))), (4, .int (nI n)), (0, .ref (ad q)), (1, .long v)]) (by decide) rfl dJ7_fill_d0a16_16 ?_
        refine r_goto K 6 dJ7_fill_d0a16_19 (by decide) ?_
        refine r_pick [1, 0, 2, 3] (lv' := [(4, .int (nI n)), (3, .int (nI (i + 1))), (0, .ref (ad q)), (1, .long v)]) rfl ?_
        exact ih _ (by omega) (i + 1) rfl (by omega)
  refine r_iconst K (nI 0) (by decide) dJ7_fill_d0a16_0 ?_
  refine r_istore_n K (lv' := [(3, .int (nI 0)), (0, .ref (ad q)), (1, .long v)]) 3 rfl (by decide) rfl dJ7_fill_d0a16_1 ?_
  refine r_aload_n K 0 rfl rfl dJ7_fill_d0a16_2 ?_
  refine r_alenJ K q (n := n) hq ht hn dJ7_fill_d0a16_3 ?_
  refine r_istore K (lv' := [(4, .int (nI n)), (3, .int (nI 0)), (0, .ref (ad q)), (1, .long v)]) (by decide) rfl dJ7_fill_d0a16_4 ?_
  refine r_w (σ2 := σ.sJ q (fillJ (σ.J q) v 0)) (by rw [fillJ_0, sJ_id]) ?_
  exact lp _ 0 rfl (Nat.zero_le _)
