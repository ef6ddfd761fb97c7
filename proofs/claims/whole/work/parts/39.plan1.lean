theorem nI_dec {j : Nat} (h : 0 < j) : nI j + (-1) = nI (j - 1) := by
  obtain ⟨i, rfl⟩ : ∃ i, j = i + 1 := ⟨j - 1, by omega⟩
  rw [pk_m1]
  rfl
theorem sJ_at (σ : Sg) (k : Nat) (f : Nat → Int64) : (σ.sJ k f).J k = f := by rw [sJ_J, if_pos rfl]
theorem encA_app : ∀ (xs ys : List Nat) (a : Nat), encA a (xs ++ ys) = encA (encA a xs) ys
  | [], ys, a => rfl
  | x :: xs, ys, a => by rw [List.cons_append, encA, encA, encA_app xs]
theorem take_s {ms : List Nat} {i : Nat} (hi : i < ms.length) : ms.take (i + 1) = ms.take i ++ [ms.getD i 0] := by
  rw [List.take_succ, List.getD_eq_getElem?_getD, List.getElem?_eq_getElem hi]
  rfl
theorem six_at {ms : List Nat} (h6 : sixL ms) (i : Nat) : ms.getD i 0 < 6 := by
  rw [List.getD_eq_getElem?_getD]
  by_cases hi : i < ms.length
  · rw [List.getElem?_eq_getElem hi]
    exact h6 _ (List.getElem_mem hi)
  · rw [List.getElem?_eq_none (by omega)]
    decide
theorem enc_digit {ms : List Nat} (h6 : sixL ms) {i : Nat} (hi : i < ms.length) : encA 0 ms / 6 ^ (ms.length - 1 - i) % 6 = ms.getD i 0 := by
  have h1 : encA 0 ms = encA 0 (ms.take (i + 1)) * 6 ^ (ms.length - 1 - i) + encA 0 (ms.drop (i + 1)) := by
    have h2 : encA 0 ms = encA 0 (ms.take (i + 1) ++ ms.drop (i + 1)) := by rw [List.take_append_drop]
    rw [h2, encA_app, encA_eq, List.length_drop, show ms.length - (i + 1) = ms.length - 1 - i by omega]
  have h3 : encA 0 (ms.drop (i + 1)) < 6 ^ (ms.length - 1 - i) := by
    have := encA_lt (ms.drop (i + 1)) (fun m hm => h6 m (List.mem_of_mem_drop hm))
    rw [List.length_drop, show ms.length - (i + 1) = ms.length - 1 - i by omega] at this
    exact this
  have hp : 0 < 6 ^ (ms.length - 1 - i) := Nat.pow_pos (by decide)
  rw [h1, Nat.mul_comm, Nat.mul_add_div hp, Nat.div_eq_of_lt h3, Nat.add_zero, take_s hi, encA_snoc]
  have := six_at h6 i
  omega
theorem enc_small {ms : List Nat} (h6 : sixL ms) (hl : ms.length ≤ 24) : encA 0 ms < 4738381338321616896 := by
  have h1 := encA_lt ms h6
  have h2 : (6 : Nat) ^ ms.length ≤ 6 ^ 24 := Nat.pow_le_pow_right (by decide) hl
  rw [six_24] at h2
  omega
theorem cl_put {A : Nat → Int32} {J : Nat → Int64} {s r e : Nat} {P' : Nat → Nat → Prop} (h2 : P' r e) (h3 : ∀ r' e', P' r' e' → r < r' ∨ (r = r' ∧ e ≤ e')) : cl (upd A s (nI r)) (vp_updL J s (lN e)) s P' :=
  Or.inr ⟨r, e, h2, by unfold upd; rw [if_pos rfl], by unfold vp_updL; rw [if_pos rfl], h3⟩
def offP (s : Nat) (P' : Nat → Nat → Prop) (σ s2 : Sg) : Prop := same [37] [] [38] false σ s2 ∧ (∀ j, j ≠ s → s2.A 37 j = σ.A 37 j ∧ s2.J 38 j = σ.J 38 j) ∧ cl (s2.A 37) (s2.J 38) s P'
theorem offP_put {s r e : Nat} {P' : Nat → Nat → Prop} {σ : Sg} (h2 : P' r e) (h3 : ∀ r' e', P' r' e' → r < r' ∨ (r = r' ∧ e ≤ e')) : offP s P' σ ((σ.sA 37 (upd (σ.A 37) s (nI r))).sJ 38 (vp_updL (σ.J 38) s (lN e))) := by
  refine ⟨same_sJ (same_sA (same_rf _ _ _ _ _) (by simp) _) (by simp) _, fun j hj => ⟨?_, ?_⟩, ?_⟩
  · rw [sJ_A, sA_at]; unfold upd; rw [if_neg hj]
  · rw [sJ_at]; unfold vp_updL; rw [if_neg hj]
  · rw [sJ_A, sA_at, sJ_at]; exact cl_put h2 h3
theorem offP_keep {s r0 e0 : Nat} {P' : Nat → Nat → Prop} {σ : Sg} (hA : σ.A 37 s = nI r0) (hJ : σ.J 38 s = lN e0) (h2 : P' r0 e0) (h3 : ∀ r' e', P' r' e' → r0 < r' ∨ (r0 = r' ∧ e0 ≤ e')) : offP s P' σ σ :=
  ⟨same_rf _ _ _ _ _, fun _ _ => ⟨rfl, rfl⟩, Or.inr ⟨r0, e0, h2, hA, hJ, h3⟩⟩
set_option maxHeartbeats 400000 in
set_option maxRecDepth 10000 in
theorem c_layerIn {g : Gp} {lau : Launch} {ad : Nat → Nat} {σ : Sg} {ms : List Nat} {n i : Nat} (hn : n < 112) (hs : slotR (some ms) n σ) (h6 : sixL ms) (hl : ms.length ≤ 24) (hi : i < ms.length) : Con g lau yX3_layerIn cX3_layerIn 6 (Option.some .int) 0 0 [.ref (ad 69), .int (nI (n)), .int (nI (i))] ad σ (pu (.int (nI (ms.getD i 0))) ad σ) := by
  refine con_mk (by decide) (Nat.le_of_ble_eq_true rfl) (fun x hxl K hr => ?_)
  subst hxl
  refine r_lv (lv' := [(0, .ref (ad 69)), (1, .int (nI (n))), (2, .int (nI (i)))]) rfl ?_
  have hE := enc_small h6 hl
  refine r_aload_n K 0 rfl rfl dX3_layerIn_0 ?_
  refine get_69_3 K fl_RX3_18 dX3_layerIn_1 ?_
  refine r_iload_n K 1 rfl rfl dX3_layerIn_4 ?_
  refine r_lald K 30 (n := 112) (by decide) rfl rfl (by decide) (by omega) dX3_layerIn_5 ?_
  refine r_topl (b := (lN (encA 0 ms))) (hs.2.2) ?_
  refine r_lstore_n K (lv' := [(3, .long (lN (encA 0 ms))), (0, .ref (ad 69)), (1, .int (nI (n))), (2, .int (nI (i)))]) 3 rfl (by decide) rfl dX3_layerIn_6 ?_
  refine r_aload_n K 0 rfl rfl dX3_layerIn_7 ?_
  refine get_69_0 K fl_RX3_11 dX3_layerIn_8 ?_
  refine r_iload_n K 1 rfl rfl dX3_layerIn_11 ?_
  refine r_iald K 28 (n := 112) (by decide) rfl rfl (by decide) (by omega) dX3_layerIn_12 ?_
  refine r_topi (b := (nI (ms.length))) (hs.1) ?_
  refine r_iconst K ((nI (1))) (by decide) dX3_layerIn_13 ?_
  refine r_isub K dX3_layerIn_14 ?_
  refine r_topi (b := (nI (ms.length - 1))) (pk_sub (by omega)) ?_
  refine r_istore K (lv' := [(5, .int (nI (ms.length - 1))), (3, .long (lN (encA 0 ms))), (0, .ref (ad 69)), (1, .int (nI (n))), (2, .int (nI (i)))]) (by decide) rfl dX3_layerIn_15 ?_
  refine r_pick [2, 3, 4, 1, 0] (lv' := [(0, .ref (ad 69)), (1, .int (nI (n))), (2, .int (nI (i))), (3, .long (lN (encA 0 ms))), (5, .int (nI (ms.length - 1)))]) rfl ?_
  have lpA : ∀ (mm_ : Nat) (j : Nat) (v : Nat), mm_ = j → (i ≤ j) → (j ≤ ms.length - 1) → (v = encA 0 ms / 6 ^ (ms.length - 1 - j)) → (v < 4738381338321616896) → GJ g x 6 17 [(0, .ref (ad 69)), (1, .int (nI (n))), (2, .int (nI (i))), (3, .long (lN (v))), (5, .int (nI (j)))] [] ad (σ) := by
    intro mm_
    induction mm_ using Nat.strongRecOn with
    | _ mm_ ihA =>
      intro j v hmA hij hj2 hv hv2
      refine r_iload K rfl dX3_layerIn_17 ?_
      refine r_iload_n K 2 rfl rfl dX3_layerIn_19 ?_
      refine n_icmp_le K 35 (by omega) (by omega) dX3_layerIn_20 (by decide) (fun h20 => ?_) (fun h20 => ?_)
      · refine r_lload_n K 3 rfl rfl dX3_layerIn_35 ?_
        refine r_ldc2 K (v := (lN (6))) kl_RX3_77 dX3_layerIn_36 ?_
        refine r_lrem K (lN_ne0 (by omega) (by omega)) dX3_layerIn_39 ?_
        refine r_topl (pk_lRem (by omega) (by omega) (by omega)) ?_
        refine r_l2i K dX3_layerIn_40 ?_
        refine r_topi (lN_i _) ?_
        exact r_iret K hr (⟨by rw [hv, show j = i by omega, enc_digit h6 hi], rfl, rfl⟩) dX3_layerIn_41
      · refine r_lload_n K 3 rfl rfl dX3_layerIn_23 ?_
        refine r_ldc2 K (v := (lN (6))) kl_RX3_77 dX3_layerIn_24 ?_
        refine r_ldiv K (lN_ne0 (by omega) (by omega)) dX3_layerIn_27 ?_
        refine r_topl (pk_lDiv (by omega) (by omega) (by omega)) ?_
        refine r_lstore_n K (lv' := [(3, .long (lN (v / 6))), (0, .ref (ad 69)), (1, .int (nI (n))), (2, .int (nI (i))), (5, .int (nI (j)))]) 3 rfl (by decide) rfl dX3_layerIn_28 ?_
        refine r_iinc K ((nI (j - 1))) rfl (by rw [show Int32.ofInt (-1) = (-1 : Int32) from rfl]; exact nI_dec (by omega)) (lv' := [(5, .int (nI (j - 1))), (3, .long (lN (v / 6))), (0, .ref (ad 69)), (1, .int (nI (n))), (2, .int (nI (i)))]) (by decide) rfl dX3_layerIn_29 ?_
        refine r_goto K 17 dX3_layerIn_32 (by decide) ?_
        refine r_pick [2, 3, 4, 1, 0] (lv' := [(0, .ref (ad 69)), (1, .int (nI (n))), (2, .int (nI (i))), (3, .long (lN (v / 6))), (5, .int (nI (j - 1)))]) rfl ?_
        exact ihA _ (by omega) (j - 1) (v / 6) rfl (by omega) (by omega) (by rw [hv, Nat.div_div_eq_div_mul, ← Nat.pow_succ, show (ms.length - 1 - j).succ = ms.length - 1 - (j - 1) by omega]) (by omega)
  exact lpA _ (ms.length - 1) (encA 0 ms) rfl (by omega) (Nat.le_refl _) (by rw [Nat.sub_self, Nat.pow_zero, Nat.div_one]) (hE)

set_option maxHeartbeats 400000 in
set_option maxRecDepth 10000 in
theorem c_offer {g : Gp} {lau : Launch} {ad : Nat → Nat} {σ : Sg} {P P' : Nat → Nat → Prop} {s r e : Nat} (hs : s < 966) (hr1 : r < 2 ^ 31) (he : e < 2 ^ 63) (hPb : ∀ r e, P r e → r < 2 ^ 31 ∧ e < 2 ^ 63) (hc : cl (σ.A 37) (σ.J 38) s P) (h1 : ∀ r' e', P r' e' → P' r' e') (h2 : P' r e) (h3 : ∀ r' e', P' r' e' → P r' e' ∨ r < r' ∨ (r = r' ∧ e ≤ e')) : Con g lau yX3_offer cX3_offer 6 (Option.none : Option Jvm.ClassFile.FieldType) 0 0 [.ref (ad 69), .int (nI (s)), .int (nI (r)), .long (lN (e))] ad σ (fun rr a2 s2 => none = rr ∧ ad = a2 ∧ offP s P' σ s2) := by
  refine con_mk (by decide) (Nat.le_of_ble_eq_true rfl) (fun x hxl K hr => ?_)
  subst hxl
  refine r_lv (lv' := [(0, .ref (ad 69)), (1, .int (nI (s))), (2, .int (nI (r))), (3, .long (lN (e)))]) rfl ?_
  rcases hc with ⟨hA, hE⟩ | ⟨r0, e0, hp0, hA, hJ, hmin⟩
  · skip
    refine r_aload_n K 0 rfl rfl dX3_offer_0 ?_
    refine get_69_8 K fl_RX3_38 dX3_offer_1 ?_
    refine r_iload_n K 1 rfl rfl dX3_offer_4 ?_
    refine r_iald K 37 (n := 966) (by decide) rfl rfl (by decide) (by omega) dX3_offer_5 ?_
    refine r_topi (b := (-1)) (hA) ?_
    refine r_istore K (lv' := [(5, .int (-1)), (0, .ref (ad 69)), (1, .int (nI (s))), (2, .int (nI (r))), (3, .long (lN (e)))]) (by decide) rfl dX3_offer_6 ?_
    refine r_iload K rfl dX3_offer_8 ?_
    refine r_iconst K ((-1)) (by decide) dX3_offer_10 ?_
    refine r_icmp_eq K 37 dX3_offer_11 (by decide) (fun _ => ?_) (fun z => absurd z (by decide))
    refine r_aload_n K 0 rfl rfl dX3_offer_37 ?_
    refine get_69_8 K fl_RX3_38 dX3_offer_38 ?_
    refine r_iload_n K 1 rfl rfl dX3_offer_41 ?_
    refine r_iload_n K 2 rfl rfl dX3_offer_42 ?_
    refine r_iast K 37 (n := 966) (by decide) rfl rfl (by decide) (by omega) dX3_offer_43 ?_
    refine r_aload_n K 0 rfl rfl dX3_offer_44 ?_
    refine get_69_9 K fl_RX3_41 dX3_offer_45 ?_
    refine r_iload_n K 1 rfl rfl dX3_offer_48 ?_
    refine r_lload_n K 3 rfl rfl dX3_offer_49 ?_
    refine r_last K 38 (n := 966) (by decide) rfl rfl (by decide) (by omega) dX3_offer_50 ?_
    refine r_w (σ2 := ((σ).sA 37 (upd ((σ).A 37) (s) ((nI (r))))).sJ 38 (vp_updL ((σ).J 38) (s) ((lN (e))))) rfl ?_
    exact r_vret K hr (⟨rfl, rfl, offP_put h2 (fun r' e' z => (h3 r' e' z).elim (fun q => absurd q (hE r' e')) id)⟩) dX3_offer_51
  · have hb0 := hPb r0 e0 hp0
    refine r_aload_n K 0 rfl rfl dX3_offer_0 ?_
    refine get_69_8 K fl_RX3_38 dX3_offer_1 ?_
    refine r_iload_n K 1 rfl rfl dX3_offer_4 ?_
    refine r_iald K 37 (n := 966) (by decide) rfl rfl (by decide) (by omega) dX3_offer_5 ?_
    refine r_topi (b := (nI (r0))) (hA) ?_
    refine r_istore K (lv' := [(5, .int (nI (r0))), (0, .ref (ad 69)), (1, .int (nI (s))), (2, .int (nI (r))), (3, .long (lN (e)))]) (by decide) rfl dX3_offer_6 ?_
    refine r_iload K rfl dX3_offer_8 ?_
    refine r_iconst K ((-1)) (by decide) dX3_offer_10 ?_
    refine r_icmp_eq K 37 dX3_offer_11 (by decide) (fun h11 => absurd h11 (fun z => nI_m1 (by omega) z)) (fun h11 => ?_)
    refine r_iload_n K 2 rfl rfl dX3_offer_14 ?_
    refine r_iload K rfl dX3_offer_15 ?_
    refine n_icmp_lt K 37 (by omega) (by omega) dX3_offer_17 (by decide) (fun h17 => ?_) (fun h17 => ?_)
    · refine r_aload_n K 0 rfl rfl dX3_offer_37 ?_
      refine get_69_8 K fl_RX3_38 dX3_offer_38 ?_
      refine r_iload_n K 1 rfl rfl dX3_offer_41 ?_
      refine r_iload_n K 2 rfl rfl dX3_offer_42 ?_
      refine r_iast K 37 (n := 966) (by decide) rfl rfl (by decide) (by omega) dX3_offer_43 ?_
      refine r_aload_n K 0 rfl rfl dX3_offer_44 ?_
      refine get_69_9 K fl_RX3_41 dX3_offer_45 ?_
      refine r_iload_n K 1 rfl rfl dX3_offer_48 ?_
      refine r_lload_n K 3 rfl rfl dX3_offer_49 ?_
      refine r_last K 38 (n := 966) (by decide) rfl rfl (by decide) (by omega) dX3_offer_50 ?_
      refine r_w (σ2 := ((σ).sA 37 (upd ((σ).A 37) (s) ((nI (r))))).sJ 38 (vp_updL ((σ).J 38) (s) ((lN (e))))) rfl ?_
      exact r_vret K hr (⟨rfl, rfl, offP_put h2 (fun r' e' z => by rcases h3 r' e' z with q | q; (have := hmin r' e' q; omega); exact q)⟩) dX3_offer_51
    · refine r_iload_n K 2 rfl rfl dX3_offer_20 ?_
      refine r_iload K rfl dX3_offer_21 ?_
      refine n_icmp_ne K 51 (by omega) (by omega) dX3_offer_23 (by decide) (fun h23 => ?_) (fun h23 => ?_)
      · exact r_vret K hr (⟨rfl, rfl, offP_keep hA hJ (h1 _ _ hp0) (fun r' e' z => by rcases h3 r' e' z with q | q; (have := hmin r' e' q; omega); omega)⟩) dX3_offer_51
      · refine r_lload_n K 3 rfl rfl dX3_offer_26 ?_
        refine r_aload_n K 0 rfl rfl dX3_offer_27 ?_
        refine get_69_9 K fl_RX3_41 dX3_offer_28 ?_
        refine r_iload_n K 1 rfl rfl dX3_offer_31 ?_
        refine r_lald K 38 (n := 966) (by decide) rfl rfl (by decide) (by omega) dX3_offer_32 ?_
        refine r_topl (b := (lN (e0))) (hJ) ?_
        refine n_lcmp_ge K 51 (⟨by omega, by omega⟩) dX3_offer_33 dX3_offer_34 (by decide) (fun h33 => ?_) (fun h33 => ?_)
        · exact r_vret K hr (⟨rfl, rfl, offP_keep hA hJ (h1 _ _ hp0) (fun r' e' z => by rcases h3 r' e' z with q | q; (have := hmin r' e' q; omega); omega)⟩) dX3_offer_51
        · refine r_aload_n K 0 rfl rfl dX3_offer_37 ?_
          refine get_69_8 K fl_RX3_38 dX3_offer_38 ?_
          refine r_iload_n K 1 rfl rfl dX3_offer_41 ?_
          refine r_iload_n K 2 rfl rfl dX3_offer_42 ?_
          refine r_iast K 37 (n := 966) (by decide) rfl rfl (by decide) (by omega) dX3_offer_43 ?_
          refine r_aload_n K 0 rfl rfl dX3_offer_44 ?_
          refine get_69_9 K fl_RX3_41 dX3_offer_45 ?_
          refine r_iload_n K 1 rfl rfl dX3_offer_48 ?_
          refine r_lload_n K 3 rfl rfl dX3_offer_49 ?_
          refine r_last K 38 (n := 966) (by decide) rfl rfl (by decide) (by omega) dX3_offer_50 ?_
          refine r_w (σ2 := ((σ).sA 37 (upd ((σ).A 37) (s) ((nI (r))))).sJ 38 (vp_updL ((σ).J 38) (s) ((lN (e))))) rfl ?_
          exact r_vret K hr (⟨rfl, rfl, offP_put h2 (fun r' e' z => by rcases h3 r' e' z with q | q; (have := hmin r' e' q; omega); exact q)⟩) dX3_offer_51

def stP2 (n : Nat) (σ s2 : Sg) : Prop := same [28, 29] [] [30] false σ s2 ∧ ∀ j, j ≠ n → s2.A 28 j = σ.A 28 j ∧ s2.A 29 j = σ.A 29 j ∧ s2.J 30 j = σ.J 30 j
theorem stP2_28 {n : Nat} {σ s : Sg} (h : stP2 n σ s) (v : Int32) : stP2 n σ (s.sA 28 (upd (s.A 28) n v)) := by
  refine ⟨same_sA h.1 (by simp) _, fun j hj => ⟨?_, ?_, ?_⟩⟩
  · rw [sA_at]; unfold upd; rw [if_neg hj]; exact (h.2 j hj).1
  · rw [sA_A, if_neg (by decide)]; exact (h.2 j hj).2.1
  · rw [sA_J]; exact (h.2 j hj).2.2
theorem stP2_put {n : Nat} {σ s : Sg} (h : stP2 n σ s) (v w : Int32) (e : Int64) : stP2 n σ (((s.sA 28 (upd (s.A 28) n v)).sA 29 (upd (s.A 29) n w)).sJ 30 (vp_updL (s.J 30) n e)) := by
  refine ⟨same_sJ (same_sA (same_sA h.1 (by simp) _) (by simp) _) (by simp) _, fun j hj => ⟨?_, ?_, ?_⟩⟩
  · rw [sJ_A, sA_A, if_neg (by decide), sA_at]; unfold upd; rw [if_neg hj]; exact (h.2 j hj).1
  · rw [sJ_A, sA_at]; unfold upd; rw [if_neg hj]; exact (h.2 j hj).2.1
  · rw [sJ_at]; unfold vp_updL; rw [if_neg hj]; exact (h.2 j hj).2.2
theorem stl_put {T : Tv} {b : Nat} {kn : Nat → Nat → Nat → Bool} {h0 k i n r e : Nat} {s : Sg} (hi : 960 ≤ i) (hC : CS T b kn h0 k i r e) (hm : ∀ r' e', CS T b kn h0 k i r' e' → r < r' ∨ (r = r' ∧ e ≤ e')) (hU : ∀ r' e', US T b kn h0 k i r' e' → r < r' ∨ (r = r' ∧ e ≤ e')) : stl T b kn h0 k (i + 1) n (((s.sA 28 (upd (s.A 28) n (nI k))).sA 29 (upd (s.A 29) n (nI r))).sJ 30 (vp_updL (s.J 30) n (lN e))) := by
  refine Or.inr ⟨r, e, (US_s hi).mpr (Or.inr hC), ?_, ?_, ?_, fun r' e' z => ((US_s hi).mp z).elim (hU r' e') (hm r' e')⟩
  · rw [sJ_A, sA_A, if_neg (by decide), sA_at]; unfold upd; rw [if_pos rfl]
  · rw [sJ_A, sA_at]; unfold upd; rw [if_pos rfl]
  · rw [sJ_at]; unfold vp_updL; rw [if_pos rfl]
theorem US_lt {T : Tv} (hT : TOk T) {b : Nat} {kn : Nat → Nat → Nat → Bool} {h0 k i r e : Nat} (hh : h0 ≤ 24) (h : US T b kn h0 k i r e) : r ≤ 120 ∧ e < 4738381338321616896 := by
  obtain ⟨s, -, -, z3⟩ := h
  have := CS_lt hT hh z3
  exact ⟨this.2.2.1, this.2.2.2.1⟩
theorem stl_none {T : Tv} {b : Nat} {kn : Nat → Nat → Nat → Bool} {h0 k i n : Nat} {s : Sg} (hi : 960 ≤ i) (h1 : s.A 28 n = -1) (h2 : ∀ r e, ¬ US T b kn h0 k i r e) (h3 : ∀ r e, ¬ CS T b kn h0 k i r e) : stl T b kn h0 k (i + 1) n s :=
  Or.inl ⟨h1, fun r e z => ((US_s hi).mp z).elim (h2 r e) (h3 r e)⟩
theorem stl_keep {T : Tv} {b : Nat} {kn : Nat → Nat → Nat → Bool} {h0 k i n r e : Nat} {s : Sg} (hi : 960 ≤ i) (h1 : US T b kn h0 k i r e) (h2 : s.A 28 n = nI k) (h3 : s.A 29 n = nI r) (h4 : s.J 30 n = lN e) (h5 : ∀ r' e', US T b kn h0 k i r' e' → r < r' ∨ (r = r' ∧ e ≤ e')) (h6 : ∀ r' e', CS T b kn h0 k i r' e' → r < r' ∨ (r = r' ∧ e ≤ e')) : stl T b kn h0 k (i + 1) n s :=
  Or.inr ⟨r, e, (US_s hi).mpr (Or.inl h1), h2, h3, h4, fun r' e' z => ((US_s hi).mp z).elim (h5 r' e') (h6 r' e')⟩
theorem m1_lt {n : Nat} (h : n < 2 ^ 31) : (-1 : Int32) < nI n := by
  rw [Int32.lt_iff_toInt_lt, nI_toInt h]
  have : (-1 : Int32).toInt = -1 := by decide
  omega
set_option maxHeartbeats 1000000 in
set_option maxRecDepth 10000 in
theorem c_settle {g : Gp} {lau : Launch} {ad : Nat → Nat} {σ : Sg} {T : Tv} (hT : TOk T) {b : Nat} {kn : Nat → Nat → Nat → Bool} {h0 k n : Nat} (hh : h0 ≤ 24) (hk : k ≤ 24) (hn : n < 112) (hc : ∀ s, s < 966 → cl (σ.A 35) (σ.J 36) s (CS T b kn h0 k s)) : Con g lau yX3_settle cX3_settle 6 (Option.some .boolean) 0 0 [.ref (ad 69), .int (nI (n)), .int (nI (k))] ad σ (fun r a2 s2 => ∃ z : Bool, some (.int (bI z)) = r ∧ ad = a2 ∧ stP2 n σ s2 ∧ stl T b kn h0 k 966 n s2 ∧ ((z = false ∧ s2.A 28 n = -1) ∨ (z = true ∧ s2.A 28 n = nI k))) := by
  refine con_mk (by decide) (Nat.le_of_ble_eq_true rfl) (fun x hxl K hr => ?_)
  subst hxl
  refine r_lv (lv' := [(0, .ref (ad 69)), (1, .int (nI (n))), (2, .int (nI (k)))]) rfl ?_
  refine r_aload_n K 0 rfl rfl dX3_settle_0 ?_
  refine get_69_0 K fl_RX3_11 dX3_settle_1 ?_
  refine r_iload_n K 1 rfl rfl dX3_settle_4 ?_
  refine r_iconst K ((-1)) (by decide) dX3_settle_5 ?_
  refine r_iast K 28 (n := 112) (by decide) rfl rfl (by decide) (by omega) dX3_settle_6 ?_
  refine r_sipush K ((nI (960))) (by decide) dX3_settle_7 ?_
  refine r_istore_n K (lv' := [(3, .int (nI (960))), (0, .ref (ad 69)), (1, .int (nI (n))), (2, .int (nI (k)))]) 3 rfl (by decide) rfl dX3_settle_10 ?_
  refine r_pick [1, 2, 3, 0] (lv' := [(0, .ref (ad 69)), (1, .int (nI (n))), (2, .int (nI (k))), (3, .int (nI (960)))]) rfl ?_
  have lpA : ∀ (mm_ : Nat) (i : Nat) (s1 : Sg), mm_ = 966 - i → (960 ≤ i) → (i ≤ 966) → (stP2 n σ s1) → (stl T b kn h0 k i n s1) → GJ g x 6 11 [(0, .ref (ad 69)), (1, .int (nI (n))), (2, .int (nI (k))), (3, .int (nI (i)))] [] ad (s1) := by
    intro mm_
    induction mm_ using Nat.strongRecOn with
    | _ mm_ ihA =>
      intro i s1 hmA hi hi2 hP hS
      refine r_iload_n K 3 rfl rfl dX3_settle_11 ?_
      refine r_sipush K ((nI (966))) (by decide) dX3_settle_12 ?_
      refine n_icmp_ge K 125 (by omega) (by omega) dX3_settle_15 (by decide) (fun h15 => ?_) (fun h15 => ?_)
      · have he : i = 966 := by omega
        subst he
        have hS9 := hS
        rcases hS with ⟨hA0, hE⟩ | ⟨r0, e0, hp0, hA0, -⟩
        · skip
          refine r_aload_n K 0 rfl rfl dX3_settle_125 ?_
          refine get_69_0 K fl_RX3_11 dX3_settle_126 ?_
          refine r_iload_n K 1 rfl rfl dX3_settle_129 ?_
          refine r_iald K 28 (n := 112) (by decide) rfl rfl (by decide) (by omega) dX3_settle_130 ?_
          refine r_topi (b := (-1)) (hA0) ?_
          refine r_iconst K ((-1)) (by decide) dX3_settle_131 ?_
          refine r_icmp_eq K 139 dX3_settle_132 (by decide) (fun _ => ?_) (fun z => absurd z (by decide))
          refine r_iconst K ((nI (0))) (by decide) dX3_settle_139 ?_
          exact r_zret K (b := false) hr (⟨false, rfl, rfl, hP, hS9, Or.inl ⟨rfl, hA0⟩⟩) dX3_settle_140
        · skip
          refine r_aload_n K 0 rfl rfl dX3_settle_125 ?_
          refine get_69_0 K fl_RX3_11 dX3_settle_126 ?_
          refine r_iload_n K 1 rfl rfl dX3_settle_129 ?_
          refine r_iald K 28 (n := 112) (by decide) rfl rfl (by decide) (by omega) dX3_settle_130 ?_
          refine r_topi (b := (nI (k))) (hA0) ?_
          refine r_iconst K ((-1)) (by decide) dX3_settle_131 ?_
          refine r_icmp_eq K 139 dX3_settle_132 (by decide) (fun h132 => absurd h132 (fun z => nI_m1 (by omega) z)) (fun h132 => ?_)
          refine r_iconst K ((nI (1))) (by decide) dX3_settle_135 ?_
          refine r_goto K 140 dX3_settle_136 (by decide) ?_
          exact r_zret K (b := true) hr (⟨true, rfl, rfl, hP, hS9, Or.inr ⟨rfl, hA0⟩⟩) dX3_settle_140
      · have hci : cl (s1.A 35) (s1.J 36) i (CS T b kn h0 k i) := by rw [hP.1.1 35 (by simp), hP.1.2.2.1 36 (by simp)]; exact hc i (by omega)
        rcases hS with ⟨hA0, hE⟩ | ⟨r0, e0, hp0, hA0, hR0, hJ0, hm0⟩ <;> rcases hci with ⟨hA1, hE1⟩ | ⟨r1, e1, hp1, hA1, hJ1, hm1⟩
        · skip
          refine r_aload_n K 0 rfl rfl dX3_settle_18 ?_
          refine get_69_6 K fl_RX3_32 dX3_settle_19 ?_
          refine r_iload_n K 3 rfl rfl dX3_settle_22 ?_
          refine r_iald K 35 (n := 966) (by decide) rfl rfl (by decide) (by omega) dX3_settle_23 ?_
          refine r_topi (b := (-1)) (hA1) ?_
          refine r_istore K (lv' := [(4, .int (-1)), (0, .ref (ad 69)), (1, .int (nI (n))), (2, .int (nI (k))), (3, .int (nI (i)))]) (by decide) rfl dX3_settle_24 ?_
          refine r_aload_n K 0 rfl rfl dX3_settle_26 ?_
          refine get_69_0 K fl_RX3_11 dX3_settle_27 ?_
          refine r_iload_n K 1 rfl rfl dX3_settle_30 ?_
          refine r_iald K 28 (n := 112) (by decide) rfl rfl (by decide) (by omega) dX3_settle_31 ?_
          refine r_topi (b := (-1)) (hA0) ?_
          refine r_iconst K ((-1)) (by decide) dX3_settle_32 ?_
          refine r_icmp_eq K 74 dX3_settle_33 (by decide) (fun _ => ?_) (fun z => absurd z (by decide))
          refine r_iconst K ((nI (1))) (by decide) dX3_settle_74 ?_
          refine r_goto K 79 dX3_settle_75 (by decide) ?_
          refine r_istore K (lv' := [(5, .int (nI (1))), (4, .int (-1)), (0, .ref (ad 69)), (1, .int (nI (n))), (2, .int (nI (k))), (3, .int (nI (i)))]) (by decide) rfl dX3_settle_79 ?_
          refine r_iload K rfl dX3_settle_81 ?_
          refine r_iconst K ((-1)) (by decide) dX3_settle_83 ?_
          refine r_icmp_eq K 119 dX3_settle_84 (by decide) (fun _ => ?_) (fun z => absurd z (by decide))
          refine r_iinc K ((nI (i + 1))) rfl (nI_1 _) (lv' := [(3, .int (nI (i + 1))), (5, .int (nI (1))), (4, .int (-1)), (0, .ref (ad 69)), (1, .int (nI (n))), (2, .int (nI (k)))]) (by decide) rfl dX3_settle_119 ?_
          refine r_goto K 11 dX3_settle_122 (by decide) ?_
          refine r_pick [3, 4, 5, 0] (lv' := [(0, .ref (ad 69)), (1, .int (nI (n))), (2, .int (nI (k))), (3, .int (nI (i + 1)))]) rfl ?_
          exact ihA _ (by omega) (i + 1) (s1) rfl (by omega) (by omega) (hP) (stl_none hi hA0 hE hE1)
        · skip
          have hb1 := CS_lt hT hh hp1
          refine r_aload_n K 0 rfl rfl dX3_settle_18 ?_
          refine get_69_6 K fl_RX3_32 dX3_settle_19 ?_
          refine r_iload_n K 3 rfl rfl dX3_settle_22 ?_
          refine r_iald K 35 (n := 966) (by decide) rfl rfl (by decide) (by omega) dX3_settle_23 ?_
          refine r_topi (b := (nI (r1))) (hA1) ?_
          refine r_istore K (lv' := [(4, .int (nI (r1))), (0, .ref (ad 69)), (1, .int (nI (n))), (2, .int (nI (k))), (3, .int (nI (i)))]) (by decide) rfl dX3_settle_24 ?_
          refine r_aload_n K 0 rfl rfl dX3_settle_26 ?_
          refine get_69_0 K fl_RX3_11 dX3_settle_27 ?_
          refine r_iload_n K 1 rfl rfl dX3_settle_30 ?_
          refine r_iald K 28 (n := 112) (by decide) rfl rfl (by decide) (by omega) dX3_settle_31 ?_
          refine r_topi (b := (-1)) (hA0) ?_
          refine r_iconst K ((-1)) (by decide) dX3_settle_32 ?_
          refine r_icmp_eq K 74 dX3_settle_33 (by decide) (fun _ => ?_) (fun z => absurd z (by decide))
          refine r_iconst K ((nI (1))) (by decide) dX3_settle_74 ?_
          refine r_goto K 79 dX3_settle_75 (by decide) ?_
          refine r_istore K (lv' := [(5, .int (nI (1))), (4, .int (nI (r1))), (0, .ref (ad 69)), (1, .int (nI (n))), (2, .int (nI (k))), (3, .int (nI (i)))]) (by decide) rfl dX3_settle_79 ?_
          refine r_iload K rfl dX3_settle_81 ?_
          refine r_iconst K ((-1)) (by decide) dX3_settle_83 ?_
          refine r_icmp_eq K 119 dX3_settle_84 (by decide) (fun h84 => absurd h84 (fun z => nI_m1 (by omega) z)) (fun h84 => ?_)
          refine r_iload K rfl dX3_settle_87 ?_
          refine n_if_eq K 119 (by omega) dX3_settle_89 (by decide) (fun z => absurd z (by decide)) (fun _ => ?_)
          refine r_aload_n K 0 rfl rfl dX3_settle_92 ?_
          refine get_69_0 K fl_RX3_11 dX3_settle_93 ?_
          refine r_iload_n K 1 rfl rfl dX3_settle_96 ?_
          refine r_iload_n K 2 rfl rfl dX3_settle_97 ?_
          refine r_iast K 28 (n := 112) (by decide) rfl rfl (by decide) (by omega) dX3_settle_98 ?_
          refine r_aload_n K 0 rfl rfl dX3_settle_99 ?_
          refine get_69_2 K fl_RX3_15 dX3_settle_100 ?_
          refine r_iload_n K 1 rfl rfl dX3_settle_103 ?_
          refine r_iload K rfl dX3_settle_104 ?_
          refine r_iast K 29 (n := 112) (by decide) rfl rfl (by decide) (by omega) dX3_settle_106 ?_
          refine r_w (σ2 := ((s1).sA 28 (upd ((s1).A 28) (n) ((nI (k))))).sA 29 (upd ((s1).A 29) (n) ((nI (r1))))) rfl ?_
          refine r_aload_n K 0 rfl rfl dX3_settle_107 ?_
          refine get_69_3 K fl_RX3_18 dX3_settle_108 ?_
          refine r_iload_n K 1 rfl rfl dX3_settle_111 ?_
          refine r_aload_n K 0 rfl rfl dX3_settle_112 ?_
          refine get_69_7 K fl_RX3_35 dX3_settle_113 ?_
          refine r_iload_n K 3 rfl rfl dX3_settle_116 ?_
          refine r_lald K 36 (n := 966) (by decide) rfl rfl (by decide) (by omega) dX3_settle_117 ?_
          refine r_topl (b := s1.J 36 (i)) rfl ?_
          refine r_topl (b := (lN (e1))) (by exact hJ1) ?_
          refine r_last K 30 (n := 112) (by decide) rfl rfl (by decide) (by omega) dX3_settle_118 ?_
          refine r_w (σ2 := (((s1).sA 28 (upd ((s1).A 28) (n) ((nI (k))))).sA 29 (upd ((s1).A 29) (n) ((nI (r1))))).sJ 30 (vp_updL ((s1).J 30) (n) ((lN (e1))))) rfl ?_
          refine r_iinc K ((nI (i + 1))) rfl (nI_1 _) (lv' := [(3, .int (nI (i + 1))), (5, .int (nI (1))), (4, .int (nI (r1))), (0, .ref (ad 69)), (1, .int (nI (n))), (2, .int (nI (k)))]) (by decide) rfl dX3_settle_119 ?_
          refine r_goto K 11 dX3_settle_122 (by decide) ?_
          refine r_pick [3, 4, 5, 0] (lv' := [(0, .ref (ad 69)), (1, .int (nI (n))), (2, .int (nI (k))), (3, .int (nI (i + 1)))]) rfl ?_
          exact ihA _ (by omega) (i + 1) ((((s1).sA 28 (upd ((s1).A 28) (n) ((nI (k))))).sA 29 (upd ((s1).A 29) (n) ((nI (r1))))).sJ 30 (vp_updL ((s1).J 30) (n) ((lN (e1))))) rfl (by omega) (by omega) (stP2_put hP _ _ _) (stl_put hi hp1 hm1 (fun r' e' z => absurd z (hE r' e')))
        · skip
          have hb0 := US_lt hT hh hp0
          refine r_aload_n K 0 rfl rfl dX3_settle_18 ?_
          refine get_69_6 K fl_RX3_32 dX3_settle_19 ?_
          refine r_iload_n K 3 rfl rfl dX3_settle_22 ?_
          refine r_iald K 35 (n := 966) (by decide) rfl rfl (by decide) (by omega) dX3_settle_23 ?_
          refine r_topi (b := (-1)) (hA1) ?_
          refine r_istore K (lv' := [(4, .int (-1)), (0, .ref (ad 69)), (1, .int (nI (n))), (2, .int (nI (k))), (3, .int (nI (i)))]) (by decide) rfl dX3_settle_24 ?_
          refine r_aload_n K 0 rfl rfl dX3_settle_26 ?_
          refine get_69_0 K fl_RX3_11 dX3_settle_27 ?_
          refine r_iload_n K 1 rfl rfl dX3_settle_30 ?_
          refine r_iald K 28 (n := 112) (by decide) rfl rfl (by decide) (by omega) dX3_settle_31 ?_
          refine r_topi (b := (nI (k))) (hA0) ?_
          refine r_iconst K ((-1)) (by decide) dX3_settle_32 ?_
          refine r_icmp_eq K 74 dX3_settle_33 (by decide) (fun h33 => absurd h33 (fun z => nI_m1 (by omega) z)) (fun h33 => ?_)
          refine r_iload K rfl dX3_settle_36 ?_
          refine r_aload_n K 0 rfl rfl dX3_settle_38 ?_
          refine get_69_2 K fl_RX3_15 dX3_settle_39 ?_
          refine r_iload_n K 1 rfl rfl dX3_settle_42 ?_
          refine r_iald K 29 (n := 112) (by decide) rfl rfl (by decide) (by omega) dX3_settle_43 ?_
          refine r_topi (b := (nI (r0))) (hR0) ?_
          refine r_icmp_lt K 74 dX3_settle_44 (by decide) (fun h44 => ?_) (fun h44 => absurd h44 (fun z => z (m1_lt (by omega))))
          refine r_iconst K ((nI (1))) (by decide) dX3_settle_74 ?_
          refine r_goto K 79 dX3_settle_75 (by decide) ?_
          refine r_istore K (lv' := [(5, .int (nI (1))), (4, .int (-1)), (0, .ref (ad 69)), (1, .int (nI (n))), (2, .int (nI (k))), (3, .int (nI (i)))]) (by decide) rfl dX3_settle_79 ?_
          refine r_iload K rfl dX3_settle_81 ?_
          refine r_iconst K ((-1)) (by decide) dX3_settle_83 ?_
          refine r_icmp_eq K 119 dX3_settle_84 (by decide) (fun _ => ?_) (fun z => absurd z (by decide))
          refine r_iinc K ((nI (i + 1))) rfl (nI_1 _) (lv' := [(3, .int (nI (i + 1))), (5, .int (nI (1))), (4, .int (-1)), (0, .ref (ad 69)), (1, .int (nI (n))), (2, .int (nI (k)))]) (by decide) rfl dX3_settle_119 ?_
          refine r_goto K 11 dX3_settle_122 (by decide) ?_
          refine r_pick [3, 4, 5, 0] (lv' := [(0, .ref (ad 69)), (1, .int (nI (n))), (2, .int (nI (k))), (3, .int (nI (i + 1)))]) rfl ?_
          exact ihA _ (by omega) (i + 1) (s1) rfl (by omega) (by omega) (hP) (stl_keep hi hp0 hA0 hR0 hJ0 hm0 (fun r' e' z => absurd z (hE1 r' e')))
        · skip
          have hb0 := US_lt hT hh hp0
          have hb1 := CS_lt hT hh hp1
          refine r_aload_n K 0 rfl rfl dX3_settle_18 ?_
          refine get_69_6 K fl_RX3_32 dX3_settle_19 ?_
          refine r_iload_n K 3 rfl rfl dX3_settle_22 ?_
          refine r_iald K 35 (n := 966) (by decide) rfl rfl (by decide) (by omega) dX3_settle_23 ?_
          refine r_topi (b := (nI (r1))) (hA1) ?_
          refine r_istore K (lv' := [(4, .int (nI (r1))), (0, .ref (ad 69)), (1, .int (nI (n))), (2, .int (nI (k))), (3, .int (nI (i)))]) (by decide) rfl dX3_settle_24 ?_
          refine r_aload_n K 0 rfl rfl dX3_settle_26 ?_
          refine get_69_0 K fl_RX3_11 dX3_settle_27 ?_
          refine r_iload_n K 1 rfl rfl dX3_settle_30 ?_
          refine r_iald K 28 (n := 112) (by decide) rfl rfl (by decide) (by omega) dX3_settle_31 ?_
          refine r_topi (b := (nI (k))) (hA0) ?_
          refine r_iconst K ((-1)) (by decide) dX3_settle_32 ?_
          refine r_icmp_eq K 74 dX3_settle_33 (by decide) (fun h33 => absurd h33 (fun z => nI_m1 (by omega) z)) (fun h33 => ?_)
          refine r_iload K rfl dX3_settle_36 ?_
          refine r_aload_n K 0 rfl rfl dX3_settle_38 ?_
          refine get_69_2 K fl_RX3_15 dX3_settle_39 ?_
          refine r_iload_n K 1 rfl rfl dX3_settle_42 ?_
          refine r_iald K 29 (n := 112) (by decide) rfl rfl (by decide) (by omega) dX3_settle_43 ?_
          refine r_topi (b := (nI (r0))) (hR0) ?_
          refine n_icmp_lt K 74 (by omega) (by omega) dX3_settle_44 (by decide) (fun h44 => ?_) (fun h44 => ?_)
          · refine r_iconst K ((nI (1))) (by decide) dX3_settle_74 ?_
            refine r_goto K 79 dX3_settle_75 (by decide) ?_
            refine r_istore K (lv' := [(5, .int (nI (1))), (4, .int (nI (r1))), (0, .ref (ad 69)), (1, .int (nI (n))), (2, .int (nI (k))), (3, .int (nI (i)))]) (by decide) rfl dX3_settle_79 ?_
            refine r_iload K rfl dX3_settle_81 ?_
            refine r_iconst K ((-1)) (by decide) dX3_settle_83 ?_
            refine r_icmp_eq K 119 dX3_settle_84 (by decide) (fun h84 => absurd h84 (fun z => nI_m1 (by omega) z)) (fun h84 => ?_)
            refine r_iload K rfl dX3_settle_87 ?_
            refine n_if_eq K 119 (by omega) dX3_settle_89 (by decide) (fun z => absurd z (by decide)) (fun _ => ?_)
            refine r_aload_n K 0 rfl rfl dX3_settle_92 ?_
            refine get_69_0 K fl_RX3_11 dX3_settle_93 ?_
            refine r_iload_n K 1 rfl rfl dX3_settle_96 ?_
            refine r_iload_n K 2 rfl rfl dX3_settle_97 ?_
            refine r_iast K 28 (n := 112) (by decide) rfl rfl (by decide) (by omega) dX3_settle_98 ?_
            refine r_aload_n K 0 rfl rfl dX3_settle_99 ?_
            refine get_69_2 K fl_RX3_15 dX3_settle_100 ?_
            refine r_iload_n K 1 rfl rfl dX3_settle_103 ?_
            refine r_iload K rfl dX3_settle_104 ?_
            refine r_iast K 29 (n := 112) (by decide) rfl rfl (by decide) (by omega) dX3_settle_106 ?_
            refine r_w (σ2 := ((s1).sA 28 (upd ((s1).A 28) (n) ((nI (k))))).sA 29 (upd ((s1).A 29) (n) ((nI (r1))))) rfl ?_
            refine r_aload_n K 0 rfl rfl dX3_settle_107 ?_
            refine get_69_3 K fl_RX3_18 dX3_settle_108 ?_
            refine r_iload_n K 1 rfl rfl dX3_settle_111 ?_
            refine r_aload_n K 0 rfl rfl dX3_settle_112 ?_
            refine get_69_7 K fl_RX3_35 dX3_settle_113 ?_
            refine r_iload_n K 3 rfl rfl dX3_settle_116 ?_
            refine r_lald K 36 (n := 966) (by decide) rfl rfl (by decide) (by omega) dX3_settle_117 ?_
            refine r_topl (b := s1.J 36 (i)) rfl ?_
            refine r_topl (b := (lN (e1))) (by exact hJ1) ?_
            refine r_last K 30 (n := 112) (by decide) rfl rfl (by decide) (by omega) dX3_settle_118 ?_
            refine r_w (σ2 := (((s1).sA 28 (upd ((s1).A 28) (n) ((nI (k))))).sA 29 (upd ((s1).A 29) (n) ((nI (r1))))).sJ 30 (vp_updL ((s1).J 30) (n) ((lN (e1))))) rfl ?_
            refine r_iinc K ((nI (i + 1))) rfl (nI_1 _) (lv' := [(3, .int (nI (i + 1))), (5, .int (nI (1))), (4, .int (nI (r1))), (0, .ref (ad 69)), (1, .int (nI (n))), (2, .int (nI (k)))]) (by decide) rfl dX3_settle_119 ?_
            refine r_goto K 11 dX3_settle_122 (by decide) ?_
            refine r_pick [3, 4, 5, 0] (lv' := [(0, .ref (ad 69)), (1, .int (nI (n))), (2, .int (nI (k))), (3, .int (nI (i + 1)))]) rfl ?_
            exact ihA _ (by omega) (i + 1) ((((s1).sA 28 (upd ((s1).A 28) (n) ((nI (k))))).sA 29 (upd ((s1).A 29) (n) ((nI (r1))))).sJ 30 (vp_updL ((s1).J 30) (n) ((lN (e1))))) rfl (by omega) (by omega) (stP2_put hP _ _ _) (stl_put hi hp1 hm1 (fun r' e' z => by have := hm0 r' e' z; omega))
          · refine r_iload K rfl dX3_settle_47 ?_
            refine r_aload_n K 0 rfl rfl dX3_settle_49 ?_
            refine get_69_2 K fl_RX3_15 dX3_settle_50 ?_
            refine r_iload_n K 1 rfl rfl dX3_settle_53 ?_
            refine r_iald K 29 (n := 112) (by decide) rfl rfl (by decide) (by omega) dX3_settle_54 ?_
            refine r_topi (b := (nI (r0))) (hR0) ?_
            refine n_icmp_ne K 78 (by omega) (by omega) dX3_settle_55 (by decide) (fun h55 => ?_) (fun h55 => ?_)
            · refine r_iconst K ((nI (0))) (by decide) dX3_settle_78 ?_
              refine r_istore K (lv' := [(5, .int (nI (0))), (4, .int (nI (r1))), (0, .ref (ad 69)), (1, .int (nI (n))), (2, .int (nI (k))), (3, .int (nI (i)))]) (by decide) rfl dX3_settle_79 ?_
              refine r_iload K rfl dX3_settle_81 ?_
              refine r_iconst K ((-1)) (by decide) dX3_settle_83 ?_
              refine r_icmp_eq K 119 dX3_settle_84 (by decide) (fun h84 => absurd h84 (fun z => nI_m1 (by omega) z)) (fun h84 => ?_)
              refine r_iload K rfl dX3_settle_87 ?_
              refine n_if_eq K 119 (by omega) dX3_settle_89 (by decide) (fun _ => ?_) (fun z => absurd z (by decide))
              refine r_iinc K ((nI (i + 1))) rfl (nI_1 _) (lv' := [(3, .int (nI (i + 1))), (5, .int (nI (0))), (4, .int (nI (r1))), (0, .ref (ad 69)), (1, .int (nI (n))), (2, .int (nI (k)))]) (by decide) rfl dX3_settle_119 ?_
              refine r_goto K 11 dX3_settle_122 (by decide) ?_
              refine r_pick [3, 4, 5, 0] (lv' := [(0, .ref (ad 69)), (1, .int (nI (n))), (2, .int (nI (k))), (3, .int (nI (i + 1)))]) rfl ?_
              exact ihA _ (by omega) (i + 1) (s1) rfl (by omega) (by omega) (hP) (stl_keep hi hp0 hA0 hR0 hJ0 hm0 (fun r' e' z => by have := hm1 r' e' z; omega))
            · refine r_aload_n K 0 rfl rfl dX3_settle_58 ?_
              refine get_69_7 K fl_RX3_35 dX3_settle_59 ?_
              refine r_iload_n K 3 rfl rfl dX3_settle_62 ?_
              refine r_lald K 36 (n := 966) (by decide) rfl rfl (by decide) (by omega) dX3_settle_63 ?_
              refine r_topl (b := (lN (e1))) (hJ1) ?_
              refine r_aload_n K 0 rfl rfl dX3_settle_64 ?_
              refine get_69_3 K fl_RX3_18 dX3_settle_65 ?_
              refine r_iload_n K 1 rfl rfl dX3_settle_68 ?_
              refine r_lald K 30 (n := 112) (by decide) rfl rfl (by decide) (by omega) dX3_settle_69 ?_
              refine r_topl (b := (lN (e0))) (hJ0) ?_
              refine n_lcmp_ge K 78 (⟨by omega, by omega⟩) dX3_settle_70 dX3_settle_71 (by decide) (fun h70 => ?_) (fun h70 => ?_)
              · refine r_iconst K ((nI (0))) (by decide) dX3_settle_78 ?_
                refine r_istore K (lv' := [(5, .int (nI (0))), (4, .int (nI (r1))), (0, .ref (ad 69)), (1, .int (nI (n))), (2, .int (nI (k))), (3, .int (nI (i)))]) (by decide) rfl dX3_settle_79 ?_
                refine r_iload K rfl dX3_settle_81 ?_
                refine r_iconst K ((-1)) (by decide) dX3_settle_83 ?_
                refine r_icmp_eq K 119 dX3_settle_84 (by decide) (fun h84 => absurd h84 (fun z => nI_m1 (by omega) z)) (fun h84 => ?_)
                refine r_iload K rfl dX3_settle_87 ?_
                refine n_if_eq K 119 (by omega) dX3_settle_89 (by decide) (fun _ => ?_) (fun z => absurd z (by decide))
                refine r_iinc K ((nI (i + 1))) rfl (nI_1 _) (lv' := [(3, .int (nI (i + 1))), (5, .int (nI (0))), (4, .int (nI (r1))), (0, .ref (ad 69)), (1, .int (nI (n))), (2, .int (nI (k)))]) (by decide) rfl dX3_settle_119 ?_
                refine r_goto K 11 dX3_settle_122 (by decide) ?_
                refine r_pick [3, 4, 5, 0] (lv' := [(0, .ref (ad 69)), (1, .int (nI (n))), (2, .int (nI (k))), (3, .int (nI (i + 1)))]) rfl ?_
                exact ihA _ (by omega) (i + 1) (s1) rfl (by omega) (by omega) (hP) (stl_keep hi hp0 hA0 hR0 hJ0 hm0 (fun r' e' z => by have := hm1 r' e' z; omega))
              · refine r_iconst K ((nI (1))) (by decide) dX3_settle_74 ?_
                refine r_goto K 79 dX3_settle_75 (by decide) ?_
                refine r_istore K (lv' := [(5, .int (nI (1))), (4, .int (nI (r1))), (0, .ref (ad 69)), (1, .int (nI (n))), (2, .int (nI (k))), (3, .int (nI (i)))]) (by decide) rfl dX3_settle_79 ?_
                refine r_iload K rfl dX3_settle_81 ?_
                refine r_iconst K ((-1)) (by decide) dX3_settle_83 ?_
                refine r_icmp_eq K 119 dX3_settle_84 (by decide) (fun h84 => absurd h84 (fun z => nI_m1 (by omega) z)) (fun h84 => ?_)
                refine r_iload K rfl dX3_settle_87 ?_
                refine n_if_eq K 119 (by omega) dX3_settle_89 (by decide) (fun z => absurd z (by decide)) (fun _ => ?_)
                refine r_aload_n K 0 rfl rfl dX3_settle_92 ?_
                refine get_69_0 K fl_RX3_11 dX3_settle_93 ?_
                refine r_iload_n K 1 rfl rfl dX3_settle_96 ?_
                refine r_iload_n K 2 rfl rfl dX3_settle_97 ?_
                refine r_iast K 28 (n := 112) (by decide) rfl rfl (by decide) (by omega) dX3_settle_98 ?_
                refine r_aload_n K 0 rfl rfl dX3_settle_99 ?_
                refine get_69_2 K fl_RX3_15 dX3_settle_100 ?_
                refine r_iload_n K 1 rfl rfl dX3_settle_103 ?_
                refine r_iload K rfl dX3_settle_104 ?_
                refine r_iast K 29 (n := 112) (by decide) rfl rfl (by decide) (by omega) dX3_settle_106 ?_
                refine r_w (σ2 := ((s1).sA 28 (upd ((s1).A 28) (n) ((nI (k))))).sA 29 (upd ((s1).A 29) (n) ((nI (r1))))) rfl ?_
                refine r_aload_n K 0 rfl rfl dX3_settle_107 ?_
                refine get_69_3 K fl_RX3_18 dX3_settle_108 ?_
                refine r_iload_n K 1 rfl rfl dX3_settle_111 ?_
                refine r_aload_n K 0 rfl rfl dX3_settle_112 ?_
                refine get_69_7 K fl_RX3_35 dX3_settle_113 ?_
                refine r_iload_n K 3 rfl rfl dX3_settle_116 ?_
                refine r_lald K 36 (n := 966) (by decide) rfl rfl (by decide) (by omega) dX3_settle_117 ?_
                refine r_topl (b := s1.J 36 (i)) rfl ?_
                refine r_topl (b := (lN (e1))) (by exact hJ1) ?_
                refine r_last K 30 (n := 112) (by decide) rfl rfl (by decide) (by omega) dX3_settle_118 ?_
                refine r_w (σ2 := (((s1).sA 28 (upd ((s1).A 28) (n) ((nI (k))))).sA 29 (upd ((s1).A 29) (n) ((nI (r1))))).sJ 30 (vp_updL ((s1).J 30) (n) ((lN (e1))))) rfl ?_
                refine r_iinc K ((nI (i + 1))) rfl (nI_1 _) (lv' := [(3, .int (nI (i + 1))), (5, .int (nI (1))), (4, .int (nI (r1))), (0, .ref (ad 69)), (1, .int (nI (n))), (2, .int (nI (k)))]) (by decide) rfl dX3_settle_119 ?_
                refine r_goto K 11 dX3_settle_122 (by decide) ?_
                refine r_pick [3, 4, 5, 0] (lv' := [(0, .ref (ad 69)), (1, .int (nI (n))), (2, .int (nI (k))), (3, .int (nI (i + 1)))]) rfl ?_
                exact ihA _ (by omega) (i + 1) ((((s1).sA 28 (upd ((s1).A 28) (n) ((nI (k))))).sA 29 (upd ((s1).A 29) (n) ((nI (r1))))).sJ 30 (vp_updL ((s1).J 30) (n) ((lN (e1))))) rfl (by omega) (by omega) (stP2_put hP _ _ _) (stl_put hi hp1 hm1 (fun r' e' z => by have := hm0 r' e' z; omega))
  exact lpA _ (960) (_) rfl (by omega) (by omega) (stP2_28 ⟨same_rf _ _ _ _ _, fun _ _ => ⟨rfl, rfl, rfl⟩⟩ _) (Or.inl ⟨by rw [sA_at]; unfold upd; rw [if_pos rfl], fun r e z => by obtain ⟨s, z1, z2, -⟩ := z; omega⟩)

