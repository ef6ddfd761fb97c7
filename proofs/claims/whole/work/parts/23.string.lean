theorem sI_at (σ : Sg) (k : Nat) (v : Int32) : (σ.sI k v).I k = v := by rw [sI_I, if_pos rfl]
theorem sI_ne (σ : Sg) {k j : Nat} (v : Int32) (h : j ≠ k) : (σ.sI k v).I j = σ.I j := by rw [sI_I, if_neg h]
theorem sA_at (σ : Sg) (k : Nat) (f : Nat → Int32) : (σ.sA k f).A k = f := by rw [sA_A, if_pos rfl]
theorem RepX_same {h q : Nat} {X : Tv} {σ s2 : Sg} {As Is Js : List Nat} {tk : Bool} (hX : RepX h q X σ) (hs : same As Is Js tk σ s2) (hA : q ∉ As) (hI : h ∉ Is) : RepX h q X s2 := ⟨by rw [hs.2.1 _ hI]; exact hX.1, by rw [hs.1 _ hA]; exact hX.2⟩
section RULES5
variable {g : Gp} {x : Cx} {cc : ByteArray} {own : String} {nL fr lo pc : Nat} {lv : List (Nat × Value)} {rest : List Value} {ad : Nat → Nat} {σ : Sg}
theorem r_strV (K : Ok g x cc own nL fr lo) {index i : Nat} (hi : i < 13) (hl : Cond.fieldLink own index "java/lang/String" "value" "[B" ∈ gtb) (d : decode cc pc = .ok (.getfield index, 3)) (k : GJ g x nL (pc + 3) lv (.ref (g.aV i) :: rest) ad σ) : GJ g x nL pc lv (.ref (g.aK i) :: rest) ad σ :=
  fun H locs ls hW hS h => vk_getf K.1 K.2.1 (K.2.2.2.2.2.1.2.2.1.1.1 i hi).2.2.1 hS K.2.2.2.1 (K.2.2.2.2.1 _ hl) (fun _ h => h) d (k H locs ls hW hS h)
theorem r_strC (K : Ok g x cc own nL fr lo) {index i : Nat} (hi : i < 13) (hl : Cond.fieldLink own index "java/lang/String" "coder" "B" ∈ gtb) (d : decode cc pc = .ok (.getfield index, 3)) (k : GJ g x nL (pc + 3) lv (.int 0 :: rest) ad σ) : GJ g x nL pc lv (.ref (g.aK i) :: rest) ad σ :=
  fun H locs ls hW hS h => vk_getf K.1 K.2.1 (K.2.2.2.2.2.1.2.2.1.1.1 i hi).2.1 hS K.2.2.2.1 (K.2.2.2.2.1 _ hl) (fun _ h => h) d (k H locs ls hW hS h)
theorem r_strL (K : Ok g x cc own nL fr lo) {i : Nat} (hi : i < 13) (d : decode cc pc = .ok (.arraylength, 1)) (k : GJ g x nL (pc + 1) lv (.int (nI (lenS.getD i 0)) :: rest) ad σ) : GJ g x nL pc lv (.ref (g.aV i) :: rest) ad σ :=
  fun H locs ls hW hS h => va_tlen K.1 K.2.1 (K.2.2.2.2.2.1.2.2.1.1.1 i hi).2.2.2 hS rfl d (k H locs ls hW hS h)
theorem r_strB (K : Ok g x cc own nL fr lo) {i j : Nat} (hi : i < 13) (hj : j < lenS.getD i 0) (hl : lenS.getD i 0 < 2 ^ 31) (d : decode cc pc = .ok (.baload, 1)) (k : GJ g x nL (pc + 1) lv (.int ((bytS.getD i []).getD j 0) :: rest) ad σ) : GJ g x nL pc lv (.int (nI j) :: .ref (g.aV i) :: rest) ad σ :=
  fun H locs ls hW hS h => va_tb K.1 K.2.1 (K.2.2.2.2.2.1.2.2.1.1.1 i hi).2.2.2 hS (vp_in_nI hj hl) (by rw [nI_clamp (by omega)]) d (k H locs ls hW hS h)
theorem r_ldcS (K : Ok g x cc "KiteBarges$Text" nL fr lo) {index : Nat} (i : Nat) (hi : i < 13) (hx : stIx.getD i 0 = index) (d : decode cc pc = .ok (.ldc index, 2)) (k : GJ g x nL (pc + 2) lv (.ref (g.aK i) :: rest) ad σ) : GJ g x nL pc lv rest ad σ :=
  fun H locs ls hW hS h => va_ldcS K.1 K.2.1 K.2.2.2.1 (hx ▸ K.2.2.2.2.2.1.2.2.1.2.1 i hi) d (k H locs ls hW hS h)
theorem r_getsQ (K : Ok g x cc own nL fr lo) {index : Nat} (hl : Cond.fieldLink own index "jdk/internal/util/Preconditions" "SIOOBE_FORMATTER" "Ljava/util/function/BiFunction;" ∈ gtb) (d : decode cc pc = .ok (.getstatic index, 3)) (k0 : GJ g x nL (pc + 3) lv (.null :: rest) ad σ) (k1 : ∀ t : Nat, GJ g x nL (pc + 3) lv (.ref t :: rest) ad σ) : GJ g x nL pc lv rest ad σ := by
  intro H locs ls hW hS h
  rcases K.2.2.2.2.2.1.2.2.1.2.2.2 with q | ⟨t, q⟩
  · exact va_gets K.1 K.2.1 q hS K.2.2.2.1 (K.2.2.2.2.1 _ hl) (fun _ h => h) d (k0 H locs ls hW hS h)
  · exact va_gets K.1 K.2.1 q hS K.2.2.2.1 (K.2.2.2.2.1 _ hl) (fun _ h => h) d (k1 t H locs ls hW hS h)
theorem r_callK (K : Ok g x cc own nL fr lo) {y : MethodName} {cb : ByteArray} {maxL fr' lo' n index i : Nat} {ret : Option FieldType} {As st : List Value} {v : Value} (hi : i < 13) (hM : MV y cb maxL ret n) (hy : y.cls = "java/lang/String") (hl : Cond.methodLink own index y ∈ gtb) (hC : Con g x.l y cb maxL ret fr' lo' (.ref (g.aK i) :: As) ad σ (pu v ad σ))
    (hn : As.length = n) (hst : st = As.reverse ++ .ref (g.aK i) :: rest) (hr : (rest.map fun v => v.category).sum ≤ 8) (hR : fr' + 1 ≤ fr ∧ 8 + (maxL + 11) + lo' ≤ lo) (d : decode cc pc = .ok (.invokevirtual index, 3))
    (k : GJ g x nL (pc + 3) lv (v :: rest) ad σ) : GJ g x nL pc lv st ad σ := by
  intro H locs ls hW hS h
  obtain ⟨hx, hb, hml, hown, hts, hK, hf1, hf2, hc1, hc2⟩ := K
  obtain ⟨m1, m2, m3, m4, m5⟩ := hM
  refine run_go (va_runV (C := y.cls) (b := g.aK i) (As := As) (rest := rest) (n := n) ⟨hx, hb, hml, hown, hts⟩ hC ⟨callB_of n hts (wm_good m1) rfl rfl rfl (hts _ m4) (hts _ hl) m5 ⟨Nat.le_trans hR.1 hf1, Nat.le_trans hR.2 hf2⟩, hts _ m2, hts _ m3⟩ ⟨pre_blind g _ ad σ, hy ▸ vk_recv hK.2.2.1.1 hi hS, fun U hU hw => ⟨rfl, KK.go hK hw (fun a ha hn => by rw [hU]; exact hS.2.1 a ha hn), by rw [hU]; exact hW⟩⟩ rfl hn h.1 hst (lv_room hr) d ⟨hc1, hc2⟩) hS (fun r ad2 σ2 H1 locs1 hp hw hs => ?_)
  obtain ⟨rfl, rfl, rfl⟩ := hp
  exact k H1 locs1 ls hw hs h
end RULES5
theorem str_ok : ∀ i, i < 13 → lenS.getD i 0 = wl0 i ∧ wl0 i < 2 ^ 31 ∧ ∀ j, j < wl0 i → ((((bytS.getD i []).getD j 0) &&& nI 255).toUInt32 % 65536).toInt32 = nI (wc i j) ∧ wc i j < 256 := by decide +kernel
theorem c_ckI0 {g : Gp} {lau : Launch} {ad : Nat → Nat} {σ : Sg}  {j n : Nat} (h : j < n) (hn : n < 2 ^ 31) : Con g lau yJ3_checkIndex_8e157 cJ3_checkIndex_8e157 3 (some .int) 0 0 [.int (nI j), .int (nI n), .null] ad σ (pu (.int (nI j)) ad σ) := by
  refine con_mk (by decide) (Nat.le_of_ble_eq_true rfl) (fun x hxl K hr => ?_)
  refine r_lv (lv' := [(0, .int (nI j)), (1, .int (nI n)), (2, .null)]) rfl ?_
  refine r_iload_n K 0 rfl rfl dJ3_checkIndex_8e157_0 ?_
  refine r_if_lt K 9 dJ3_checkIndex_8e157_1 (by decide) (fun z => absurd z (nI_pos (by omega))) (fun _ => ?_)
  refine r_iload_n K 0 rfl rfl dJ3_checkIndex_8e157_4 ?_
  refine r_iload_n K 1 rfl rfl dJ3_checkIndex_8e157_5 ?_
  refine n_icmp_lt K 16 (by omega) (by omega) dJ3_checkIndex_8e157_6 (by decide) (fun _ => ?_) (fun z => absurd z (by omega))
  refine r_iload_n K 0 rfl rfl dJ3_checkIndex_8e157_16 ?_
  exact r_iret K hr ⟨rfl, rfl, rfl⟩ dJ3_checkIndex_8e157_17
theorem c_ckI1 {g : Gp} {lau : Launch} {ad : Nat → Nat} {σ : Sg} (t : Nat) {j n : Nat} (h : j < n) (hn : n < 2 ^ 31) : Con g lau yJ3_checkIndex_8e157 cJ3_checkIndex_8e157 3 (some .int) 0 0 [.int (nI j), .int (nI n), .ref t] ad σ (pu (.int (nI j)) ad σ) := by
  refine con_mk (by decide) (Nat.le_of_ble_eq_true rfl) (fun x hxl K hr => ?_)
  refine r_lv (lv' := [(0, .int (nI j)), (1, .int (nI n)), (2, .ref t)]) rfl ?_
  refine r_iload_n K 0 rfl rfl dJ3_checkIndex_8e157_0 ?_
  refine r_if_lt K 9 dJ3_checkIndex_8e157_1 (by decide) (fun z => absurd z (nI_pos (by omega))) (fun _ => ?_)
  refine r_iload_n K 0 rfl rfl dJ3_checkIndex_8e157_4 ?_
  refine r_iload_n K 1 rfl rfl dJ3_checkIndex_8e157_5 ?_
  refine n_icmp_lt K 16 (by omega) (by omega) dJ3_checkIndex_8e157_6 (by decide) (fun _ => ?_) (fun z => absurd z (by omega))
  refine r_iload_n K 0 rfl rfl dJ3_checkIndex_8e157_16 ?_
  exact r_iret K hr ⟨rfl, rfl, rfl⟩ dJ3_checkIndex_8e157_17
theorem c_ckS {g : Gp} {lau : Launch} {ad : Nat → Nat} {σ : Sg} {j n : Nat} (h : j < n) (hn : n < 2 ^ 31) : Con g lau yJ0_checkIndex_df160 cJ0_checkIndex_df160 2 none 1 22 [.int (nI j), .int (nI n)] ad σ (ex none ad σ) := by
  refine con_mk (by decide) (Nat.le_of_ble_eq_true rfl) (fun x hxl K hr => ?_)
  subst hxl
  refine r_lv (lv' := [(0, .int (nI j)), (1, .int (nI n))]) rfl ?_
  refine r_iload_n K 0 rfl rfl dJ0_checkIndex_df160_0 ?_
  refine r_iload_n K 1 rfl rfl dJ0_checkIndex_df160_1 ?_
  refine r_getsQ K fl_RJ0_1053 dJ0_checkIndex_df160_2 ?_ (fun t => ?_)
  · refine r_callSp K (As := [.int (nI j), .int (nI n), .null]) ms_J3_checkIndex_8e157 ml_RJ0_1059 (c_ckI0 h hn) rfl rfl (Nat.le_of_ble_eq_true rfl) ⟨by decide, by decide⟩ dJ0_checkIndex_df160_5 ?_
    refine r_pop K rfl dJ0_checkIndex_df160_8 ?_
    exact r_vret K hr ⟨rfl, rfl, rfl⟩ dJ0_checkIndex_df160_9
  · refine r_callSp K (As := [.int (nI j), .int (nI n), .ref t]) ms_J3_checkIndex_8e157 ml_RJ0_1059 (c_ckI1 t h hn) rfl rfl (Nat.le_of_ble_eq_true rfl) ⟨by decide, by decide⟩ dJ0_checkIndex_df160_5 ?_
    refine r_pop K rfl dJ0_checkIndex_df160_8 ?_
    exact r_vret K hr ⟨rfl, rfl, rfl⟩ dJ0_checkIndex_df160_9
theorem c_chL {g : Gp} {lau : Launch} {ad : Nat → Nat} {σ : Sg} {i j : Nat} (hi : i < 13) (hj : j < wl0 i) : Con g lau yJ1_charAt_3b067 cJ1_charAt_3b067 2 (some .char) 2 43 [.ref (g.aV i), .int (nI j)] ad σ (pu (.int (nI (wc i j))) ad σ) := by
  obtain ⟨q1, q2, q3⟩ := str_ok i hi
  obtain ⟨q4, q5⟩ := q3 j hj
  refine con_mk (by decide) (Nat.le_of_ble_eq_true rfl) (fun x hxl K hr => ?_)
  subst hxl
  refine r_lv (lv' := [(0, .ref (g.aV i)), (1, .int (nI j))]) rfl ?_
  refine r_iload_n K 1 rfl rfl dJ1_charAt_3b067_0 ?_
  refine r_aload_n K 0 rfl rfl dJ1_charAt_3b067_1 ?_
  refine r_strL K hi dJ1_charAt_3b067_2 ?_
  refine r_callS K (As := [.int (nI j), .int (nI (lenS.getD i 0))]) (rest := []) ms_J0_checkIndex_df160 ml_RJ1_9 (c_ckS (by rw [q1]; exact hj) (by rw [q1]; exact q2)) rfl rfl (Nat.le_of_ble_eq_true rfl) ⟨by decide, by decide⟩ dJ1_charAt_3b067_3 (fun r_ ad_ s_ h_ => ?_)
  obtain ⟨rfl, rfl, rfl⟩ := h_
  refine r_st (st' := []) rfl ?_
  refine r_aload_n K 0 rfl rfl dJ1_charAt_3b067_6 ?_
  refine r_iload_n K 1 rfl rfl dJ1_charAt_3b067_7 ?_
  refine r_strB K hi (by rw [q1]; exact hj) (by rw [q1]; exact q2) dJ1_charAt_3b067_8 ?_
  refine r_sipush K (nI 255) (by decide) dJ1_charAt_3b067_9 ?_
  refine r_iand K dJ1_charAt_3b067_12 ?_
  refine r_i2c K dJ1_charAt_3b067_13 ?_
  refine r_topi (b := nI (wc i j)) q4 ?_
  exact r_nret K hr (pk_charN (by omega)).1 ⟨rfl, rfl, rfl⟩ dJ1_charAt_3b067_14
theorem c_coder {g : Gp} {lau : Launch} {ad : Nat → Nat} {σ : Sg} {i : Nat} (hi : i < 13) : Con g lau yJ0_coder_7d493 cJ0_coder_7d493 1 (some .byte) 0 0 [.ref (g.aK i)] ad σ (pu (.int 0) ad σ) := by
  refine con_mk (by decide) (Nat.le_of_ble_eq_true rfl) (fun x hxl K hr => ?_)
  refine r_lv (lv' := [(0, .ref (g.aK i))]) rfl ?_
  refine r_getsC K fl_RJ0_38 dJ0_coder_7d493_0 ?_
  refine r_if_eq K 13 dJ0_coder_7d493_3 (by decide) (fun z => absurd z (by decide)) (fun _ => ?_)
  refine r_aload_n K 0 rfl rfl dJ0_coder_7d493_6 ?_
  refine r_strC K hi fl_RJ0_15 dJ0_coder_7d493_7 ?_
  refine r_goto K 14 dJ0_coder_7d493_10 (by decide) ?_
  exact r_nret K hr (by decide) ⟨rfl, rfl, rfl⟩ dJ0_coder_7d493_14
theorem c_isLatin1 {g : Gp} {lau : Launch} {ad : Nat → Nat} {σ : Sg} {i : Nat} (hi : i < 13) : Con g lau yJ0_isLatin1_aae02 cJ0_isLatin1_aae02 1 (some .boolean) 0 0 [.ref (g.aK i)] ad σ (pu (.int (bI true)) ad σ) := by
  refine con_mk (by decide) (Nat.le_of_ble_eq_true rfl) (fun x hxl K hr => ?_)
  refine r_lv (lv' := [(0, .ref (g.aK i))]) rfl ?_
  refine r_getsC K fl_RJ0_38 dJ0_isLatin1_aae02_0 ?_
  refine r_if_eq K 17 dJ0_isLatin1_aae02_3 (by decide) (fun z => absurd z (by decide)) (fun _ => ?_)
  refine r_aload_n K 0 rfl rfl dJ0_isLatin1_aae02_6 ?_
  refine r_strC K hi fl_RJ0_15 dJ0_isLatin1_aae02_7 ?_
  refine r_if_ne K 17 dJ0_isLatin1_aae02_10 (by decide) (fun z => absurd rfl z) (fun _ => ?_)
  refine r_iconst K (nI 1) (by decide) dJ0_isLatin1_aae02_13 ?_
  refine r_goto K 18 dJ0_isLatin1_aae02_14 (by decide) ?_
  exact r_zret K (b := true) hr ⟨rfl, rfl, rfl⟩ dJ0_isLatin1_aae02_18
theorem c_slen {g : Gp} {lau : Launch} {ad : Nat → Nat} {σ : Sg} {i : Nat} (hi : i < 13) : Con g lau yJ0_length_8abf5 cJ0_length_8abf5 1 (some .int) 1 20 [.ref (g.aK i)] ad σ (pu (.int (nI (wl0 i))) ad σ) := by
  obtain ⟨q1, q2, q3⟩ := str_ok i hi
  refine con_mk (by decide) (Nat.le_of_ble_eq_true rfl) (fun x hxl K hr => ?_)
  subst hxl
  refine r_lv (lv' := [(0, .ref (g.aK i))]) rfl ?_
  refine r_aload_n K 0 rfl rfl dJ0_length_8abf5_0 ?_
  refine r_strV K hi fl_RJ0_9 dJ0_length_8abf5_1 ?_
  refine r_strL K hi dJ0_length_8abf5_4 ?_
  refine r_aload_n K 0 rfl rfl dJ0_length_8abf5_5 ?_
  refine r_callK K hi (As := []) mv_J0_coder_7d493 rfl ml_RJ0_335 (c_coder hi) rfl rfl (Nat.le_of_ble_eq_true rfl) ⟨by decide, by decide⟩ dJ0_length_8abf5_6 ?_
  refine r_ishr K dJ0_length_8abf5_9 ?_
  refine r_topi (b := nI (wl0 i)) (by rw [q1]; have := nI_shr (s := wl0 i) (k := 0) q2 (by decide); rw [Nat.pow_zero, Nat.div_one] at this; exact this) ?_
  exact r_iret K hr ⟨rfl, rfl, rfl⟩ dJ0_length_8abf5_10
theorem c_chr {g : Gp} {lau : Launch} {ad : Nat → Nat} {σ : Sg} {i j : Nat} (hi : i < 13) (hj : j < wl0 i) : Con g lau yJ0_charAt_5068e cJ0_charAt_5068e 2 (some .char) 3 64 [.ref (g.aK i), .int (nI j)] ad σ (pu (.int (nI (wc i j))) ad σ) := by
  refine con_mk (by decide) (Nat.le_of_ble_eq_true rfl) (fun x hxl K hr => ?_)
  subst hxl
  refine r_lv (lv' := [(0, .ref (g.aK i)), (1, .int (nI j))]) rfl ?_
  refine r_aload_n K 0 rfl rfl dJ0_charAt_5068e_0 ?_
  refine r_callK K hi (As := []) mv_J0_isLatin1_aae02 rfl ml_RJ0_492 (c_isLatin1 hi) rfl rfl (Nat.le_of_ble_eq_true rfl) ⟨by decide, by decide⟩ dJ0_charAt_5068e_1 ?_
  refine b_if_eq K 16 dJ0_charAt_5068e_4 (by decide) (fun z => absurd z (by decide)) (fun _ => ?_)
  refine r_aload_n K 0 rfl rfl dJ0_charAt_5068e_7 ?_
  refine r_strV K hi fl_RJ0_9 dJ0_charAt_5068e_8 ?_
  refine r_iload_n K 1 rfl rfl dJ0_charAt_5068e_11 ?_
  refine r_callSp K (As := [.ref (g.aV i), .int (nI j)]) ms_J1_charAt_3b067 ml_RJ0_495 (c_chL hi hj) rfl rfl (Nat.le_of_ble_eq_true rfl) ⟨by decide, by decide⟩ dJ0_charAt_5068e_12 ?_
  exact r_nret K hr (pk_charN (by have := ((str_ok i hi).2.2 j hj).2; omega)).1 ⟨rfl, rfl, rfl⟩ dJ0_charAt_5068e_15
