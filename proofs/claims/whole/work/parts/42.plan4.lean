def ansS (o : Option (List Nat)) (i : Int32) : Int32 := match o with
  | none => -1
  | some ms => if i = -2 then nI ms.length else if i = -1 then nI (runL 0 ms) else if i < nI ms.length then nI (ms.getD i.toInt.toNat 0) else -1
theorem neg_lt {n : Nat} {v : Int32} (h : n < 2 ^ 31) (hv : v < 0) : v < nI n := by
  rw [Int32.lt_iff_toInt_lt, nI_toInt h]
  have := neg_toInt hv
  omega
theorem ans_hi {ms : List Nat} {i : Int32} (hl : ms.length ≤ 24) (h : ¬ i < nI ms.length) : ansS (some ms) i = -1 := by
  unfold ansS
  show (if i = -2 then _ else if i = -1 then _ else if i < nI ms.length then _ else _) = _
  rw [if_neg (fun z => h (by rw [z]; exact neg_lt (by omega) (by decide))), if_neg (fun z => h (by rw [z]; exact neg_lt (by omega) (by decide))), if_neg h]
theorem ans_ix {ms : List Nat} {j : Nat} (hl : ms.length ≤ 24) (h : j < ms.length) : ansS (some ms) (nI j) = nI (ms.getD j 0) := by
  unfold ansS
  show (if nI j = -2 then _ else if nI j = -1 then _ else if nI j < nI ms.length then _ else _) = _
  rw [if_neg (fun z => by have := nI_toInt (show j < 2 ^ 31 by omega); rw [z] at this; have h2 : (-2 : Int32).toInt = -2 := (by decide); omega), if_neg (fun z => nI_m1 (by omega) z), if_pos ((nI_ltI (by omega) (by omega)).mpr h), nI_nat (by omega)]
theorem neg_two {i : Int32} (h1 : ¬ i < -2) (h2 : i < 0) (h3 : i ≠ -1) : i = -2 := by
  rw [Int32.lt_iff_toInt_lt] at h1 h2
  have e2 : (-2 : Int32).toInt = -2 := by decide
  have e0 : (0 : Int32).toInt = 0 := by decide
  have e1 : (-1 : Int32).toInt = -1 := by decide
  apply Int32.toInt_inj.mp
  have : i.toInt ≠ -1 := fun z => h3 (Int32.toInt_inj.mp (z.trans e1.symm))
  omega
def keptL (ms : List Nat) (h : Nat) : Nat := if ms.length < 1 then 0 else ms.getD (min h (ms.length - 1)) 0
def fH (T : Tv) (b : Nat) (ms : List Nat) (r l h : Nat) : Bool := decide (h < ms.length ∧ plc T b ms h ≠ 160 ∧ plc T b ms h / 20 = r ∧ ms.getD h 0 = l)
def firstF (f : Nat → Bool) : Nat → Nat → Int32
  | 0, _ => -1
  | n + 1, h => if f h = true then nI h else firstF f n (h + 1)
theorem lnD_at {T : Tv} (hT : TOk T) {b : Nat} {ms : List Nat} {s : Sg} (hd : lnD T b ms 24 s) (hx : x34 s) (h6 : sixL ms) (r l h : Nat) (hh : h < 24) : ∃ p x, s.A 33 h = nI p ∧ s.A 34 h = nI x ∧ p ≤ 160 ∧ x < 6 ∧ (fH T b ms r l h = true ↔ p ≠ 160 ∧ p / 20 = r ∧ x = l) := by
  obtain ⟨x, hx1, hx2⟩ := hx h hh
  by_cases q : h < ms.length
  · obtain ⟨g1, g2⟩ := (hd h hh).1 q
    refine ⟨_, _, g1, g2, validP_le hT (endP_valid hT (validP_start hT)), six_at h6 h, ?_⟩
    unfold fH
    rw [decide_eq_true_iff]
    exact ⟨fun z => z.2, fun z => ⟨q, z⟩⟩
  · refine ⟨_, _, (hd h hh).2 (by omega), hx2, by decide, hx1, ?_⟩
    unfold fH
    rw [decide_eq_true_iff]
    exact ⟨fun z => absurd z.1 q, fun z => absurd rfl z.1⟩
theorem first_no {f : Nat → Bool} {h : Nat} (hh : h < 24) (hf : ¬ f h = true) {v : Int32} (hv : v = firstF f (24 - h) h) : v = firstF f (24 - (h + 1)) (h + 1) := by
  rw [hv, show 24 - h = (24 - (h + 1)) + 1 by omega, firstF, if_neg hf]
theorem first_yes {f : Nat → Bool} {h : Nat} (hh : h < 24) (hf : f h = true) {v : Int32} (hv : v = firstF f (24 - h) h) : v = nI h := by
  rw [hv, show 24 - h = (24 - (h + 1)) + 1 by omega, firstF, if_pos hf]
set_option maxHeartbeats 400000 in
set_option maxRecDepth 10000 in
theorem c_answerOf {g : Gp} {lau : Launch} {ad : Nat → Nat} {σ : Sg} {o : Option (List Nat)} {n : Nat} (hn : n < 112) (hs : slotR o n σ) (hk : ∀ ms, o = some ms → sixL ms ∧ ms.length ≤ 24) (i : Int32) (hi : ¬ i < -2) : Con g lau yX3_answerOf cX3_answerOf 4 (Option.some .int) 1 25 [.ref (ad 69), .int (nI (n)), .int (i)] ad σ (pu (.int (ansS o i)) ad σ) := by
  refine con_mk (by decide) (Nat.le_of_ble_eq_true rfl) (fun x hxl K hr => ?_)
  subst hxl
  refine r_lv (lv' := [(0, .ref (ad 69)), (1, .int (nI (n))), (2, .int (i))]) rfl ?_
  rcases hq : o with _ | ms
  · rw [hq] at hs
    refine r_aload_n K 0 rfl rfl dX3_answerOf_0 ?_
    refine get_69_0 K fl_RX3_11 dX3_answerOf_1 ?_
    refine r_iload_n K 1 rfl rfl dX3_answerOf_4 ?_
    refine r_iald K 28 (n := 112) (by decide) rfl rfl (by decide) (by omega) dX3_answerOf_5 ?_
    refine r_topi (b := (-1)) (hs) ?_
    refine r_istore_n K (lv' := [(3, .int (-1)), (0, .ref (ad 69)), (1, .int (nI (n))), (2, .int (i))]) 3 rfl (by decide) rfl dX3_answerOf_6 ?_
    refine r_iload_n K 3 rfl rfl dX3_answerOf_7 ?_
    refine r_iconst K ((-1)) (by decide) dX3_answerOf_8 ?_
    refine r_icmp_eq K 17 dX3_answerOf_9 (by decide) (fun _ => ?_) (fun z => absurd z (by decide))
    refine r_iconst K ((-1)) (by decide) dX3_answerOf_17 ?_
    exact r_iret K hr (⟨by rw [hq]; rfl, rfl, rfl⟩) dX3_answerOf_18
  · rw [hq] at hs
    have hk2 := hk ms hq
    refine r_aload_n K 0 rfl rfl dX3_answerOf_0 ?_
    refine get_69_0 K fl_RX3_11 dX3_answerOf_1 ?_
    refine r_iload_n K 1 rfl rfl dX3_answerOf_4 ?_
    refine r_iald K 28 (n := 112) (by decide) rfl rfl (by decide) (by omega) dX3_answerOf_5 ?_
    refine r_topi (b := (nI (ms.length))) (hs.1) ?_
    refine r_istore_n K (lv' := [(3, .int (nI (ms.length))), (0, .ref (ad 69)), (1, .int (nI (n))), (2, .int (i))]) 3 rfl (by decide) rfl dX3_answerOf_6 ?_
    refine r_iload_n K 3 rfl rfl dX3_answerOf_7 ?_
    refine r_iconst K ((-1)) (by decide) dX3_answerOf_8 ?_
    refine r_icmp_eq K 17 dX3_answerOf_9 (by decide) (fun h9 => absurd h9 (fun z => nI_m1 (by omega) z)) (fun h9 => ?_)
    refine r_iload_n K 2 rfl rfl dX3_answerOf_12 ?_
    refine r_iload_n K 3 rfl rfl dX3_answerOf_13 ?_
    refine r_icmp_lt K 19 dX3_answerOf_14 (by decide) (fun h14 => ?_) (fun h14 => ?_)
    · refine r_iload_n K 2 rfl rfl dX3_answerOf_19 ?_
      refine r_if_ge K 39 dX3_answerOf_20 (by decide) (fun h20 => ?_) (fun h20 => ?_)
      · obtain ⟨j, hj, rfl⟩ := nI_of (x := i) (fun z => by have q1 := neg_toInt z; have q2 := Int32.le_iff_toInt_le.mp h20; have q3 : (0 : Int32).toInt = 0 := (by decide); omega)
        have hjl := (nI_ltI hj (by omega)).mp h14
        refine r_aload_n K 0 rfl rfl dX3_answerOf_39 ?_
        refine r_iload_n K 1 rfl rfl dX3_answerOf_40 ?_
        refine r_iload_n K 2 rfl rfl dX3_answerOf_41 ?_
        refine r_callVp K 69 (As := [.int (nI (n)), .int (nI (j))]) mv_X3_layerIn ml_RX3_62 (c_layerIn (ms := ms) (n := n) (i := j) hn hs hk2.1 hk2.2 hjl) (by decide) rfl rfl rfl rfl (Nat.le_of_ble_eq_true rfl) ⟨by decide, by decide⟩ dX3_answerOf_42 ?_
        exact r_iret K hr (⟨by rw [hq, ans_ix hk2.2 hjl], rfl, rfl⟩) dX3_answerOf_45
      · refine r_iload_n K 2 rfl rfl dX3_answerOf_23 ?_
        refine r_iconst K ((-1)) (by decide) dX3_answerOf_24 ?_
        refine r_icmp_ne K 37 dX3_answerOf_25 (by decide) (fun h25 => ?_) (fun h25 => ?_)
        · refine r_iload_n K 3 rfl rfl dX3_answerOf_37 ?_
          exact r_iret K hr (⟨by have q2 : i = -2 := neg_two hi (Int32.not_le.mp h20) h25; rw [hq, q2]; rfl, rfl, rfl⟩) dX3_answerOf_38
        · refine r_aload_n K 0 rfl rfl dX3_answerOf_28 ?_
          refine get_69_2 K fl_RX3_15 dX3_answerOf_29 ?_
          refine r_iload_n K 1 rfl rfl dX3_answerOf_32 ?_
          refine r_iald K 29 (n := 112) (by decide) rfl rfl (by decide) (by omega) dX3_answerOf_33 ?_
          refine r_topi (b := (nI (runL 0 ms))) (hs.2.1) ?_
          refine r_goto K 38 dX3_answerOf_34 (by decide) ?_
          exact r_iret K hr (⟨by rw [hq, h25]; rfl, rfl, rfl⟩) dX3_answerOf_38
    · refine r_iconst K ((-1)) (by decide) dX3_answerOf_17 ?_
      exact r_iret K hr (⟨by rw [hq, ans_hi hk2.2 h14], rfl, rfl⟩) dX3_answerOf_18

set_option maxHeartbeats 400000 in
set_option maxRecDepth 10000 in
theorem c_layerKept {g : Gp} {lau : Launch} {ad : Nat → Nat} {σ : Sg} {ms : List Nat} {n h : Nat} (hn : n < 112) (hs : slotR (some ms) n σ) (h6 : sixL ms) (hl : ms.length ≤ 24) (hh : h < 2 ^ 31) : Con g lau yX3_layerKept cX3_layerKept 4 (Option.some .int) 1 25 [.ref (ad 69), .int (nI (n)), .int (nI (h))] ad σ (pu (.int (nI (keptL ms h))) ad σ) := by
  refine con_mk (by decide) (Nat.le_of_ble_eq_true rfl) (fun x hxl K hr => ?_)
  subst hxl
  refine r_lv (lv' := [(0, .ref (ad 69)), (1, .int (nI (n))), (2, .int (nI (h)))]) rfl ?_
  refine r_aload_n K 0 rfl rfl dX3_layerKept_0 ?_
  refine get_69_0 K fl_RX3_11 dX3_layerKept_1 ?_
  refine r_iload_n K 1 rfl rfl dX3_layerKept_4 ?_
  refine r_iald K 28 (n := 112) (by decide) rfl rfl (by decide) (by omega) dX3_layerKept_5 ?_
  refine r_topi (b := (nI (ms.length))) (hs.1) ?_
  refine r_istore_n K (lv' := [(3, .int (nI (ms.length))), (0, .ref (ad 69)), (1, .int (nI (n))), (2, .int (nI (h)))]) 3 rfl (by decide) rfl dX3_layerKept_6 ?_
  refine r_iload_n K 3 rfl rfl dX3_layerKept_7 ?_
  refine r_iconst K ((nI (1))) (by decide) dX3_layerKept_8 ?_
  refine n_icmp_ge K 16 (by omega) (by omega) dX3_layerKept_9 (by decide) (fun h9 => ?_) (fun h9 => ?_)
  · refine r_aload_n K 0 rfl rfl dX3_layerKept_16 ?_
    refine r_iload_n K 1 rfl rfl dX3_layerKept_17 ?_
    refine r_iload_n K 2 rfl rfl dX3_layerKept_18 ?_
    refine r_iload_n K 3 rfl rfl dX3_layerKept_19 ?_
    refine r_iconst K ((nI (1))) (by decide) dX3_layerKept_20 ?_
    refine r_isub K dX3_layerKept_21 ?_
    refine r_topi (b := (nI (ms.length - 1))) (pk_sub (by omega)) ?_
    refine r_mmin K ml_RX3_66 (by decide) (Nat.le_of_ble_eq_true rfl) dX3_layerKept_22 ?_
    refine r_topi (b := (nI (min h (ms.length - 1)))) (nI_min (by omega) (by omega)) ?_
    refine r_callVp K 69 (As := [.int (nI (n)), .int (nI (min h (ms.length - 1)))]) mv_X3_layerIn ml_RX3_62 (c_layerIn (ms := ms) (n := n) (i := min h (ms.length - 1)) hn hs h6 hl (by omega)) (by decide) rfl rfl rfl rfl (Nat.le_of_ble_eq_true rfl) ⟨by decide, by decide⟩ dX3_layerKept_25 ?_
    exact r_iret K hr (⟨by rw [keptL, if_neg (by omega)], rfl, rfl⟩) dX3_layerKept_28
  · refine r_iconst K ((nI (0))) (by decide) dX3_layerKept_12 ?_
    refine r_goto K 28 dX3_layerKept_13 (by decide) ?_
    exact r_iret K hr (⟨by rw [keptL, if_pos (by omega)], rfl, rfl⟩) dX3_layerKept_28

set_option maxHeartbeats 400000 in
set_option maxRecDepth 10000 in
theorem c_hourIn {g : Gp} {lau : Launch} {ad : Nat → Nat} {σ : Sg} {T : Tv} (hT : TOk T) (hR : RepC T σ) {b n r l : Nat} {o : Option (List Nat)} (hb : b < 4) (hn : n < 112) (hr1 : r < 2 ^ 31) (hl1 : l < 2 ^ 31) (hs : slotR o n σ) (hk : ∀ ms, o = some ms → okP T b kn0 0 (startS T) 0 ms) (hx : x34 σ) (h6 : sixL (oL o)) : Con g lau yX3_hourIn cX3_hourIn 7 (Option.some .int) 4 99 [.ref (ad 69), .int (nI (b)), .int (nI (n)), .int (nI (r)), .int (nI (l))] ad σ (fun rr a2 s2 => some (.int (firstF (fH T b (oL o) r l) 24 0)) = rr ∧ ad = a2 ∧ same [33, 34] [] [] false σ s2 ∧ x34 s2) := by
  refine con_mk (by decide) (Nat.le_of_ble_eq_true rfl) (fun x hxl K hr => ?_)
  subst hxl
  refine r_lv (lv' := [(0, .ref (ad 69)), (1, .int (nI (b))), (2, .int (nI (n))), (3, .int (nI (r))), (4, .int (nI (l)))]) rfl ?_
  refine r_aload_n K 0 rfl rfl dX3_hourIn_0 ?_
  refine r_iload_n K 1 rfl rfl dX3_hourIn_1 ?_
  refine r_iload_n K 2 rfl rfl dX3_hourIn_2 ?_
  refine r_callV K 69 (As := [.int (nI (b)), .int (nI (n))]) (rest := []) mv_X3_draw ml_RX3_58 (c_draw hT hR hb hn hs hk hx) (by decide) rfl rfl rfl rfl (Nat.le_of_ble_eq_true rfl) ⟨by decide, by decide⟩ dX3_hourIn_3 (fun r_d ad_d s_d h_d => ?_)
  obtain ⟨rfl, rfl, hsd, hdr, hx2⟩ := h_d
  refine r_st (st' := []) rfl ?_
  refine r_iconst K ((nI (0))) (by decide) dX3_hourIn_6 ?_
  refine r_istore K (lv' := [(5, .int (nI (0))), (0, .ref (ad 69)), (1, .int (nI (b))), (2, .int (nI (n))), (3, .int (nI (r))), (4, .int (nI (l)))]) (by decide) rfl dX3_hourIn_7 ?_
  refine r_pick [1, 2, 3, 4, 5, 0] (lv' := [(0, .ref (ad 69)), (1, .int (nI (b))), (2, .int (nI (n))), (3, .int (nI (r))), (4, .int (nI (l))), (5, .int (nI (0)))]) rfl ?_
  have lpA : ∀ (mm_ : Nat) (h : Nat), mm_ = 24 - h → (h ≤ 24) → (firstF (fH T b (oL o) r l) 24 0 = firstF (fH T b (oL o) r l) (24 - h) h) → GJ g x 7 9 [(0, .ref (ad 69)), (1, .int (nI (b))), (2, .int (nI (n))), (3, .int (nI (r))), (4, .int (nI (l))), (5, .int (nI (h)))] [] ad (s_d) := by
    intro mm_
    induction mm_ using Nat.strongRecOn with
    | _ mm_ ihA =>
      intro h hmA hh hf
      refine r_iload K rfl dX3_hourIn_9 ?_
      refine r_bipush K ((nI (24))) (by decide) dX3_hourIn_11 ?_
      refine n_icmp_ge K 69 (by omega) (by omega) dX3_hourIn_13 (by decide) (fun h13 => ?_) (fun h13 => ?_)
      · refine r_iconst K ((-1)) (by decide) dX3_hourIn_69 ?_
        exact r_iret K hr (⟨by rw [hf, show 24 - h = 0 by omega]; rfl, rfl, hsd, hx2⟩) dX3_hourIn_70
      · obtain ⟨p, xx, hp1, hx1, hp2, hx3, hfi⟩ := lnD_at hT hdr hx2 h6 r l h (by omega)
        refine r_aload_n K 0 rfl rfl dX3_hourIn_16 ?_
        refine get_69_5 K fl_RX3_29 dX3_hourIn_17 ?_
        refine get_68_0 K fl_RX3_71 dX3_hourIn_20 ?_
        refine r_iload K rfl dX3_hourIn_23 ?_
        refine r_iald K 33 (n := 24) (by decide) rfl rfl (by decide) (by omega) dX3_hourIn_25 ?_
        refine r_topi (b := (nI (p))) (hp1) ?_
        refine r_istore K (lv' := [(6, .int (nI (p))), (0, .ref (ad 69)), (1, .int (nI (b))), (2, .int (nI (n))), (3, .int (nI (r))), (4, .int (nI (l))), (5, .int (nI (h)))]) (by decide) rfl dX3_hourIn_26 ?_
        refine r_iload K rfl dX3_hourIn_28 ?_
        refine r_sipush K ((nI (160))) (by decide) dX3_hourIn_30 ?_
        refine n_icmp_eq K 63 (by omega) (by omega) dX3_hourIn_33 (by decide) (fun h33 => ?_) (fun h33 => ?_)
        · refine r_iinc K ((nI (h + 1))) rfl (nI_1 _) (lv' := [(5, .int (nI (h + 1))), (6, .int (nI (p))), (0, .ref (ad 69)), (1, .int (nI (b))), (2, .int (nI (n))), (3, .int (nI (r))), (4, .int (nI (l)))]) (by decide) rfl dX3_hourIn_63 ?_
          refine r_goto K 9 dX3_hourIn_66 (by decide) ?_
          refine r_pick [2, 3, 4, 5, 6, 0] (lv' := [(0, .ref (ad 69)), (1, .int (nI (b))), (2, .int (nI (n))), (3, .int (nI (r))), (4, .int (nI (l))), (5, .int (nI (h + 1)))]) rfl ?_
          exact ihA _ (by omega) (h + 1) rfl (by omega) (first_no (by omega) (fun z => by obtain ⟨z1, z2, z3⟩ := hfi.mp z; first | exact absurd h33 z1 | exact absurd z2 h42 | exact absurd z3 h57) hf)
        · refine r_iload K rfl dX3_hourIn_36 ?_
          refine r_bipush K ((nI (20))) (by decide) dX3_hourIn_38 ?_
          refine r_idiv K (nI_ne0 (by omega) (by omega)) dX3_hourIn_40 ?_
          refine r_topi (pk_div (by omega) (by omega) (by omega)) ?_
          refine r_iload_n K 3 rfl rfl dX3_hourIn_41 ?_
          refine n_icmp_ne K 63 (by omega) (by omega) dX3_hourIn_42 (by decide) (fun h42 => ?_) (fun h42 => ?_)
          · refine r_iinc K ((nI (h + 1))) rfl (nI_1 _) (lv' := [(5, .int (nI (h + 1))), (6, .int (nI (p))), (0, .ref (ad 69)), (1, .int (nI (b))), (2, .int (nI (n))), (3, .int (nI (r))), (4, .int (nI (l)))]) (by decide) rfl dX3_hourIn_63 ?_
            refine r_goto K 9 dX3_hourIn_66 (by decide) ?_
            refine r_pick [2, 3, 4, 5, 6, 0] (lv' := [(0, .ref (ad 69)), (1, .int (nI (b))), (2, .int (nI (n))), (3, .int (nI (r))), (4, .int (nI (l))), (5, .int (nI (h + 1)))]) rfl ?_
            exact ihA _ (by omega) (h + 1) rfl (by omega) (first_no (by omega) (fun z => by obtain ⟨z1, z2, z3⟩ := hfi.mp z; first | exact absurd h33 z1 | exact absurd z2 h42 | exact absurd z3 h57) hf)
          · refine r_aload_n K 0 rfl rfl dX3_hourIn_45 ?_
            refine get_69_5 K fl_RX3_29 dX3_hourIn_46 ?_
            refine get_68_1 K fl_RX3_74 dX3_hourIn_49 ?_
            refine r_iload K rfl dX3_hourIn_52 ?_
            refine r_iald K 34 (n := 24) (by decide) rfl rfl (by decide) (by omega) dX3_hourIn_54 ?_
            refine r_topi (b := (nI (xx))) (hx1) ?_
            refine r_iload K rfl dX3_hourIn_55 ?_
            refine n_icmp_ne K 63 (by omega) (by omega) dX3_hourIn_57 (by decide) (fun h57 => ?_) (fun h57 => ?_)
            · refine r_iinc K ((nI (h + 1))) rfl (nI_1 _) (lv' := [(5, .int (nI (h + 1))), (6, .int (nI (p))), (0, .ref (ad 69)), (1, .int (nI (b))), (2, .int (nI (n))), (3, .int (nI (r))), (4, .int (nI (l)))]) (by decide) rfl dX3_hourIn_63 ?_
              refine r_goto K 9 dX3_hourIn_66 (by decide) ?_
              refine r_pick [2, 3, 4, 5, 6, 0] (lv' := [(0, .ref (ad 69)), (1, .int (nI (b))), (2, .int (nI (n))), (3, .int (nI (r))), (4, .int (nI (l))), (5, .int (nI (h + 1)))]) rfl ?_
              exact ihA _ (by omega) (h + 1) rfl (by omega) (first_no (by omega) (fun z => by obtain ⟨z1, z2, z3⟩ := hfi.mp z; first | exact absurd h33 z1 | exact absurd z2 h42 | exact absurd z3 h57) hf)
            · refine r_iload K rfl dX3_hourIn_60 ?_
              exact r_iret K hr (⟨by rw [first_yes (by omega) (hfi.mpr ⟨h33, h42, h57⟩) hf], rfl, hsd, hx2⟩) dX3_hourIn_62
  exact lpA _ (0) rfl (by omega) (rfl)

theorem pl_six {T : Tv} {b : Nat} {kn : Nat → Nat → Nat → Bool} {h : Nat} (hh : h ≤ 24) : ∀ ms, plS T b kn h = some ms → sixL ms ∧ ms.length ≤ 24 := fun ms e => ⟨okP_six (pl_ok e), by have := okP_len (pl_ok e) hh; omega⟩
noncomputable def soS (T : Tv) (b h i : Int32) : Int32 := if hasB T b = true ∧ isH h = true then (if i < -2 then -3 else ansS (plS T b.toInt.toNat kn0 h.toInt.toNat) i) else -2
noncomputable def clS (T : Tv) (b o i : Int32) : Int32 := if hasB T b = true ∧ hasB T o = true then (if b = o ∨ i < -2 then -3 else if plS T o.toInt.toNat kn0 0 = none then -4 else ansS (plS T b.toInt.toNat (knL T o.toInt.toNat (plS T o.toInt.toNat kn0 0)) 1) i) else -2
noncomputable def fdF (T : Tv) (r l : Nat) : Nat → Bool := fun b => decide (T 5 b = 1) && !decide (firstF (fH T b (oL (plS T b kn0 0)) r l) 24 0 = -1)
noncomputable def fdS (T : Tv) (r l : Int32) : Int32 := if hasR T r = true ∧ isL l = true then nI (bitS (fdF T r.toInt.toNat l.toInt.toNat) 4) else -2
noncomputable def fsS (T : Tv) (b r l : Int32) : Int32 := if hasB T b = true ∧ hasR T r = true ∧ isL l = true then firstF (fH T b.toInt.toNat (oL (plS T b.toInt.toNat kn0 0)) r.toInt.toNat l.toInt.toNat) 24 0 else -2
noncomputable def bkN (T : Tv) (b : Nat) : Nat → Nat → Nat
  | 0, _ => 0
  | f + 1, h => if h < 24 then (match plS T b kn0 h with | none => 0 | some ms => 1 + bkN T b f (h + ms.length)) else 0
noncomputable def bkR (T : Tv) (b w : Int32) : Int32 := if hasB T b = true then (if inS w (nI 0) (nI 1) = true then (if T 10 0 = 0 then -4 else if w = nI 0 then nI (bkN T b.toInt.toNat 24 0) else nI (bkN T b.toInt.toNat 24 0 * T 9 b.toInt.toNat)) else -3) else -2
theorem plE_C {T : Tv} {σ s : Sg} (h : RepC T σ) (hs : plE σ s) : RepC T s := h.same hs (by intro k hk; simp; omega) (by simp)
theorem plE_33 {σ s s2 : Sg} (h : plE σ s) (h2 : same [33, 34] [] [] false s s2) : plE σ s2 := same_tr h (same_w h2 (by simp) (by simp) (by simp) id)
theorem RepP_33 {T : Tv} {s s2 : Sg} (h : RepP T s) (h2 : same [33, 34] [] [] false s s2) (hx : x34 s2) : RepP T s2 :=
  ⟨fun i hi => by rw [h2.1 31 (by simp), h2.1 32 (by simp)]; exact h.1 i hi, hx, cach_same h.2.2 h2 (by simp) (by simp) (by simp)⟩
set_option maxHeartbeats 400000 in
set_option maxRecDepth 10000 in
theorem c_soonest {g : Gp} {lau : Launch} {ad : Nat → Nat} {σ : Sg} {T : Tv} (hT : TOk T) (hR : RepC T σ) (hP : RepP T σ) (b h i : Int32) : Con g lau yX6_soonest cX6_soonest 4 (Option.some .int) 6 155 [.ref (ad 61), .int (b), .int (h), .int (i)] ad σ (fun rr a2 s2 => some (.int (soS T b h i)) = rr ∧ adE ad a2 ∧ plE σ s2 ∧ RepP T s2) := by
  refine con_mk (by decide) (Nat.le_of_ble_eq_true rfl) (fun x hxl K hr => ?_)
  subst hxl
  refine r_lv (lv' := [(0, .ref (ad 61)), (1, .int (b)), (2, .int (h)), (3, .int (i))]) rfl ?_
  have hn8 := hT.2.1
  have hn9 := hT.2.2.1
  refine r_aload_n K 0 rfl rfl dX6_soonest_0 ?_
  refine get_61_0 K fl_RX6_12 dX6_soonest_1 ?_
  refine r_iload_n K 1 rfl rfl dX6_soonest_4 ?_
  refine r_callVp K 62 (As := [.int (b)]) mv_X4_hasBarge ml_RX6_105 (c_hasBarge hT hR ((b))) (by decide) rfl rfl rfl rfl (Nat.le_of_ble_eq_true rfl) ⟨by decide, by decide⟩ dX6_soonest_5 ?_
  refine b_if_eq K 18 dX6_soonest_8 (by decide) (fun h8 => ?_) (fun h8 => ?_)
  · refine r_bipush K ((-2)) (by decide) dX6_soonest_18 ?_
    exact r_iret K hr (⟨by first | rw [soS, if_neg (by simp [*])] | simp [soS, *], adE_rf ad, same_rf _ _ _ _ _, hP⟩) dX6_soonest_20
  · obtain ⟨bN, h_bN, rfl, t_bN⟩ := hasB_t h8
    have e_bN : (nI bN).toInt.toNat = bN := nI_nat (by omega)
    refine r_iload_n K 2 rfl rfl dX6_soonest_11 ?_
    refine r_callSp K (As := [.int (h)]) ms_X6_isHour ml_RX6_96 (c_isHour ((h))) rfl rfl (Nat.le_of_ble_eq_true rfl) ⟨by decide, by decide⟩ dX6_soonest_12 ?_
    refine b_if_ne K 21 dX6_soonest_15 (by decide) (fun h15 => ?_) (fun h15 => ?_)
    · obtain ⟨hN, h_hN, rfl⟩ := isH_t h15
      have e_hN : (nI hN).toInt.toNat = hN := nI_nat (by omega)
      refine r_iload_n K 3 rfl rfl dX6_soonest_21 ?_
      refine r_bipush K ((-2)) (by decide) dX6_soonest_22 ?_
      refine r_icmp_ge K 30 dX6_soonest_24 (by decide) (fun h24 => ?_) (fun h24 => ?_)
      · refine r_aload_n K 0 rfl rfl dX6_soonest_30 ?_
        refine get_61_5 K fl_RX6_43 dX6_soonest_31 ?_
        refine r_aload_n K 0 rfl rfl dX6_soonest_34 ?_
        refine get_61_5 K fl_RX6_43 dX6_soonest_35 ?_
        refine r_iload_n K 1 rfl rfl dX6_soonest_38 ?_
        refine r_iload_n K 2 rfl rfl dX6_soonest_39 ?_
        refine r_callV K 69 (As := [.int (nI (bN)), .int (nI (hN))]) (rest := [.ref (ad 69)]) mv_X3_soonestOf ml_RX6_174 (c_soonestOf hT hR hP (b := bN) (h := hN) (by omega) (by omega)) (by decide) rfl rfl rfl rfl (Nat.le_of_ble_eq_true rfl) ⟨by decide, by decide⟩ dX6_soonest_40 (fun r_q ad_q s_q h_q => ?_)
        obtain ⟨rfl, haq, hsq, hPq, hlq⟩ := h_q
        refine r_st (st' := [.int (nI (bN * 24 + hN)), .ref (ad 69)]) rfl ?_
        rw [show ad 61 = ad_q 61 from (haq 61 (by decide)).symm]
        rw [show ad 69 = ad_q 69 from (haq 69 (by decide)).symm]
        refine r_iload_n K 3 rfl rfl dX6_soonest_43 ?_
        refine r_callVp K 69 (As := [.int (nI (bN * 24 + hN)), .int (i)]) mv_X3_answerOf ml_RX6_177 (c_answerOf (o := plS T bN kn0 hN) (n := bN * 24 + hN) (by omega) hlq (pl_six (by omega)) ((i)) (fun z => absurd h24 (Int32.not_le.mpr z))) (by decide) rfl rfl rfl rfl (Nat.le_of_ble_eq_true rfl) ⟨by decide, by decide⟩ dX6_soonest_44 ?_
        exact r_iret K hr (⟨by rw [soS, if_pos ⟨by assumption, by assumption⟩, if_neg (fun z => absurd h24 (Int32.not_le.mpr z)), e_bN, e_hN], haq, hsq, hPq⟩) dX6_soonest_47
      · refine r_bipush K ((-3)) (by decide) dX6_soonest_27 ?_
        exact r_iret K hr (⟨by rw [soS, if_pos ⟨by assumption, by assumption⟩, if_pos (Int32.not_le.mp h24)], adE_rf ad, same_rf _ _ _ _ _, hP⟩) dX6_soonest_29
    · refine r_bipush K ((-2)) (by decide) dX6_soonest_18 ?_
      exact r_iret K hr (⟨by first | rw [soS, if_neg (by simp [*])] | simp [soS, *], adE_rf ad, same_rf _ _ _ _ _, hP⟩) dX6_soonest_20

set_option maxHeartbeats 400000 in
set_option maxRecDepth 10000 in
theorem c_clear {g : Gp} {lau : Launch} {ad : Nat → Nat} {σ : Sg} {T : Tv} (hT : TOk T) (hR : RepC T σ) (hP : RepP T σ) (b o i : Int32) : Con g lau yX6_clear cX6_clear 5 (Option.some .int) 6 156 [.ref (ad 61), .int (b), .int (o), .int (i)] ad σ (fun rr a2 s2 => some (.int (clS T b o i)) = rr ∧ adE ad a2 ∧ plE σ s2 ∧ RepP T s2) := by
  refine con_mk (by decide) (Nat.le_of_ble_eq_true rfl) (fun x hxl K hr => ?_)
  subst hxl
  refine r_lv (lv' := [(0, .ref (ad 61)), (1, .int (b)), (2, .int (o)), (3, .int (i))]) rfl ?_
  have hn8 := hT.2.1
  have hn9 := hT.2.2.1
  refine r_aload_n K 0 rfl rfl dX6_clear_0 ?_
  refine get_61_0 K fl_RX6_12 dX6_clear_1 ?_
  refine r_iload_n K 1 rfl rfl dX6_clear_4 ?_
  refine r_callVp K 62 (As := [.int (b)]) mv_X4_hasBarge ml_RX6_105 (c_hasBarge hT hR ((b))) (by decide) rfl rfl rfl rfl (Nat.le_of_ble_eq_true rfl) ⟨by decide, by decide⟩ dX6_clear_5 ?_
  refine b_if_eq K 22 dX6_clear_8 (by decide) (fun h8 => ?_) (fun h8 => ?_)
  · refine r_bipush K ((-2)) (by decide) dX6_clear_22 ?_
    exact r_iret K hr (⟨by first | rw [clS, if_neg (by simp [*])] | simp [clS, *], adE_rf ad, same_rf _ _ _ _ _, hP⟩) dX6_clear_24
  · obtain ⟨bN, h_bN, rfl, t_bN⟩ := hasB_t h8
    have e_bN : (nI bN).toInt.toNat = bN := nI_nat (by omega)
    refine r_aload_n K 0 rfl rfl dX6_clear_11 ?_
    refine get_61_0 K fl_RX6_12 dX6_clear_12 ?_
    refine r_iload_n K 2 rfl rfl dX6_clear_15 ?_
    refine r_callVp K 62 (As := [.int (o)]) mv_X4_hasBarge ml_RX6_105 (c_hasBarge hT hR ((o))) (by decide) rfl rfl rfl rfl (Nat.le_of_ble_eq_true rfl) ⟨by decide, by decide⟩ dX6_clear_16 ?_
    refine b_if_ne K 25 dX6_clear_19 (by decide) (fun h19 => ?_) (fun h19 => ?_)
    · obtain ⟨oN, h_oN, rfl, t_oN⟩ := hasB_t h19
      have e_oN : (nI oN).toInt.toNat = oN := nI_nat (by omega)
      refine r_iload_n K 1 rfl rfl dX6_clear_25 ?_
      refine r_iload_n K 2 rfl rfl dX6_clear_26 ?_
      refine n_icmp_eq K 36 (by omega) (by omega) dX6_clear_27 (by decide) (fun h27 => ?_) (fun h27 => ?_)
      · refine r_bipush K ((-3)) (by decide) dX6_clear_36 ?_
        exact r_iret K hr (⟨by rw [clS, if_pos ⟨by assumption, by assumption⟩, if_pos (by first | exact Or.inl (by rw [h27]) | exact Or.inr (Int32.not_le.mp h33))], adE_rf ad, same_rf _ _ _ _ _, hP⟩) dX6_clear_38
      · refine r_iload_n K 3 rfl rfl dX6_clear_30 ?_
        refine r_bipush K ((-2)) (by decide) dX6_clear_31 ?_
        refine r_icmp_ge K 39 dX6_clear_33 (by decide) (fun h33 => ?_) (fun h33 => ?_)
        · refine r_aload_n K 0 rfl rfl dX6_clear_39 ?_
          refine get_61_5 K fl_RX6_43 dX6_clear_40 ?_
          refine r_iload_n K 2 rfl rfl dX6_clear_43 ?_
          refine r_iconst K ((nI (0))) (by decide) dX6_clear_44 ?_
          refine r_callV K 69 (As := [.int (nI (oN)), .int (nI (0))]) (rest := []) mv_X3_soonestOf ml_RX6_174 (c_soonestOf hT hR hP (b := oN) (h := 0) (by omega) (by omega)) (by decide) rfl rfl rfl rfl (Nat.le_of_ble_eq_true rfl) ⟨by decide, by decide⟩ dX6_clear_45 (fun r_q ad_q s_q h_q => ?_)
          obtain ⟨rfl, haq, hsq, hPq, hlq⟩ := h_q
          refine r_st (st' := [.int (nI (oN * 24 + 0))]) rfl ?_
          rw [show ad 61 = ad_q 61 from (haq 61 (by decide)).symm]
          refine r_istore K (lv' := [(4, .int (nI (oN * 24 + 0))), (0, .ref (ad_q 61)), (1, .int (nI (bN))), (2, .int (nI (oN))), (3, .int (i))]) (by decide) rfl dX6_clear_48 ?_
          rcases hq : plS T oN kn0 0 with _ | ms
          · rw [hq] at hlq
            refine r_aload_n K 0 rfl rfl dX6_clear_50 ?_
            refine get_61_5 K fl_RX6_43 dX6_clear_51 ?_
            refine get_69_0 K fl_RX6_180 dX6_clear_54 ?_
            refine r_iload K rfl dX6_clear_57 ?_
            refine r_iald K 28 (n := 112) (by decide) rfl rfl (by decide) (by omega) dX6_clear_59 ?_
            refine r_topi (b := (-1)) (hlq) ?_
            refine r_iconst K ((-1)) (by decide) dX6_clear_60 ?_
            refine r_icmp_ne K 67 dX6_clear_61 (by decide) (fun z => absurd z (by decide)) (fun _ => ?_)
            refine r_bipush K ((-4)) (by decide) dX6_clear_64 ?_
            exact r_iret K hr (⟨by rw [clS, if_pos ⟨by assumption, by assumption⟩, if_neg (fun z => by rcases z with z | z; exact absurd ((nI_eq (by omega) (by omega)).mp z) h27; exact absurd h33 (Int32.not_le.mpr z)), e_oN, if_pos hq], haq, hsq, hPq⟩) dX6_clear_66
          · have hlq2 := hlq
            rw [hq] at hlq2
            have hms := pl_six (by omega) ms hq
            refine r_aload_n K 0 rfl rfl dX6_clear_50 ?_
            refine get_61_5 K fl_RX6_43 dX6_clear_51 ?_
            refine get_69_0 K fl_RX6_180 dX6_clear_54 ?_
            refine r_iload K rfl dX6_clear_57 ?_
            refine r_iald K 28 (n := 112) (by decide) rfl rfl (by decide) (by omega) dX6_clear_59 ?_
            refine r_topi (b := (nI (ms.length))) (hlq2.1) ?_
            refine r_iconst K ((-1)) (by decide) dX6_clear_60 ?_
            refine r_icmp_ne K 67 dX6_clear_61 (by decide) (fun h61 => ?_) (fun h61 => absurd h61 (fun z => nI_m1 (by omega) z))
            refine r_aload_n K 0 rfl rfl dX6_clear_67 ?_
            refine get_61_5 K fl_RX6_43 dX6_clear_68 ?_
            refine r_aload_n K 0 rfl rfl dX6_clear_71 ?_
            refine get_61_5 K fl_RX6_43 dX6_clear_72 ?_
            refine r_iload_n K 1 rfl rfl dX6_clear_75 ?_
            refine r_iload_n K 2 rfl rfl dX6_clear_76 ?_
            refine r_iload K rfl dX6_clear_77 ?_
            refine r_callV K 69 (As := [.int (nI (bN)), .int (nI (oN)), .int (nI (oN * 24 + 0))]) (rest := [.ref (ad_q 69)]) mv_X3_clearOf ml_RX6_183 (c_clearOf hT (plE_C hR hsq) hPq (b := bN) (o := oN) (by omega) (by omega) hlq) (by decide) rfl rfl rfl rfl (Nat.le_of_ble_eq_true rfl) ⟨by decide, by decide⟩ dX6_clear_79 (fun r_c ad_c s_c h_c => ?_)
            obtain ⟨rfl, hac, hsc, hPc, hlc⟩ := h_c
            refine r_st (st' := [.int (nI (96 + bN * 4 + oN)), .ref (ad_q 69)]) rfl ?_
            rw [show ad_q 61 = ad_c 61 from (hac 61 (by decide)).symm]
            rw [show ad_q 69 = ad_c 69 from (hac 69 (by decide)).symm]
            refine r_iload_n K 3 rfl rfl dX6_clear_82 ?_
            refine r_callVp K 69 (As := [.int (nI (96 + bN * 4 + oN)), .int (i)]) mv_X3_answerOf ml_RX6_177 (c_answerOf (o := plS T bN (knL T oN (plS T oN kn0 0)) 1) (n := 96 + bN * 4 + oN) (by omega) hlc (pl_six (by omega)) ((i)) (fun z => absurd h33 (Int32.not_le.mpr z))) (by decide) rfl rfl rfl rfl (Nat.le_of_ble_eq_true rfl) ⟨by decide, by decide⟩ dX6_clear_83 ?_
            exact r_iret K hr (⟨by rw [clS, if_pos ⟨by assumption, by assumption⟩, if_neg (fun z => by rcases z with z | z; exact absurd ((nI_eq (by omega) (by omega)).mp z) h27; exact absurd h33 (Int32.not_le.mpr z)), e_oN, if_neg (by rw [hq]; exact fun z => by cases z), e_bN], adE_tr haq hac, same_tr hsq hsc, hPc⟩) dX6_clear_86
        · refine r_bipush K ((-3)) (by decide) dX6_clear_36 ?_
          exact r_iret K hr (⟨by rw [clS, if_pos ⟨by assumption, by assumption⟩, if_pos (by first | exact Or.inl (by rw [h27]) | exact Or.inr (Int32.not_le.mp h33))], adE_rf ad, same_rf _ _ _ _ _, hP⟩) dX6_clear_38
    · refine r_bipush K ((-2)) (by decide) dX6_clear_22 ?_
      exact r_iret K hr (⟨by first | rw [clS, if_neg (by simp [*])] | simp [clS, *], adE_rf ad, same_rf _ _ _ _ _, hP⟩) dX6_clear_24

set_option maxHeartbeats 400000 in
set_option maxRecDepth 10000 in
theorem c_first {g : Gp} {lau : Launch} {ad : Nat → Nat} {σ : Sg} {T : Tv} (hT : TOk T) (hR : RepC T σ) (hP : RepP T σ) (b r l : Int32) : Con g lau yX6_first cX6_first 4 (Option.some .int) 6 155 [.ref (ad 61), .int (b), .int (r), .int (l)] ad σ (fun rr a2 s2 => some (.int (fsS T b r l)) = rr ∧ adE ad a2 ∧ plE σ s2 ∧ RepP T s2) := by
  refine con_mk (by decide) (Nat.le_of_ble_eq_true rfl) (fun x hxl K hr => ?_)
  subst hxl
  refine r_lv (lv' := [(0, .ref (ad 61)), (1, .int (b)), (2, .int (r)), (3, .int (l))]) rfl ?_
  have hn8 := hT.2.1
  have hn9 := hT.2.2.1
  refine r_aload_n K 0 rfl rfl dX6_first_0 ?_
  refine get_61_0 K fl_RX6_12 dX6_first_1 ?_
  refine r_iload_n K 1 rfl rfl dX6_first_4 ?_
  refine r_callVp K 62 (As := [.int (b)]) mv_X4_hasBarge ml_RX6_105 (c_hasBarge hT hR ((b))) (by decide) rfl rfl rfl rfl (Nat.le_of_ble_eq_true rfl) ⟨by decide, by decide⟩ dX6_first_5 ?_
  refine b_if_eq K 29 dX6_first_8 (by decide) (fun h8 => ?_) (fun h8 => ?_)
  · refine r_bipush K ((-2)) (by decide) dX6_first_29 ?_
    exact r_iret K hr (⟨by first | rw [fsS, if_neg (by simp [*])] | simp [fsS, *], adE_rf ad, same_rf _ _ _ _ _, hP⟩) dX6_first_31
  · obtain ⟨bN, h_bN, rfl, t_bN⟩ := hasB_t h8
    have e_bN : (nI bN).toInt.toNat = bN := nI_nat (by omega)
    refine r_aload_n K 0 rfl rfl dX6_first_11 ?_
    refine get_61_0 K fl_RX6_12 dX6_first_12 ?_
    refine r_iload_n K 2 rfl rfl dX6_first_15 ?_
    refine r_callVp K 62 (As := [.int (r)]) mv_X4_hasReach ml_RX6_79 (c_hasReach hT hR ((r))) (by decide) rfl rfl rfl rfl (Nat.le_of_ble_eq_true rfl) ⟨by decide, by decide⟩ dX6_first_16 ?_
    refine b_if_eq K 29 dX6_first_19 (by decide) (fun h19 => ?_) (fun h19 => ?_)
    · refine r_bipush K ((-2)) (by decide) dX6_first_29 ?_
      exact r_iret K hr (⟨by first | rw [fsS, if_neg (by simp [*])] | simp [fsS, *], adE_rf ad, same_rf _ _ _ _ _, hP⟩) dX6_first_31
    · obtain ⟨rN, h_rN, rfl⟩ := hasR_t h19
      have e_rN : (nI rN).toInt.toNat = rN := nI_nat (by omega)
      refine r_iload_n K 3 rfl rfl dX6_first_22 ?_
      refine r_callSp K (As := [.int (l)]) ms_X6_isLayer ml_RX6_93 (c_isLayer ((l))) rfl rfl (Nat.le_of_ble_eq_true rfl) ⟨by decide, by decide⟩ dX6_first_23 ?_
      refine b_if_ne K 32 dX6_first_26 (by decide) (fun h26 => ?_) (fun h26 => ?_)
      · obtain ⟨lN, h_lN, rfl⟩ := isL_t h26
        have e_lN : (nI lN).toInt.toNat = lN := nI_nat (by omega)
        refine r_aload_n K 0 rfl rfl dX6_first_32 ?_
        refine get_61_5 K fl_RX6_43 dX6_first_33 ?_
        refine r_iload_n K 1 rfl rfl dX6_first_36 ?_
        refine r_aload_n K 0 rfl rfl dX6_first_37 ?_
        refine get_61_5 K fl_RX6_43 dX6_first_38 ?_
        refine r_iload_n K 1 rfl rfl dX6_first_41 ?_
        refine r_iconst K ((nI (0))) (by decide) dX6_first_42 ?_
        refine r_callV K 69 (As := [.int (nI (bN)), .int (nI (0))]) (rest := [.int (nI (bN)), .ref (ad 69)]) mv_X3_soonestOf ml_RX6_174 (c_soonestOf hT hR hP (b := bN) (h := 0) (by omega) (by omega)) (by decide) rfl rfl rfl rfl (Nat.le_of_ble_eq_true rfl) ⟨by decide, by decide⟩ dX6_first_43 (fun r_q ad_q s_q h_q => ?_)
        obtain ⟨rfl, haq, hsq, hPq, hlq⟩ := h_q
        refine r_st (st' := [.int (nI (bN * 24 + 0)), .int (nI (bN)), .ref (ad 69)]) rfl ?_
        rw [show ad 61 = ad_q 61 from (haq 61 (by decide)).symm]
        rw [show ad 69 = ad_q 69 from (haq 69 (by decide)).symm]
        refine r_iload_n K 2 rfl rfl dX6_first_46 ?_
        refine r_iload_n K 3 rfl rfl dX6_first_47 ?_
        refine r_callV K 69 (As := [.int (nI (bN)), .int (nI (bN * 24 + 0)), .int (nI (rN)), .int (nI (lN))]) (rest := []) mv_X3_hourIn ml_RX6_218 (c_hourIn hT (plE_C hR hsq) (b := bN) (n := bN * 24 + 0) (r := rN) (l := lN) (o := plS T bN kn0 0) (by omega) (by omega) (by omega) (by omega) hlq (fun ms e => pl_ok e) (hPq).2.1 oL_six) (by decide) rfl rfl rfl rfl (Nat.le_of_ble_eq_true rfl) ⟨by decide, by decide⟩ dX6_first_48 (fun r_h ad_h s_h h_h => ?_)
        obtain ⟨rfl, rfl, hsh, hxh⟩ := h_h
        refine r_st (st' := [.int (firstF (fH T bN (oL (plS T bN kn0 0)) rN lN) 24 0)]) rfl ?_
        exact r_iret K hr (⟨by rw [fsS, if_pos ⟨by assumption, by assumption, by assumption⟩, e_bN, e_rN, e_lN], haq, plE_33 hsq hsh, RepP_33 hPq hsh hxh⟩) dX6_first_51
      · refine r_bipush K ((-2)) (by decide) dX6_first_29 ?_
        exact r_iret K hr (⟨by first | rw [fsS, if_neg (by simp [*])] | simp [fsS, *], adE_rf ad, same_rf _ _ _ _ _, hP⟩) dX6_first_31

set_option maxHeartbeats 400000 in
set_option maxRecDepth 10000 in
theorem c_found {g : Gp} {lau : Launch} {ad : Nat → Nat} {σ : Sg} {T : Tv} (hT : TOk T) (hR : RepC T σ) (hP : RepP T σ) (r l : Int32) : Con g lau yX6_found cX6_found 5 (Option.some .int) 6 155 [.ref (ad 61), .int (r), .int (l)] ad σ (fun rr a2 s2 => some (.int (fdS T r l)) = rr ∧ adE ad a2 ∧ plE σ s2 ∧ RepP T s2) := by
  refine con_mk (by decide) (Nat.le_of_ble_eq_true rfl) (fun x hxl K hr => ?_)
  subst hxl
  refine r_lv (lv' := [(0, .ref (ad 61)), (1, .int (r)), (2, .int (l))]) rfl ?_
  have hn8 := hT.2.1
  have hn9 := hT.2.2.1
  refine r_aload_n K 0 rfl rfl dX6_found_0 ?_
  refine get_61_0 K fl_RX6_12 dX6_found_1 ?_
  refine r_iload_n K 1 rfl rfl dX6_found_4 ?_
  refine r_callVp K 62 (As := [.int (r)]) mv_X4_hasReach ml_RX6_79 (c_hasReach hT hR ((r))) (by decide) rfl rfl rfl rfl (Nat.le_of_ble_eq_true rfl) ⟨by decide, by decide⟩ dX6_found_5 ?_
  refine b_if_eq K 18 dX6_found_8 (by decide) (fun h8 => ?_) (fun h8 => ?_)
  · refine r_bipush K ((-2)) (by decide) dX6_found_18 ?_
    exact r_iret K hr (⟨by first | rw [fdS, if_neg (by simp [*])] | simp [fdS, *], adE_rf ad, same_rf _ _ _ _ _, hP⟩) dX6_found_20
  · obtain ⟨rN, h_rN, rfl⟩ := hasR_t h8
    have e_rN : (nI rN).toInt.toNat = rN := nI_nat (by omega)
    refine r_iload_n K 2 rfl rfl dX6_found_11 ?_
    refine r_callSp K (As := [.int (l)]) ms_X6_isLayer ml_RX6_93 (c_isLayer ((l))) rfl rfl (Nat.le_of_ble_eq_true rfl) ⟨by decide, by decide⟩ dX6_found_12 ?_
    refine b_if_ne K 21 dX6_found_15 (by decide) (fun h15 => ?_) (fun h15 => ?_)
    · obtain ⟨lN, h_lN, rfl⟩ := isL_t h15
      have e_lN : (nI lN).toInt.toNat = lN := nI_nat (by omega)
      refine r_iconst K ((nI (0))) (by decide) dX6_found_21 ?_
      refine r_istore_n K (lv' := [(3, .int (nI (0))), (0, .ref (ad 61)), (1, .int (nI (rN))), (2, .int (nI (lN)))]) 3 rfl (by decide) rfl dX6_found_22 ?_
      refine r_iconst K ((nI (0))) (by decide) dX6_found_23 ?_
      refine r_istore K (lv' := [(4, .int (nI (0))), (3, .int (nI (0))), (0, .ref (ad 61)), (1, .int (nI (rN))), (2, .int (nI (lN)))]) (by decide) rfl dX6_found_24 ?_
      refine r_pick [2, 3, 4, 1, 0] (lv' := [(0, .ref (ad 61)), (1, .int (nI (rN))), (2, .int (nI (lN))), (3, .int (nI (0))), (4, .int (nI (0)))]) rfl ?_
      have lpA : ∀ (mm_ : Nat) (i : Nat) (a1 : Nat → Nat) (s1 : Sg), mm_ = 4 - i → (i ≤ 4) → (adE ad a1) → (plE σ s1) → (RepP T s1) → GJ g x 5 26 [(0, .ref (a1 61)), (1, .int (nI (rN))), (2, .int (nI (lN))), (3, .int (nI (bitS (fdF T rN lN) i))), (4, .int (nI (i)))] [] a1 (s1) := by
        intro mm_
        induction mm_ using Nat.strongRecOn with
        | _ mm_ ihA =>
          intro i a1 s1 hmA hi ha1 hs1 hP1
          refine r_iload K rfl dX6_found_26 ?_
          refine r_iconst K ((nI (4))) (by decide) dX6_found_28 ?_
          refine n_icmp_ge K 83 (by omega) (by omega) dX6_found_29 (by decide) (fun h29 => ?_) (fun h29 => ?_)
          · refine r_iload_n K 3 rfl rfl dX6_found_83 ?_
            exact r_iret K hr (⟨by rw [fdS, if_pos ⟨by assumption, by assumption⟩, e_rN, e_lN, show i = 4 by omega], ha1, hs1, hP1⟩) dX6_found_84
          · have ht5 := (hT.2.2.2.2.2.2.1 i).1
            refine r_aload_n K 0 rfl rfl dX6_found_32 ?_
            refine get_61_0 K fl_RX6_12 dX6_found_33 ?_
            refine get_62_7 K fl_RX6_163 dX6_found_36 ?_
            refine r_iload K rfl dX6_found_39 ?_
            refine r_zald K 5 (n := 4) (by decide) rfl rfl (by decide) (by omega) dX6_found_41 ?_
            refine r_topi (b := (nI (T 5 i))) ((plE_C hR hs1).2.2 5 (by decide) i (by show i < 4; omega)) ?_
            refine n_if_eq K 77 (by omega) dX6_found_42 (by decide) (fun h42 => ?_) (fun h42 => ?_)
            · refine r_lv (lv' := [(0, .ref (a1 61)), (1, .int (nI (rN))), (2, .int (nI (lN))), (3, .int (nI (bitS (fdF T rN lN) (i + 1)))), (4, .int (nI (i)))]) (by rw [bitS_f (f := fdF T rN lN) (b := i) (by simp [fdF, *])]) ?_
              refine r_iinc K ((nI (i + 1))) rfl (nI_1 _) (lv' := [(4, .int (nI (i + 1))), (0, .ref (a1 61)), (1, .int (nI (rN))), (2, .int (nI (lN))), (3, .int (nI (bitS (fdF T rN lN) (i + 1))))]) (by decide) rfl dX6_found_77 ?_
              refine r_goto K 26 dX6_found_80 (by decide) ?_
              refine r_pick [1, 2, 3, 4, 0] (lv' := [(0, .ref (a1 61)), (1, .int (nI (rN))), (2, .int (nI (lN))), (3, .int (nI (bitS (fdF T rN lN) (i + 1)))), (4, .int (nI (i + 1)))]) rfl ?_
              exact ihA _ (by omega) (i + 1) (a1) (s1) rfl (by omega) (ha1) (hs1) (hP1)
            · refine r_aload_n K 0 rfl rfl dX6_found_45 ?_
              refine get_61_5 K fl_RX6_43 dX6_found_46 ?_
              refine r_iload K rfl dX6_found_49 ?_
              refine r_aload_n K 0 rfl rfl dX6_found_51 ?_
              refine get_61_5 K fl_RX6_43 dX6_found_52 ?_
              refine r_iload K rfl dX6_found_55 ?_
              refine r_iconst K ((nI (0))) (by decide) dX6_found_57 ?_
              refine r_callV K 69 (As := [.int (nI (i)), .int (nI (0))]) (rest := [.int (nI (i)), .ref (a1 69)]) mv_X3_soonestOf ml_RX6_174 (c_soonestOf hT (plE_C hR hs1) hP1 (b := i) (h := 0) (by omega) (by omega)) (by decide) rfl rfl rfl rfl (Nat.le_of_ble_eq_true rfl) ⟨by decide, by decide⟩ dX6_found_58 (fun r_q ad_q s_q h_q => ?_)
              obtain ⟨rfl, haq, hsq, hPq, hlq⟩ := h_q
              refine r_st (st' := [.int (nI (i * 24 + 0)), .int (nI (i)), .ref (a1 69)]) rfl ?_
              rw [show a1 61 = ad_q 61 from (haq 61 (by decide)).symm]
              rw [show a1 69 = ad_q 69 from (haq 69 (by decide)).symm]
              refine r_iload_n K 1 rfl rfl dX6_found_61 ?_
              refine r_iload_n K 2 rfl rfl dX6_found_62 ?_
              refine r_callV K 69 (As := [.int (nI (i)), .int (nI (i * 24 + 0)), .int (nI (rN)), .int (nI (lN))]) (rest := []) mv_X3_hourIn ml_RX6_218 (c_hourIn hT (plE_C hR (same_tr hs1 hsq)) (b := i) (n := i * 24 + 0) (r := rN) (l := lN) (o := plS T i kn0 0) (by omega) (by omega) (by omega) (by omega) hlq (fun ms e => pl_ok e) (hPq).2.1 oL_six) (by decide) rfl rfl rfl rfl (Nat.le_of_ble_eq_true rfl) ⟨by decide, by decide⟩ dX6_found_63 (fun r_h ad_h s_h h_h => ?_)
              obtain ⟨rfl, rfl, hsh, hxh⟩ := h_h
              refine r_st (st' := [.int (firstF (fH T i (oL (plS T i kn0 0)) rN lN) 24 0)]) rfl ?_
              refine r_iconst K ((-1)) (by decide) dX6_found_66 ?_
              refine r_icmp_eq K 77 dX6_found_67 (by decide) (fun h67 => ?_) (fun h67 => ?_)
              · refine r_lv (lv' := [(0, .ref (ad_q 61)), (1, .int (nI (rN))), (2, .int (nI (lN))), (3, .int (nI (bitS (fdF T rN lN) (i + 1)))), (4, .int (nI (i)))]) (by rw [bitS_f (f := fdF T rN lN) (b := i) (by simp [fdF, *])]) ?_
                refine r_iinc K ((nI (i + 1))) rfl (nI_1 _) (lv' := [(4, .int (nI (i + 1))), (0, .ref (ad_q 61)), (1, .int (nI (rN))), (2, .int (nI (lN))), (3, .int (nI (bitS (fdF T rN lN) (i + 1))))]) (by decide) rfl dX6_found_77 ?_
                refine r_goto K 26 dX6_found_80 (by decide) ?_
                refine r_pick [1, 2, 3, 4, 0] (lv' := [(0, .ref (ad_q 61)), (1, .int (nI (rN))), (2, .int (nI (lN))), (3, .int (nI (bitS (fdF T rN lN) (i + 1)))), (4, .int (nI (i + 1)))]) rfl ?_
                exact ihA _ (by omega) (i + 1) (ad_q) (s_h) rfl (by omega) (adE_tr ha1 haq) (plE_33 (same_tr hs1 hsq) hsh) (RepP_33 hPq hsh hxh)
              · refine r_iload_n K 3 rfl rfl dX6_found_70 ?_
                refine r_iconst K ((nI (1))) (by decide) dX6_found_71 ?_
                refine r_iload K rfl dX6_found_72 ?_
                refine r_ishl K dX6_found_74 ?_
                refine r_topi (b := (nI (2 ^ i))) (nI_shl1 (by omega)) ?_
                refine r_ior K dX6_found_75 ?_
                refine r_topi (b := (nI (bitS (fdF T rN lN) (i + 1)))) (bitS_t (by omega) (by have := (hT.2.2.2.2.2.2.1 i).1; simp [fdF, *]; omega)) ?_
                refine r_istore_n K (lv' := [(3, .int (nI (bitS (fdF T rN lN) (i + 1)))), (0, .ref (ad_q 61)), (1, .int (nI (rN))), (2, .int (nI (lN))), (4, .int (nI (i)))]) 3 rfl (by decide) rfl dX6_found_76 ?_
                refine r_iinc K ((nI (i + 1))) rfl (nI_1 _) (lv' := [(4, .int (nI (i + 1))), (3, .int (nI (bitS (fdF T rN lN) (i + 1)))), (0, .ref (ad_q 61)), (1, .int (nI (rN))), (2, .int (nI (lN)))]) (by decide) rfl dX6_found_77 ?_
                refine r_goto K 26 dX6_found_80 (by decide) ?_
                refine r_pick [2, 3, 4, 1, 0] (lv' := [(0, .ref (ad_q 61)), (1, .int (nI (rN))), (2, .int (nI (lN))), (3, .int (nI (bitS (fdF T rN lN) (i + 1)))), (4, .int (nI (i + 1)))]) rfl ?_
                exact ihA _ (by omega) (i + 1) (ad_q) (s_h) rfl (by omega) (adE_tr ha1 haq) (plE_33 (same_tr hs1 hsq) hsh) (RepP_33 hPq hsh hxh)
      exact lpA _ (0) (ad) (σ) rfl (by omega) (adE_rf ad) (same_rf _ _ _ _ _) (hP)
    · refine r_bipush K ((-2)) (by decide) dX6_found_18 ?_
      exact r_iret K hr (⟨by first | rw [fdS, if_neg (by simp [*])] | simp [fdS, *], adE_rf ad, same_rf _ _ _ _ _, hP⟩) dX6_found_20

theorem bk_none {T : Tv} {b f h : Nat} (hh : h < 24) (he : plS T b kn0 h = none) : bkN T b (f + 1) h = 0 := by rw [bkN, if_pos hh, he]
theorem bk_some {T : Tv} {b f h : Nat} {ms : List Nat} (hh : h < 24) (he : plS T b kn0 h = some ms) : bkN T b (f + 1) h = 1 + bkN T b f (h + ms.length) := by rw [bkN, if_pos hh, he]
theorem bk_end {T : Tv} {b f h : Nat} (hh : 24 ≤ h) : bkN T b f h = 0 := by
  cases f with
  | zero => rfl
  | succ f => rw [bkN, if_neg (by omega)]
theorem pl_pos {T : Tv} {b : Nat} {kn : Nat → Nat → Nat → Bool} {h : Nat} {ms : List Nat} (h0 : T 10 0 ≠ 0) (he : plS T b kn h = some ms) : 1 ≤ ms.length := by
  cases ms with
  | nil =>
    have := (plS_bst he).1.2
    unfold startS at this
    rw [if_neg h0] at this
    cases this
  | cons m ms => rw [List.length_cons]; omega
theorem bk_le {T : Tv} {b : Nat} : ∀ f h, bkN T b f h ≤ f
  | 0, h => Nat.le_refl _
  | f + 1, h => by
    rw [bkN]
    split
    · split
      · omega
      · have := bk_le (T := T) (b := b) f (h + ‹List Nat›.length)
        omega
    · omega
set_option maxHeartbeats 400000 in
set_option maxRecDepth 10000 in
theorem c_passages {g : Gp} {lau : Launch} {ad : Nat → Nat} {σ : Sg} {T : Tv} (hT : TOk T) (hR : RepC T σ) (hP : RepP T σ) (h10 : T 10 0 ≠ 0) {b : Nat} (hb : b < 4) : Con g lau yX6_passages cX6_passages 6 (Option.some .int) 6 155 [.ref (ad 61), .int (nI (b))] ad σ (fun rr a2 s2 => some (.int (nI (bkN T b 24 0))) = rr ∧ adE ad a2 ∧ plE σ s2 ∧ RepP T s2) := by
  refine con_mk (by decide) (Nat.le_of_ble_eq_true rfl) (fun x hxl K hr => ?_)
  subst hxl
  refine r_lv (lv' := [(0, .ref (ad 61)), (1, .int (nI (b)))]) rfl ?_
  have hn8 := hT.2.1
  have hn9 := hT.2.2.1
  refine r_iconst K ((nI (0))) (by decide) dX6_passages_0 ?_
  refine r_istore_n K (lv' := [(2, .int (nI (0))), (0, .ref (ad 61)), (1, .int (nI (b)))]) 2 rfl (by decide) rfl dX6_passages_1 ?_
  refine r_iconst K ((nI (0))) (by decide) dX6_passages_2 ?_
  refine r_istore_n K (lv' := [(3, .int (nI (0))), (2, .int (nI (0))), (0, .ref (ad 61)), (1, .int (nI (b)))]) 3 rfl (by decide) rfl dX6_passages_3 ?_
  refine r_iconst K ((nI (0))) (by decide) dX6_passages_4 ?_
  refine r_istore K (lv' := [(4, .int (nI (0))), (3, .int (nI (0))), (2, .int (nI (0))), (0, .ref (ad 61)), (1, .int (nI (b)))]) (by decide) rfl dX6_passages_5 ?_
  refine r_pick [3, 4, 2, 1, 0] (lv' := [(0, .ref (ad 61)), (1, .int (nI (b))), (2, .int (nI (0))), (3, .int (nI (0))), (4, .int (nI (0)))]) rfl ?_
  have lpA : ∀ (mm_ : Nat) (n : Nat) (h : Nat) (i : Nat) (a1 : Nat → Nat) (s1 : Sg), mm_ = 24 - i → (n ≤ i) → (i ≤ h) → (h ≤ 24) → (bkN T b 24 0 = n + bkN T b (24 - i) h) → (adE ad a1) → (plE σ s1) → (RepP T s1) → GJ g x 6 7 [(0, .ref (a1 61)), (1, .int (nI (b))), (2, .int (nI (n))), (3, .int (nI (h))), (4, .int (nI (i)))] [] a1 (s1) := by
    intro mm_
    induction mm_ using Nat.strongRecOn with
    | _ mm_ ihA =>
      intro n h i a1 s1 hmA hn hih hh hv ha1 hs1 hP1
      refine r_iload K rfl dX6_passages_7 ?_
      refine r_bipush K ((nI (24))) (by decide) dX6_passages_9 ?_
      refine n_icmp_ge K 62 (by omega) (by omega) dX6_passages_11 (by decide) (fun h11 => ?_) (fun h11 => ?_)
      · refine r_iload_n K 2 rfl rfl dX6_passages_62 ?_
        exact r_iret K hr (⟨by rw [hv, bk_end (by omega), Nat.add_zero], ha1, hs1, hP1⟩) dX6_passages_63
      · refine r_iload_n K 3 rfl rfl dX6_passages_14 ?_
        refine r_bipush K ((nI (24))) (by decide) dX6_passages_15 ?_
        refine n_icmp_ge K 62 (by omega) (by omega) dX6_passages_17 (by decide) (fun h17 => ?_) (fun h17 => ?_)
        · refine r_iload_n K 2 rfl rfl dX6_passages_62 ?_
          exact r_iret K hr (⟨by rw [hv, bk_end (by omega), Nat.add_zero], ha1, hs1, hP1⟩) dX6_passages_63
        · refine r_aload_n K 0 rfl rfl dX6_passages_20 ?_
          refine get_61_5 K fl_RX6_43 dX6_passages_21 ?_
          refine get_69_0 K fl_RX6_180 dX6_passages_24 ?_
          refine r_aload_n K 0 rfl rfl dX6_passages_27 ?_
          refine get_61_5 K fl_RX6_43 dX6_passages_28 ?_
          refine r_iload_n K 1 rfl rfl dX6_passages_31 ?_
          refine r_iload_n K 3 rfl rfl dX6_passages_32 ?_
          refine r_callV K 69 (As := [.int (nI (b)), .int (nI (h))]) (rest := [.ref (a1 28)]) mv_X3_soonestOf ml_RX6_174 (c_soonestOf hT (plE_C hR hs1) hP1 (b := b) (h := h) (by omega) (by omega)) (by decide) rfl rfl rfl rfl (Nat.le_of_ble_eq_true rfl) ⟨by decide, by decide⟩ dX6_passages_33 (fun r_q ad_q s_q h_q => ?_)
          obtain ⟨rfl, haq, hsq, hPq, hlq⟩ := h_q
          refine r_st (st' := [.int (nI (b * 24 + h)), .ref (a1 28)]) rfl ?_
          rw [show a1 61 = ad_q 61 from (haq 61 (by decide)).symm]
          rw [show a1 28 = ad_q 28 from (haq 28 (by decide)).symm]
          rcases hq : plS T b kn0 h with _ | ms
          · rw [hq] at hlq
            refine r_iald K 28 (n := 112) (by decide) rfl rfl (by decide) (by omega) dX6_passages_36 ?_
            refine r_topi (b := (-1)) (hlq) ?_
            refine r_istore K (lv' := [(5, .int (-1)), (0, .ref (ad_q 61)), (1, .int (nI (b))), (2, .int (nI (n))), (3, .int (nI (h))), (4, .int (nI (i)))]) (by decide) rfl dX6_passages_37 ?_
            refine r_iload K rfl dX6_passages_39 ?_
            refine r_iconst K ((-1)) (by decide) dX6_passages_41 ?_
            refine r_icmp_ne K 48 dX6_passages_42 (by decide) (fun z => absurd z (by decide)) (fun _ => ?_)
            refine r_goto K 62 dX6_passages_45 (by decide) ?_
            refine r_iload_n K 2 rfl rfl dX6_passages_62 ?_
            exact r_iret K hr (⟨by rw [hv, show 24 - i = (24 - (i + 1)) + 1 by omega, bk_none (by omega) hq, Nat.add_zero], adE_tr ha1 haq, same_tr hs1 hsq, hPq⟩) dX6_passages_63
          · rw [hq] at hlq
            have hms := okP_len (pl_ok hq) (by omega)
            have hm1 := pl_pos h10 hq
            refine r_iald K 28 (n := 112) (by decide) rfl rfl (by decide) (by omega) dX6_passages_36 ?_
            refine r_topi (b := (nI (ms.length))) (hlq.1) ?_
            refine r_istore K (lv' := [(5, .int (nI (ms.length))), (0, .ref (ad_q 61)), (1, .int (nI (b))), (2, .int (nI (n))), (3, .int (nI (h))), (4, .int (nI (i)))]) (by decide) rfl dX6_passages_37 ?_
            refine r_iload K rfl dX6_passages_39 ?_
            refine r_iconst K ((-1)) (by decide) dX6_passages_41 ?_
            refine r_icmp_ne K 48 dX6_passages_42 (by decide) (fun h42 => ?_) (fun h42 => absurd h42 (fun z => nI_m1 (by omega) z))
            refine r_iinc K ((nI (n + 1))) rfl (nI_1 _) (lv' := [(2, .int (nI (n + 1))), (5, .int (nI (ms.length))), (0, .ref (ad_q 61)), (1, .int (nI (b))), (3, .int (nI (h))), (4, .int (nI (i)))]) (by decide) rfl dX6_passages_48 ?_
            refine r_iload_n K 3 rfl rfl dX6_passages_51 ?_
            refine r_iload K rfl dX6_passages_52 ?_
            refine r_iadd K dX6_passages_54 ?_
            refine r_topi (nI_add _ _) ?_
            refine r_istore_n K (lv' := [(3, .int (nI (h + ms.length))), (2, .int (nI (n + 1))), (5, .int (nI (ms.length))), (0, .ref (ad_q 61)), (1, .int (nI (b))), (4, .int (nI (i)))]) 3 rfl (by decide) rfl dX6_passages_55 ?_
            refine r_iinc K ((nI (i + 1))) rfl (nI_1 _) (lv' := [(4, .int (nI (i + 1))), (3, .int (nI (h + ms.length))), (2, .int (nI (n + 1))), (5, .int (nI (ms.length))), (0, .ref (ad_q 61)), (1, .int (nI (b)))]) (by decide) rfl dX6_passages_56 ?_
            refine r_goto K 7 dX6_passages_59 (by decide) ?_
            refine r_pick [4, 5, 2, 1, 0] (lv' := [(0, .ref (ad_q 61)), (1, .int (nI (b))), (2, .int (nI (n + 1))), (3, .int (nI (h + ms.length))), (4, .int (nI (i + 1)))]) rfl ?_
            exact ihA _ (by omega) (n + 1) (h + ms.length) (i + 1) (ad_q) (s_q) rfl (by omega) (by omega) (by omega) (by rw [hv, show 24 - i = (24 - (i + 1)) + 1 by omega, bk_some (by omega) hq]; omega) (adE_tr ha1 haq) (same_tr hs1 hsq) (hPq)
  exact lpA _ (0) (0) (0) (ad) (σ) rfl (by omega) (by omega) (by omega) ((Nat.zero_add _).symm) (adE_rf ad) (same_rf _ _ _ _ _) (hP)

set_option maxHeartbeats 400000 in
set_option maxRecDepth 10000 in
theorem c_books {g : Gp} {lau : Launch} {ad : Nat → Nat} {σ : Sg} {T : Tv} (hT : TOk T) (hR : RepC T σ) (hP : RepP T σ) (b w : Int32) : Con g lau yX6_books cX6_books 4 (Option.some .int) 7 180 [.ref (ad 61), .int (b), .int (w)] ad σ (fun rr a2 s2 => some (.int (bkR T b w)) = rr ∧ adE ad a2 ∧ plE σ s2 ∧ RepP T s2) := by
  refine con_mk (by decide) (Nat.le_of_ble_eq_true rfl) (fun x hxl K hr => ?_)
  subst hxl
  refine r_lv (lv' := [(0, .ref (ad 61)), (1, .int (b)), (2, .int (w))]) rfl ?_
  have hn8 := hT.2.1
  have hn9 := hT.2.2.1
  refine r_aload_n K 0 rfl rfl dX6_books_0 ?_
  refine get_61_0 K fl_RX6_12 dX6_books_1 ?_
  refine r_iload_n K 1 rfl rfl dX6_books_4 ?_
  refine r_callVp K 62 (As := [.int (b)]) mv_X4_hasBarge ml_RX6_105 (c_hasBarge hT hR ((b))) (by decide) rfl rfl rfl rfl (Nat.le_of_ble_eq_true rfl) ⟨by decide, by decide⟩ dX6_books_5 ?_
  refine b_if_ne K 14 dX6_books_8 (by decide) (fun h8 => ?_) (fun h8 => ?_)
  · obtain ⟨bN, h_bN, rfl, t_bN⟩ := hasB_t h8
    have e_bN : (nI bN).toInt.toNat = bN := nI_nat (by omega)
    refine r_iload_n K 2 rfl rfl dX6_books_14 ?_
    refine r_if_lt K 23 dX6_books_15 (by decide) (fun h15 => ?_) (fun h15 => ?_)
    · refine r_bipush K ((-3)) (by decide) dX6_books_23 ?_
      exact r_iret K hr (⟨by rw [bkR, if_pos h8, if_neg (by first | (rw [inS_lo (a := 0) h15 (by decide)]; decide) | (rw [inS_hi (b := 1) (Int32.not_le.mp h20) (by decide)]; decide))], adE_rf ad, same_rf _ _ _ _ _, hP⟩) dX6_books_25
    · refine r_iload_n K 2 rfl rfl dX6_books_18 ?_
      refine r_iconst K ((nI (1))) (by decide) dX6_books_19 ?_
      refine r_icmp_le K 26 dX6_books_20 (by decide) (fun h20 => ?_) (fun h20 => ?_)
      · obtain ⟨m, hm0, hm1, rfl⟩ := inS_t (by decide) (by decide) (inS_mid (a := 0) (b := 1) h15 (fun z => absurd h20 (Int32.not_le.mpr z)))
        refine r_aload_n K 0 rfl rfl dX6_books_26 ?_
        refine get_61_0 K fl_RX6_12 dX6_books_27 ?_
        refine get_62_0 K fl_RX6_221 dX6_books_30 ?_
        refine r_topi (b := (nI (T 10 0))) (hR.1) ?_
        refine n_if_ne K 39 (by omega) dX6_books_33 (by decide) (fun h33 => ?_) (fun h33 => ?_)
        · refine r_aload_n K 0 rfl rfl dX6_books_39 ?_
          refine r_iload_n K 1 rfl rfl dX6_books_40 ?_
          refine r_callV K 61 (As := [.int (nI (bN))]) (rest := []) mv_X6_passages ml_RX6_224 (c_passages hT hR hP h33 (b := bN) (by omega)) (by decide) rfl rfl rfl rfl (Nat.le_of_ble_eq_true rfl) ⟨by decide, by decide⟩ dX6_books_41 (fun r_p ad_p s_p h_p => ?_)
          obtain ⟨rfl, hap, hsp, hPp⟩ := h_p
          refine r_st (st' := [.int (nI (bkN T bN 24 0))]) rfl ?_
          have hbk := bk_le (T := T) (b := bN) 24 0
          rw [show ad 61 = ad_p 61 from (hap 61 (by decide)).symm]
          refine r_istore_n K (lv' := [(3, .int (nI (bkN T bN 24 0))), (0, .ref (ad_p 61)), (1, .int (nI (bN))), (2, .int (nI (m)))]) 3 rfl (by decide) rfl dX6_books_44 ?_
          refine r_iload_n K 2 rfl rfl dX6_books_45 ?_
          refine n_if_ne K 53 (by omega) dX6_books_46 (by decide) (fun h46 => ?_) (fun h46 => ?_)
          · refine r_iload_n K 3 rfl rfl dX6_books_53 ?_
            refine r_aload_n K 0 rfl rfl dX6_books_54 ?_
            refine get_61_0 K fl_RX6_12 dX6_books_55 ?_
            refine get_62_11 K fl_RX6_118 dX6_books_58 ?_
            refine r_iload_n K 1 rfl rfl dX6_books_61 ?_
            refine r_iald K 9 (n := 4) (by decide) rfl rfl (by decide) (by omega) dX6_books_62 ?_
            have hf9 := (hT.2.2.2.2.2.2.1 bN).2.2.2.2
            refine r_topi (b := (nI (T 9 bN))) ((plE_C hR hsp).2.2 9 (by decide) bN (by show bN < 4; omega)) ?_
            refine r_imul K dX6_books_63 ?_
            refine r_topi (pk_mul _ _) ?_
            exact r_iret K hr (⟨by rw [bkR, if_pos h8, if_pos (show inS (nI m) (nI 0) (nI 1) = true by rw [inS_nI (by omega) (by decide) (by decide)]; exact decide_eq_true (by omega)), if_neg h33, if_neg (fun z => h46 ((nI_eq (by omega) (by decide)).mp z)), e_bN], hap, hsp, hPp⟩) dX6_books_64
          · refine r_iload_n K 3 rfl rfl dX6_books_49 ?_
            refine r_goto K 64 dX6_books_50 (by decide) ?_
            exact r_iret K hr (⟨by rw [bkR, if_pos h8, if_pos (show inS (nI m) (nI 0) (nI 1) = true by rw [inS_nI (by omega) (by decide) (by decide)]; exact decide_eq_true (by omega)), if_neg h33, if_pos (by rw [h46]), e_bN], hap, hsp, hPp⟩) dX6_books_64
        · refine r_bipush K ((-4)) (by decide) dX6_books_36 ?_
          exact r_iret K hr (⟨by rw [bkR, if_pos h8, if_pos (show inS (nI m) (nI 0) (nI 1) = true by rw [inS_nI (by omega) (by decide) (by decide)]; exact decide_eq_true (by omega)), if_pos h33], adE_rf ad, same_rf _ _ _ _ _, hP⟩) dX6_books_38
      · refine r_bipush K ((-3)) (by decide) dX6_books_23 ?_
        exact r_iret K hr (⟨by rw [bkR, if_pos h8, if_neg (by first | (rw [inS_lo (a := 0) h15 (by decide)]; decide) | (rw [inS_hi (b := 1) (Int32.not_le.mp h20) (by decide)]; decide))], adE_rf ad, same_rf _ _ _ _ _, hP⟩) dX6_books_25
  · refine r_bipush K ((-2)) (by decide) dX6_books_11 ?_
    exact r_iret K hr (⟨by simp (decide := true) [bkR, *], adE_rf ad, same_rf _ _ _ _ _, hP⟩) dX6_books_13

