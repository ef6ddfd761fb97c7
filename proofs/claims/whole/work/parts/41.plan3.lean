def plc (T : Tv) (b : Nat) (ms : List Nat) (h : Nat) : Nat := endP T b 0 (startS T) (ms.take (h + 1))
theorem plc_s {T : Tv} {b : Nat} {ms : List Nat} {h : Nat} (hh : h < ms.length) : plc T b ms h = goS T b (endP T b 0 (startS T) (ms.take h)) (ms.getD h 0) h := by
  unfold plc
  rw [take_s hh, endP_snoc, List.length_take, Nat.min_eq_left (by omega), Nat.zero_add]
def lnD (T : Tv) (b : Nat) (ms : List Nat) (k : Nat) (s : Sg) : Prop := ∀ h, h < k → (h < ms.length → s.A 33 h = nI (plc T b ms h) ∧ s.A 34 h = nI (ms.getD h 0)) ∧ (ms.length ≤ h → s.A 33 h = nI 160)
def x34 (s : Sg) : Prop := ∀ i, i < 24 → ∃ x, x < 6 ∧ s.A 34 i = nI x
def oL (o : Option (List Nat)) : List Nat := o.getD []
theorem lnD_put {T : Tv} {b : Nat} {ms : List Nat} {k p l : Nat} {s : Sg} (h : lnD T b ms k s) (hk : k < ms.length) (hp : p = plc T b ms k) (hl : l = ms.getD k 0) : lnD T b ms (k + 1) ((s.sA 34 (upd (s.A 34) k (nI l))).sA 33 (upd (s.A 33) k (nI p))) := by
  intro i hi
  rw [sA_at, sA_A, if_neg (by decide), sA_at]
  unfold upd
  by_cases e : i = k
  · subst e
    rw [if_pos rfl, if_pos rfl]
    exact ⟨fun _ => ⟨by rw [hp], by rw [hl]⟩, fun z => by omega⟩
  · rw [if_neg e, if_neg e]
    exact h i (by omega)
theorem lnD_out {T : Tv} {b : Nat} {ms : List Nat} {k : Nat} {s : Sg} (h : lnD T b ms k s) (hk : ms.length ≤ k) : lnD T b ms (k + 1) (s.sA 33 (upd (s.A 33) k (nI 160))) := by
  intro i hi
  rw [sA_at, sA_A, if_neg (by decide)]
  unfold upd
  by_cases e : i = k
  · subst e
    rw [if_pos rfl]
    exact ⟨fun z => by omega, fun _ => rfl⟩
  · rw [if_neg e]
    exact h i (by omega)
theorem x34_put {s : Sg} {k l : Nat} {f : Nat → Int32} (h : x34 s) (hl : l < 6) : x34 ((s.sA 34 (upd (s.A 34) k (nI l))).sA 33 f) := by
  intro i hi
  rw [sA_A, if_neg (by decide), sA_at]
  unfold upd
  by_cases e : i = k
  · rw [if_pos e]; exact ⟨l, hl, rfl⟩
  · rw [if_neg e]; exact h i hi
theorem x34_33 {s : Sg} {f : Nat → Int32} (h : x34 s) : x34 (s.sA 33 f) := fun i hi => by rw [sA_A, if_neg (by decide)]; exact h i hi
theorem x34_same {As Is Js : List Nat} {tk : Bool} {σ s : Sg} (h : x34 σ) (hs : same As Is Js tk σ s) (h4 : 34 ∉ As) : x34 s := fun i hi => by rw [hs.1 34 h4]; exact h i hi
set_option maxHeartbeats 1000000 in
set_option maxRecDepth 10000 in
theorem c_draw {g : Gp} {lau : Launch} {ad : Nat → Nat} {σ : Sg} {T : Tv} (hT : TOk T) (hR : RepC T σ) {b n : Nat} {o : Option (List Nat)} (hb : b < 4) (hn : n < 112) (hs : slotR o n σ) (hk : ∀ ms, o = some ms → okP T b kn0 0 (startS T) 0 ms) (hx : x34 σ) : Con g lau yX3_draw cX3_draw 5 (Option.none : Option Jvm.ClassFile.FieldType) 3 75 [.ref (ad 69), .int (nI (b)), .int (nI (n))] ad σ (fun r a2 s2 => none = r ∧ ad = a2 ∧ same [33, 34] [] [] false σ s2 ∧ lnD T b (oL o) 24 s2 ∧ x34 s2) := by
  refine con_mk (by decide) (Nat.le_of_ble_eq_true rfl) (fun x hxl K hr => ?_)
  subst hxl
  refine r_lv (lv' := [(0, .ref (ad 69)), (1, .int (nI (b))), (2, .int (nI (n)))]) rfl ?_
  refine r_aload_n K 0 rfl rfl dX3_draw_0 ?_
  refine get_69_1 K fl_RX3_44 dX3_draw_1 ?_
  refine r_callVp K 62 (As := []) mv_X4_begin ml_RX3_79 (c_begin hT hR) (by decide) rfl rfl rfl rfl (Nat.le_of_ble_eq_true rfl) ⟨by decide, by decide⟩ dX3_draw_4 ?_
  refine r_istore_n K (lv' := [(3, .int (nI (startS T))), (0, .ref (ad 69)), (1, .int (nI (b))), (2, .int (nI (n)))]) 3 rfl (by decide) rfl dX3_draw_7 ?_
  refine r_iconst K ((nI (0))) (by decide) dX3_draw_8 ?_
  refine r_istore K (lv' := [(4, .int (nI (0))), (3, .int (nI (startS T))), (0, .ref (ad 69)), (1, .int (nI (b))), (2, .int (nI (n)))]) (by decide) rfl dX3_draw_9 ?_
  refine r_pick [2, 3, 4, 1, 0] (lv' := [(0, .ref (ad 69)), (1, .int (nI (b))), (2, .int (nI (n))), (3, .int (nI (startS T))), (4, .int (nI (0)))]) rfl ?_
  have lpA : ∀ (mm_ : Nat) (h : Nat) (p : Nat) (s1 : Sg), mm_ = 24 - h → (h ≤ 24) → (p = endP T b 0 (startS T) ((oL o).take h)) → (same [33, 34] [] [] false σ s1) → (lnD T b (oL o) h s1) → (x34 s1) → GJ g x 5 11 [(0, .ref (ad 69)), (1, .int (nI (b))), (2, .int (nI (n))), (3, .int (nI (p))), (4, .int (nI (h)))] [] ad (s1) := by
    intro mm_
    induction mm_ using Nat.strongRecOn with
    | _ mm_ ihA =>
      intro h p s1 hmA hh hp hs1 hd hx1
      refine r_iload K rfl dX3_draw_11 ?_
      refine r_bipush K ((nI (24))) (by decide) dX3_draw_13 ?_
      refine n_icmp_ge K 101 (by omega) (by omega) dX3_draw_15 (by decide) (fun h15 => ?_) (fun h15 => ?_)
      · exact r_vret K hr (⟨rfl, rfl, hs1, by rw [show 24 = h by omega]; exact hd, hx1⟩) dX3_draw_101
      · rcases hq : o with _ | ms
        · have hol : oL o = [] := by rw [hq]; rfl
          have hlen : (oL o).length = 0 := by rw [hol]; rfl
          have hs28 : s1.A 28 n = -1 := by rw [hs1.1 28 (by simp)]; rw [hq] at hs; exact hs
          refine r_iload K rfl dX3_draw_18 ?_
          refine r_aload_n K 0 rfl rfl dX3_draw_20 ?_
          refine get_69_0 K fl_RX3_11 dX3_draw_21 ?_
          refine r_iload_n K 2 rfl rfl dX3_draw_24 ?_
          refine r_iald K 28 (n := 112) (by decide) rfl rfl (by decide) (by omega) dX3_draw_25 ?_
          refine r_topi (b := (-1)) (hs28) ?_
          refine r_icmp_ge K 82 dX3_draw_26 (by decide) (fun h26 => ?_) (fun h26 => absurd h26 (fun z => z (Int32.le_iff_toInt_le.mpr (Int.le_of_lt (Int32.lt_iff_toInt_lt.mp (m1_lt (by omega)))))))
          refine r_aload_n K 0 rfl rfl dX3_draw_82 ?_
          refine get_69_5 K fl_RX3_29 dX3_draw_83 ?_
          refine get_68_0 K fl_RX3_71 dX3_draw_86 ?_
          refine r_iload K rfl dX3_draw_89 ?_
          refine r_sipush K ((nI (160))) (by decide) dX3_draw_91 ?_
          refine r_iast K 33 (n := 24) (by decide) rfl rfl (by decide) (by omega) dX3_draw_94 ?_
          refine r_iinc K ((nI (h + 1))) rfl (nI_1 _) (lv' := [(4, .int (nI (h + 1))), (0, .ref (ad 69)), (1, .int (nI (b))), (2, .int (nI (n))), (3, .int (nI (p)))]) (by decide) rfl dX3_draw_95 ?_
          refine r_goto K 11 dX3_draw_98 (by decide) ?_
          refine r_pick [1, 2, 3, 4, 0] (lv' := [(0, .ref (ad 69)), (1, .int (nI (b))), (2, .int (nI (n))), (3, .int (nI (p))), (4, .int (nI (h + 1)))]) rfl ?_
          exact ihA _ (by omega) (h + 1) (_) ((s1).sA 33 (upd ((s1).A 33) (h) ((nI (160))))) rfl (by omega) (by rw [hp, List.take_of_length_le (by omega), List.take_of_length_le (by omega)]) (same_sA hs1 (by simp) _) (lnD_out hd (by omega)) (x34_33 hx1)
        · have hol : oL o = ms := by rw [hq]; rfl
          have hk2 := hk ms hq
          have h6 := okP_six hk2
          have h24 := okP_len hk2 (by decide)
          have hss : slotR (some ms) n s1 := by rw [hq] at hs; exact slotR_eq hs (by rw [hs1.1 28 (by simp)]) (by rw [hs1.1 29 (by simp)]) (by rw [hs1.2.2.1 30 (by simp)])
          rw [hol] at hp hd ihA
          refine r_iload K rfl dX3_draw_18 ?_
          refine r_aload_n K 0 rfl rfl dX3_draw_20 ?_
          refine get_69_0 K fl_RX3_11 dX3_draw_21 ?_
          refine r_iload_n K 2 rfl rfl dX3_draw_24 ?_
          refine r_iald K 28 (n := 112) (by decide) rfl rfl (by decide) (by omega) dX3_draw_25 ?_
          refine r_topi (b := (nI (ms.length))) (hss.1) ?_
          refine n_icmp_ge K 82 (by omega) (by omega) dX3_draw_26 (by decide) (fun h26 => ?_) (fun h26 => ?_)
          · refine r_aload_n K 0 rfl rfl dX3_draw_82 ?_
            refine get_69_5 K fl_RX3_29 dX3_draw_83 ?_
            refine get_68_0 K fl_RX3_71 dX3_draw_86 ?_
            refine r_iload K rfl dX3_draw_89 ?_
            refine r_sipush K ((nI (160))) (by decide) dX3_draw_91 ?_
            refine r_iast K 33 (n := 24) (by decide) rfl rfl (by decide) (by omega) dX3_draw_94 ?_
            refine r_iinc K ((nI (h + 1))) rfl (nI_1 _) (lv' := [(4, .int (nI (h + 1))), (0, .ref (ad 69)), (1, .int (nI (b))), (2, .int (nI (n))), (3, .int (nI (p)))]) (by decide) rfl dX3_draw_95 ?_
            refine r_goto K 11 dX3_draw_98 (by decide) ?_
            refine r_pick [1, 2, 3, 4, 0] (lv' := [(0, .ref (ad 69)), (1, .int (nI (b))), (2, .int (nI (n))), (3, .int (nI (p))), (4, .int (nI (h + 1)))]) rfl ?_
            exact ihA _ (by omega) (h + 1) (_) ((s1).sA 33 (upd ((s1).A 33) (h) ((nI (160))))) rfl (by omega) (by rw [hp, List.take_of_length_le (by omega), List.take_of_length_le (by omega)]) (same_sA hs1 (by simp) _) (lnD_out hd (by omega)) (x34_33 hx1)
          · refine r_aload_n K 0 rfl rfl dX3_draw_29 ?_
            refine get_69_5 K fl_RX3_29 dX3_draw_30 ?_
            refine get_68_1 K fl_RX3_74 dX3_draw_33 ?_
            refine r_iload K rfl dX3_draw_36 ?_
            refine r_aload_n K 0 rfl rfl dX3_draw_38 ?_
            refine r_iload_n K 2 rfl rfl dX3_draw_39 ?_
            refine r_iload K rfl dX3_draw_40 ?_
            have hlt : h < ms.length := by omega
            refine r_callVp K 69 (As := [.int (nI (n)), .int (nI (h))]) mv_X3_layerIn ml_RX3_62 (c_layerIn (ms := ms) (n := n) (i := h) hn hss h6 (by omega) (by omega)) (by decide) rfl rfl rfl rfl (Nat.le_of_ble_eq_true rfl) ⟨by decide, by decide⟩ dX3_draw_42 ?_
            have h6h := six_at h6 h
            refine r_iast K 34 (n := 24) (by decide) rfl rfl (by decide) (by omega) dX3_draw_45 ?_
            refine r_aload_n K 0 rfl rfl dX3_draw_46 ?_
            refine get_69_1 K fl_RX3_44 dX3_draw_47 ?_
            refine r_iload_n K 1 rfl rfl dX3_draw_50 ?_
            refine r_iload_n K 3 rfl rfl dX3_draw_51 ?_
            refine r_aload_n K 0 rfl rfl dX3_draw_52 ?_
            refine get_69_5 K fl_RX3_29 dX3_draw_53 ?_
            refine get_68_1 K fl_RX3_74 dX3_draw_56 ?_
            refine r_iload K rfl dX3_draw_59 ?_
            refine r_iald K 34 (n := 24) (by decide) rfl rfl (by decide) (by omega) dX3_draw_61 ?_
            refine r_topi (b := (nI (ms.getD h 0))) (by rw [sA_at]; unfold upd; rw [if_pos rfl]) ?_
            refine r_iload K rfl dX3_draw_62 ?_
            refine r_callVp K 62 (As := [.int (nI (b)), .int (nI (p)), .int (nI (ms.getD h 0)), .int (nI (h))]) mv_X4_moved ml_RX3_85 (c_moved hT (hR.same (same_sA hs1 (by simp) _) (by intro k hk; simp; omega) (by simp)) (b := b) (p := p) (l := ms.getD h 0) (h := h) (by omega) (by omega) (by omega) (validP_or (by rw [hp]; exact endP_valid hT (validP_start hT)))) (by decide) rfl rfl rfl rfl (Nat.le_of_ble_eq_true rfl) ⟨by decide, by decide⟩ dX3_draw_64 ?_
            have hpl2 : goS T b p (ms.getD h 0) h = plc T b ms h := by rw [plc_s hlt, hp]
            have hpl : goS T b p (ms.getD h 0) h = endP T b 0 (startS T) (ms.take (h + 1)) := hpl2
            refine r_istore_n K (lv' := [(3, .int (nI (goS T b p (ms.getD h 0) h))), (0, .ref (ad 69)), (1, .int (nI (b))), (2, .int (nI (n))), (4, .int (nI (h)))]) 3 rfl (by decide) rfl dX3_draw_67 ?_
            refine r_aload_n K 0 rfl rfl dX3_draw_68 ?_
            refine get_69_5 K fl_RX3_29 dX3_draw_69 ?_
            refine get_68_0 K fl_RX3_71 dX3_draw_72 ?_
            refine r_iload K rfl dX3_draw_75 ?_
            refine r_iload_n K 3 rfl rfl dX3_draw_77 ?_
            refine r_iast K 33 (n := 24) (by decide) rfl rfl (by decide) (by omega) dX3_draw_78 ?_
            refine r_w (σ2 := ((s1).sA 34 (upd ((s1).A 34) (h) ((nI (ms.getD h 0))))).sA 33 (upd ((s1).A 33) (h) ((nI (goS T b p (ms.getD h 0) h))))) rfl ?_
            refine r_goto K 95 dX3_draw_79 (by decide) ?_
            refine r_iinc K ((nI (h + 1))) rfl (nI_1 _) (lv' := [(4, .int (nI (h + 1))), (3, .int (nI (goS T b p (ms.getD h 0) h))), (0, .ref (ad 69)), (1, .int (nI (b))), (2, .int (nI (n)))]) (by decide) rfl dX3_draw_95 ?_
            refine r_goto K 11 dX3_draw_98 (by decide) ?_
            refine r_pick [2, 3, 4, 1, 0] (lv' := [(0, .ref (ad 69)), (1, .int (nI (b))), (2, .int (nI (n))), (3, .int (nI (goS T b p (ms.getD h 0) h))), (4, .int (nI (h + 1)))]) rfl ?_
            exact ihA _ (by omega) (h + 1) (_) (((s1).sA 34 (upd ((s1).A 34) (h) ((nI (ms.getD h 0))))).sA 33 (upd ((s1).A 33) (h) ((nI (goS T b p (ms.getD h 0) h))))) rfl (by omega) (hpl) (same_sA (same_sA hs1 (by simp) _) (by simp) _) (lnD_put hd hlt hpl2 rfl) (x34_put hx1 (six_at h6 h))
  exact lpA _ (0) (_) (σ) rfl (by omega) (rfl) (same_rf _ _ _ _ _) (fun i hi => absurd hi (Nat.not_lt_zero i)) (hx)

def knL (T : Tv) (b : Nat) (o : Option (List Nat)) : Nat → Nat → Nat → Bool := fun h q m => if h < (oL o).length then knotS q m (plc T b (oL o) h) ((oL o).getD h 0) else false
def cach (T : Tv) (σ : Sg) : Prop := (∀ b h, b < 4 → h < 24 → σ.A 28 (b * 24 + h) = -2 ∨ slotR (plS T b kn0 h) (b * 24 + h) σ) ∧ ∀ b o, b < 4 → o < 4 → σ.A 28 (96 + b * 4 + o) = -2 ∨ slotR (plS T b (knL T o (plS T o kn0 0)) 1) (96 + b * 4 + o) σ
def RepP (T : Tv) (σ : Sg) : Prop := (∀ i, i < 24 → σ.A 31 i = nI 160 ∧ σ.A 32 i = nI 0) ∧ x34 σ ∧ cach T σ
def plE (σ s2 : Sg) : Prop := same [28, 29, 33, 34, 35, 36, 37, 38] [] [30, 35, 36, 37, 38] false σ s2
theorem cach_eq {T : Tv} {σ s : Sg} {n : Nat} (h : cach T σ) (hs : ∀ j, j ≠ n → s.A 28 j = σ.A 28 j ∧ s.A 29 j = σ.A 29 j ∧ s.J 30 j = σ.J 30 j) (h1 : ∀ b h, b < 4 → h < 24 → b * 24 + h = n → slotR (plS T b kn0 h) n s) (h2 : ∀ b o, b < 4 → o < 4 → 96 + b * 4 + o = n → slotR (plS T b (knL T o (plS T o kn0 0)) 1) n s) : cach T s := by
  refine ⟨fun b h' hb hh => ?_, fun b o hb ho => ?_⟩
  · by_cases e : b * 24 + h' = n
    · exact Or.inr (by rw [e]; exact h1 b h' hb hh e)
    · obtain ⟨e1, e2, e3⟩ := hs _ e
      rw [e1]
      exact (h.1 b h' hb hh).imp id (fun z => slotR_eq z e1 e2 e3)
  · by_cases e : 96 + b * 4 + o = n
    · exact Or.inr (by rw [e]; exact h2 b o hb ho e)
    · obtain ⟨e1, e2, e3⟩ := hs _ e
      rw [e1]
      exact (h.2 b o hb ho).imp id (fun z => slotR_eq z e1 e2 e3)
theorem cach_same {T : Tv} {As Is Js : List Nat} {tk : Bool} {σ s : Sg} (h : cach T σ) (hs : same As Is Js tk σ s) (h1 : 28 ∉ As) (h2 : 29 ∉ As) (h3 : 30 ∉ Js) : cach T s :=
  cach_eq (n := 1000) h (fun j _ => ⟨by rw [hs.1 28 h1], by rw [hs.1 29 h2], by rw [hs.2.2.1 30 h3]⟩) (fun b h hb hh e => by omega) (fun b o hb ho e => by omega)
theorem RepP_same {T : Tv} {As Is Js : List Nat} {tk : Bool} {σ s : Sg} (h : RepP T σ) (hs : same As Is Js tk σ s) (hA : 28 ∉ As ∧ 29 ∉ As ∧ 31 ∉ As ∧ 32 ∉ As ∧ 34 ∉ As) (hJ : 30 ∉ Js) : RepP T s :=
  ⟨fun i hi => by rw [hs.1 31 hA.2.2.1, hs.1 32 hA.2.2.2.1]; exact h.1 i hi, x34_same h.2.1 hs hA.2.2.2.2, cach_same h.2.2 hs hA.1 hA.2.1 hJ⟩
theorem line0 {T : Tv} {σ : Sg} (h : RepP T σ) : LineR 31 32 kn0 σ := fun i hi => ⟨160, 0, (h.1 i hi).1, (h.1 i hi).2, by decide, by decide, fun q m => knot_160 q m 0⟩
theorem lineD {T : Tv} (hT : TOk T) {b : Nat} {o : Option (List Nat)} {s : Sg} (h : lnD T b (oL o) 24 s) (hx : x34 s) (h6 : sixL (oL o)) : LineR 33 34 (knL T b o) s := by
  intro i hi
  obtain ⟨x, hx1, hx2⟩ := hx i hi
  by_cases q : i < (oL o).length
  · obtain ⟨g1, g2⟩ := (h i hi).1 q
    refine ⟨_, _, g1, g2, validP_le hT (endP_valid hT (validP_start hT)), Nat.lt_of_lt_of_le (six_at h6 i) (by decide), fun a m => ?_⟩
    unfold knL
    rw [if_pos q]
  · refine ⟨_, _, (h i hi).2 (by omega), hx2, by decide, by omega, fun a m => ?_⟩
    unfold knL
    rw [if_neg q, knot_160]
theorem pl_ok {T : Tv} {b : Nat} {kn : Nat → Nat → Nat → Bool} {h : Nat} {ms : List Nat} (he : plS T b kn h = some ms) : okP T b kn h (startS T) 0 ms := (plS_bst he).1.1
theorem oL_six {T : Tv} {b : Nat} {kn : Nat → Nat → Nat → Bool} {h : Nat} : sixL (oL (plS T b kn h)) := by
  rcases q : plS T b kn h with _ | ms
  · intro m hm; cases hm
  · exact okP_six (pl_ok q)
set_option maxHeartbeats 400000 in
set_option maxRecDepth 10000 in
theorem c_soonestOf {g : Gp} {lau : Launch} {ad : Nat → Nat} {σ : Sg} {T : Tv} (hT : TOk T) (hR : RepC T σ) (hP : RepP T σ) {b h : Nat} (hb : b < 4) (hh : h < 24) : Con g lau yX3_soonestOf cX3_soonestOf 4 (Option.some .int) 5 132 [.ref (ad 69), .int (nI (b)), .int (nI (h))] ad σ (fun r a2 s2 => some (.int (nI (b * 24 + h))) = r ∧ adE ad a2 ∧ plE σ s2 ∧ RepP T s2 ∧ slotR (plS T b kn0 h) (b * 24 + h) s2) := by
  refine con_mk (by decide) (Nat.le_of_ble_eq_true rfl) (fun x hxl K hr => ?_)
  subst hxl
  refine r_lv (lv' := [(0, .ref (ad 69)), (1, .int (nI (b))), (2, .int (nI (h)))]) rfl ?_
  refine r_iload_n K 1 rfl rfl dX3_soonestOf_0 ?_
  refine r_bipush K ((nI (24))) (by decide) dX3_soonestOf_1 ?_
  refine r_imul K dX3_soonestOf_3 ?_
  refine r_topi (pk_mul _ _) ?_
  refine r_iload_n K 2 rfl rfl dX3_soonestOf_4 ?_
  refine r_iadd K dX3_soonestOf_5 ?_
  refine r_topi (nI_add _ _) ?_
  refine r_istore_n K (lv' := [(3, .int (nI ((b * 24) + h))), (0, .ref (ad 69)), (1, .int (nI (b))), (2, .int (nI (h)))]) 3 rfl (by decide) rfl dX3_soonestOf_6 ?_
  refine r_aload_n K 0 rfl rfl dX3_soonestOf_7 ?_
  refine get_69_0 K fl_RX3_11 dX3_soonestOf_8 ?_
  refine r_iload_n K 3 rfl rfl dX3_soonestOf_11 ?_
  refine r_iald K 28 (n := 112) (by decide) rfl rfl (by decide) (by omega) dX3_soonestOf_12 ?_
  refine r_bipush K ((-2)) (by decide) dX3_soonestOf_13 ?_
  refine r_icmp_ne K 29 dX3_soonestOf_15 (by decide) (fun h15 => ?_) (fun h15 => ?_)
  · refine r_iload_n K 3 rfl rfl dX3_soonestOf_29 ?_
    exact r_iret K hr (⟨rfl, adE_rf ad, same_rf _ _ _ _ _, hP, (hP.2.2.1 b h hb hh).resolve_left h15⟩) dX3_soonestOf_30
  · refine r_aload_n K 0 rfl rfl dX3_soonestOf_18 ?_
    refine r_iload_n K 3 rfl rfl dX3_soonestOf_19 ?_
    refine r_iload_n K 1 rfl rfl dX3_soonestOf_20 ?_
    refine r_iload_n K 2 rfl rfl dX3_soonestOf_21 ?_
    refine r_aload_n K 0 rfl rfl dX3_soonestOf_22 ?_
    refine get_69_4 K fl_RX3_25 dX3_soonestOf_23 ?_
    refine r_callV K 69 (As := [.int (nI ((b * 24) + h)), .int (nI (b)), .int (nI (h)), .ref (ad 67)]) (rest := []) mv_X3_search ml_RX3_54 (c_search_67 hT hR (b := b) (n := b * 24 + h) (h0 := h) (kn := kn0) hb (by omega) hh (line0 hP)) (by decide) rfl rfl rfl rfl (Nat.le_of_ble_eq_true rfl) ⟨by decide, by decide⟩ dX3_soonestOf_26 (fun r_s ad_s s_s h_s => ?_)
    obtain ⟨rfl, ha2, hsp, hsl⟩ := h_s
    refine r_st (st' := []) rfl ?_
    rw [show ad 69 = ad_s 69 from (ha2 69 (by decide)).symm]
    refine r_iload_n K 3 rfl rfl dX3_soonestOf_29 ?_
    exact r_iret K hr (⟨rfl, ha2, same_w hsp.1 (by simp) (by simp) (by simp) id, ⟨fun i hi => by rw [hsp.1.1 31 (by simp), hsp.1.1 32 (by simp)]; exact hP.1 i hi, x34_same hP.2.1 hsp.1 (by simp), cach_eq hP.2.2 hsp.2 (fun b2 h2 hb2 hh2 e => by have e1 : b2 = b := (by omega); have e2 : h2 = h := (by omega); rw [e1, e2]; exact hsl) (fun b2 o hb2 ho e => by omega)⟩, hsl⟩) dX3_soonestOf_30

set_option maxHeartbeats 400000 in
set_option maxRecDepth 10000 in
theorem c_clearOf {g : Gp} {lau : Launch} {ad : Nat → Nat} {σ : Sg} {T : Tv} (hT : TOk T) (hR : RepC T σ) (hP : RepP T σ) {b o : Nat} (hb : b < 4) (ho : o < 4) (hsl0 : slotR (plS T o kn0 0) (o * 24 + 0) σ) : Con g lau yX3_clearOf cX3_clearOf 5 (Option.some .int) 5 132 [.ref (ad 69), .int (nI (b)), .int (nI (o)), .int (nI (o * 24 + 0))] ad σ (fun r a2 s2 => some (.int (nI (96 + b * 4 + o))) = r ∧ adE ad a2 ∧ plE σ s2 ∧ RepP T s2 ∧ slotR (plS T b (knL T o (plS T o kn0 0)) 1) (96 + b * 4 + o) s2) := by
  refine con_mk (by decide) (Nat.le_of_ble_eq_true rfl) (fun x hxl K hr => ?_)
  subst hxl
  refine r_lv (lv' := [(0, .ref (ad 69)), (1, .int (nI (b))), (2, .int (nI (o))), (3, .int (nI (o * 24 + 0)))]) rfl ?_
  refine r_bipush K ((nI (96))) (by decide) dX3_clearOf_0 ?_
  refine r_iload_n K 1 rfl rfl dX3_clearOf_2 ?_
  refine r_iconst K ((nI (4))) (by decide) dX3_clearOf_3 ?_
  refine r_imul K dX3_clearOf_4 ?_
  refine r_topi (pk_mul _ _) ?_
  refine r_iadd K dX3_clearOf_5 ?_
  refine r_topi (nI_add _ _) ?_
  refine r_iload_n K 2 rfl rfl dX3_clearOf_6 ?_
  refine r_iadd K dX3_clearOf_7 ?_
  refine r_topi (nI_add _ _) ?_
  refine r_istore K (lv' := [(4, .int (nI ((96 + (b * 4)) + o))), (0, .ref (ad 69)), (1, .int (nI (b))), (2, .int (nI (o))), (3, .int (nI (o * 24 + 0)))]) (by decide) rfl dX3_clearOf_8 ?_
  refine r_aload_n K 0 rfl rfl dX3_clearOf_10 ?_
  refine get_69_0 K fl_RX3_11 dX3_clearOf_11 ?_
  refine r_iload K rfl dX3_clearOf_14 ?_
  refine r_iald K 28 (n := 112) (by decide) rfl rfl (by decide) (by omega) dX3_clearOf_16 ?_
  refine r_bipush K ((-2)) (by decide) dX3_clearOf_17 ?_
  refine r_icmp_ne K 40 dX3_clearOf_19 (by decide) (fun h19 => ?_) (fun h19 => ?_)
  · refine r_iload K rfl dX3_clearOf_40 ?_
    exact r_iret K hr (⟨rfl, adE_rf ad, same_rf _ _ _ _ _, hP, (hP.2.2.2 b o hb ho).resolve_left h19⟩) dX3_clearOf_42
  · refine r_aload_n K 0 rfl rfl dX3_clearOf_22 ?_
    refine r_iload_n K 2 rfl rfl dX3_clearOf_23 ?_
    refine r_iload_n K 3 rfl rfl dX3_clearOf_24 ?_
    refine r_callV K 69 (As := [.int (nI (o)), .int (nI (o * 24 + 0))]) (rest := []) mv_X3_draw ml_RX3_58 (c_draw hT hR (b := o) (n := o * 24 + 0) (o := plS T o kn0 0) ho (by omega) hsl0 (fun ms e => pl_ok e) hP.2.1) (by decide) rfl rfl rfl rfl (Nat.le_of_ble_eq_true rfl) ⟨by decide, by decide⟩ dX3_clearOf_25 (fun r_d ad_d s_d h_d => ?_)
    obtain ⟨rfl, rfl, hsd, hdr, hx2⟩ := h_d
    refine r_st (st' := []) rfl ?_
    refine r_aload_n K 0 rfl rfl dX3_clearOf_28 ?_
    refine r_iload K rfl dX3_clearOf_29 ?_
    refine r_iload_n K 1 rfl rfl dX3_clearOf_31 ?_
    refine r_iconst K ((nI (1))) (by decide) dX3_clearOf_32 ?_
    refine r_aload_n K 0 rfl rfl dX3_clearOf_33 ?_
    refine get_69_5 K fl_RX3_29 dX3_clearOf_34 ?_
    refine r_callV K 69 (As := [.int (nI ((96 + (b * 4)) + o)), .int (nI (b)), .int (nI (1)), .ref (ad 68)]) (rest := []) mv_X3_search ml_RX3_54 (c_search_68 hT (hR.same hsd (by intro k hk; simp; omega) (by simp)) (b := b) (n := 96 + b * 4 + o) (h0 := 1) (kn := knL T o (plS T o kn0 0)) hb (by omega) (by decide) (lineD hT hdr hx2 oL_six)) (by decide) rfl rfl rfl rfl (Nat.le_of_ble_eq_true rfl) ⟨by decide, by decide⟩ dX3_clearOf_37 (fun r_s ad_s s_s h_s => ?_)
    obtain ⟨rfl, ha2, hsp, hsl⟩ := h_s
    refine r_st (st' := []) rfl ?_
    rw [show ad 69 = ad_s 69 from (ha2 69 (by decide)).symm]
    refine r_iload K rfl dX3_clearOf_40 ?_
    exact r_iret K hr (⟨rfl, ha2, same_tr (same_w hsd (by simp) (by simp) (by simp) id) (same_w hsp.1 (by simp) (by simp) (by simp) id), ⟨fun i hi => by rw [hsp.1.1 31 (by simp), hsp.1.1 32 (by simp), hsd.1 31 (by simp), hsd.1 32 (by simp)]; exact hP.1 i hi, x34_same hx2 hsp.1 (by simp), cach_eq (cach_same hP.2.2 hsd (by simp) (by simp) (by simp)) hsp.2 (fun b2 h2 hb2 hh2 e => by omega) (fun b2 o2 hb2 ho2 e => by have e1 : b2 = b := (by omega); have e2 : o2 = o := (by omega); rw [e1, e2]; exact hsl)⟩, hsl⟩) dX3_clearOf_42

