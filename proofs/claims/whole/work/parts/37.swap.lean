/-- the judgement over any list of cells -/
def GW (g : Gp) (x : Cx) (nL pc : Nat) (lv : List (Nat × Value)) (st : List Value) (ws : va_W) : Prop :=
  ∀ (H : Heap) (locs : List Loc) (ls : Array Slot), va_P g.D vwCl ws H → va_D (AA g) ws → va_S (AA g) x.s.heap H locs → lv_has ls nL lv → W x.p x.l x.e x.R x.s x.m x.args x.below x.meth x.c H locs x.nc x.ns x.Q (F0 x.m pc ls st)
section SW
variable {g : Gp} {x : Cx} {cc : ByteArray} {own : String} {nL fr lo pc : Nat} {lv lv' : List (Nat × Value)} {rest : List Value} {ad : Nat → Nat} {σ : Sg} {ws : va_W}
theorem gw_in (k : GW g x nL pc lv rest (wl g ad σ)) : GJ g x nL pc lv rest ad σ := fun H locs ls hW hS h => k H locs ls hW.1 hW.2 hS h
theorem gw_out (hp : ∀ H, va_P g.D vwCl ws H → va_D (AA g) ws → Wd g ad σ H) (k : GJ g x nL pc lv rest ad σ) : GW g x nL pc lv rest ws := fun H locs ls h1 h2 hS h => k H locs ls (hp H h1 h2) hS h
theorem gw_aload (K : Ok g x cc own nL fr lo) {q : Fin 4} {v : Nat} (i : Nat) (hi : (q : Nat) = i) (h : lvg lv i = some (.ref v)) (d : decode cc pc = .ok (.aload_n q, 1)) (k : GW g x nL (pc + 1) lv (.ref v :: rest) ws) : GW g x nL pc lv (rest) ws :=
  fun H locs ls h1 h2 hS hl => lv_aload_n K.1 K.2.1 d hi (lvg_at hl h) (k H locs ls h1 h2 hS hl)

def psw (k : Nat) : Nat := if k = 35 then 37 else if k = 37 then 35 else if k = 36 then 38 else if k = 38 then 36 else k
def asw (ad : Nat → Nat) : Nat → Nat := fun k => ad (psw k)
def ssw (σ : Sg) : Sg := (σ.1, fun k => σ.A (psw k), fun k => σ.J (psw k), σ.2.2.2)
theorem psw_lt {k : Nat} (h : k < 72) : psw k < 72 ∧ (k < 60 → psw k < 60 ∧ tyA (psw k) = tyA k ∧ lenA (psw k) = lenA k) ∧ (¬ k < 60 → psw k = k) ∧ psw (psw k) = k := (show ∀ k, k < 72 → psw k < 72 ∧ (k < 60 → psw k < 60 ∧ tyA (psw k) = tyA k ∧ lenA (psw k) = lenA k) ∧ (¬ k < 60 → psw k = k) ∧ psw (psw k) = k by decide +kernel) k h
theorem cesw (g : Gp) (ad : Nat → Nat) (σ : Sg) {k : Nat} (h : k < 72) (hk : k ≠ 69) : ceE g (asw ad) (ssw σ) k = ceE g ad σ (psw k) := by
  obtain ⟨h1, h2, h3, -⟩ := psw_lt h
  unfold ceE
  by_cases q : k < 60
  · obtain ⟨h4, h5, h6⟩ := h2 q
    rw [if_pos q, if_pos h4]
    unfold arE
    rw [h5, h6]
    rfl
  · rw [h3 q, if_neg q, if_neg q]
    revert hk
    exact j12 (P := fun k => k ≠ 69 → obE g (asw ad) (ssw σ) k = obE g ad σ k) (fun _ => rfl) (fun _ => rfl) (fun _ => rfl) (fun _ => rfl) (fun _ => rfl) (fun _ => rfl) (fun _ => rfl) (fun _ => rfl) (fun _ => rfl) (fun z => absurd rfl z) (fun _ => rfl) (fun _ => rfl) k h q
theorem wdsw {g : Gp} {ad : Nat → Nat} {σ : Sg} {H : Heap} {ws : va_W} (hw : ws = (wl g ad σ).set 69 (ad 69, .inr (3, [.ref (ad 28), .ref (ad 62), .ref (ad 29), .ref (ad 30), .ref (ad 67), .ref (ad 68), .ref (ad 37), .ref (ad 38), .ref (ad 35), .ref (ad 36)]))) (h1 : va_P g.D vwCl ws H) (h2 : va_D (AA g) ws) : Wd g (asw ad) (ssw σ) H := by
  have hlen : (wl g ad σ).length = 72 := by unfold wl; simp
  have hlen2 : (wl g (asw ad) (ssw σ)).length = 72 := by unfold wl; simp
  have hg : ∀ (k : Nat) (q : Nat × va_E), (wl g (asw ad) (ssw σ))[k]? = some q → ws[psw k]? = some q := by
    intro k q hq
    by_cases hk : k < 72
    · rw [wl_get g _ _ hk] at hq
      obtain ⟨e1, -, -, -⟩ := psw_lt hk
      subst hw
      by_cases hr : k = 69
      · subst hr
        rw [show psw 69 = 69 from rfl, List.getElem?_set_self (by rw [hlen]; decide)]
        exact hq
      · have e2 : psw k ≠ 69 := fun z => by
          have e3 := (psw_lt hk).2.2.2
          rw [z] at e3
          exact hr (e3.symm.trans rfl)
        rw [List.getElem?_set_ne (Ne.symm e2), wl_get g ad σ e1, ← hq, cesw g ad σ hk hr]
        rfl
    · rw [List.getElem?_eq_none (by rw [hlen2]; omega)] at hq
      cases hq
  refine ⟨h1.by _ hg, h2.by _ hg (fun i j hi hj he => ?_)⟩
  rw [hlen2] at hi hj
  have e1 := (psw_lt hi).2.2.2
  have e2 := (psw_lt hj).2.2.2
  rw [← e1, he, e2]
set_option maxHeartbeats 400000 in
set_option maxRecDepth 10000 in
theorem c_X3_swap {g : Gp} {lau : Launch} {ad : Nat → Nat} {σ : Sg} : Con g lau yX3_swap cX3_swap 3 (Option.none : Option Jvm.ClassFile.FieldType) 0 0 [.ref (ad 69)] ad σ (fun r a2 s2 => r = none ∧ a2 = asw ad ∧ s2 = ssw σ) := by
  refine con_mk (by decide) (Nat.le_of_ble_eq_true rfl) (fun x hxl K hr => ?_)
  subst hxl
  refine r_lv (lv' := [(0, .ref (ad 69))]) rfl ?_
  refine r_aload_n K 0 rfl rfl dX3_swap_0 ?_
  refine get_69_6 K fl_RX3_32 dX3_swap_1 ?_
  refine r_astore_n K (lv' := [(1, .ref (ad 35)), (0, .ref (ad 69))]) 1 rfl (by decide) rfl dX3_swap_4 ?_
  refine r_aload_n K 0 rfl rfl dX3_swap_5 ?_
  refine get_69_7 K fl_RX3_35 dX3_swap_6 ?_
  refine r_astore_n K (lv' := [(2, .ref (ad 36)), (1, .ref (ad 35)), (0, .ref (ad 69))]) 2 rfl (by decide) rfl dX3_swap_9 ?_
  refine r_aload_n K 0 rfl rfl dX3_swap_10 ?_
  refine r_aload_n K 0 rfl rfl dX3_swap_11 ?_
  refine get_69_8 K fl_RX3_38 dX3_swap_12 ?_
  refine gw_in ?_
  refine fun H locs ls h1 h2 hS h => va_put (D := g.D) (ci := 3) (C := RX3) (T := TX3) (N := 10) (ty := .array .int) K.1 K.2.1 K.2.2.2.2.1 inX3 tyX3 tyX3_ok nmX3 K.2.2.2.1 K.2.2.2.2.2.1.1 h1 h2 hS 69 (fs := [.ref (ad 28), .ref (ad 62), .ref (ad 29), .ref (ad 30), .ref (ad 67), .ref (ad 68), .ref (ad 35), .ref (ad 36), .ref (ad 37), .ref (ad 38)]) (wl_get g ad σ (by decide)) rfl 6 (by decide) (K.2.2.2.2.1 _ fl_RX3_32) (fun _ h => h) rfl (by decide +kernel) rfl rfl (Nat.le_of_ble_eq_true rfl) dX3_swap_15 (fun H1 locs1 h1 h2 hS1 => (?_ : GW g x _ _ _ _ _) H1 locs1 ls h1 h2 hS1 h)
  refine (show GW g x _ _ _ _ ((wl g ad σ).set 69 (ad 69, .inr (3, [.ref (ad 28), .ref (ad 62), .ref (ad 29), .ref (ad 30), .ref (ad 67), .ref (ad 68), .ref (ad 37), .ref (ad 36), .ref (ad 37), .ref (ad 38)]))) → _ from id) ?_
  refine gw_aload K 0 rfl rfl dX3_swap_18 ?_
  refine gw_aload K 0 rfl rfl dX3_swap_19 ?_
  refine fun H locs ls h1 h2 hS h => va_get (D := g.D) (ci := 3) (C := RX3) (T := TX3) (N := 10) K.1 K.2.1 K.2.2.2.2.1 inX3 K.2.2.2.1 K.2.2.2.2.2.1.1 h1 69 (fs := [.ref (ad 28), .ref (ad 62), .ref (ad 29), .ref (ad 30), .ref (ad 67), .ref (ad 68), .ref (ad 37), .ref (ad 36), .ref (ad 37), .ref (ad 38)]) (List.getElem?_set_self (by first | (rw [List.length_set]; unfold wl; rw [List.length_map, List.length_range]; decide) | (unfold wl; rw [List.length_map, List.length_range]; decide))) rfl 9 (by decide) (K.2.2.2.2.1 _ fl_RX3_41) (fun _ h => h) rfl dX3_swap_20 ((?_ : GW g x _ _ _ _ _) H locs ls h1 h2 hS h)
  refine fun H locs ls h1 h2 hS h => va_put (D := g.D) (ci := 3) (C := RX3) (T := TX3) (N := 10) (ty := .array .long) K.1 K.2.1 K.2.2.2.2.1 inX3 tyX3 tyX3_ok nmX3 K.2.2.2.1 K.2.2.2.2.2.1.1 h1 h2 hS 69 (fs := [.ref (ad 28), .ref (ad 62), .ref (ad 29), .ref (ad 30), .ref (ad 67), .ref (ad 68), .ref (ad 37), .ref (ad 36), .ref (ad 37), .ref (ad 38)]) (List.getElem?_set_self (by first | (rw [List.length_set]; unfold wl; rw [List.length_map, List.length_range]; decide) | (unfold wl; rw [List.length_map, List.length_range]; decide))) rfl 7 (by decide) (K.2.2.2.2.1 _ fl_RX3_35) (fun _ h => h) rfl (by decide +kernel) rfl rfl (Nat.le_of_ble_eq_true rfl) dX3_swap_23 (fun H1 locs1 h1 h2 hS1 => (?_ : GW g x _ _ _ _ _) H1 locs1 ls h1 h2 hS1 h)
  rw [List.set_set]
  refine (show GW g x _ _ _ _ ((wl g ad σ).set 69 (ad 69, .inr (3, [.ref (ad 28), .ref (ad 62), .ref (ad 29), .ref (ad 30), .ref (ad 67), .ref (ad 68), .ref (ad 37), .ref (ad 38), .ref (ad 37), .ref (ad 38)]))) → _ from id) ?_
  refine gw_aload K 0 rfl rfl dX3_swap_26 ?_
  refine gw_aload K 1 rfl rfl dX3_swap_27 ?_
  refine fun H locs ls h1 h2 hS h => va_put (D := g.D) (ci := 3) (C := RX3) (T := TX3) (N := 10) (ty := .array .int) K.1 K.2.1 K.2.2.2.2.1 inX3 tyX3 tyX3_ok nmX3 K.2.2.2.1 K.2.2.2.2.2.1.1 h1 h2 hS 69 (fs := [.ref (ad 28), .ref (ad 62), .ref (ad 29), .ref (ad 30), .ref (ad 67), .ref (ad 68), .ref (ad 37), .ref (ad 38), .ref (ad 37), .ref (ad 38)]) (List.getElem?_set_self (by first | (rw [List.length_set]; unfold wl; rw [List.length_map, List.length_range]; decide) | (unfold wl; rw [List.length_map, List.length_range]; decide))) rfl 8 (by decide) (K.2.2.2.2.1 _ fl_RX3_38) (fun _ h => h) rfl (by decide +kernel) rfl rfl (Nat.le_of_ble_eq_true rfl) dX3_swap_28 (fun H1 locs1 h1 h2 hS1 => (?_ : GW g x _ _ _ _ _) H1 locs1 ls h1 h2 hS1 h)
  rw [List.set_set]
  refine (show GW g x _ _ _ _ ((wl g ad σ).set 69 (ad 69, .inr (3, [.ref (ad 28), .ref (ad 62), .ref (ad 29), .ref (ad 30), .ref (ad 67), .ref (ad 68), .ref (ad 37), .ref (ad 38), .ref (ad 35), .ref (ad 38)]))) → _ from id) ?_
  refine gw_aload K 0 rfl rfl dX3_swap_31 ?_
  refine gw_aload K 2 rfl rfl dX3_swap_32 ?_
  refine fun H locs ls h1 h2 hS h => va_put (D := g.D) (ci := 3) (C := RX3) (T := TX3) (N := 10) (ty := .array .long) K.1 K.2.1 K.2.2.2.2.1 inX3 tyX3 tyX3_ok nmX3 K.2.2.2.1 K.2.2.2.2.2.1.1 h1 h2 hS 69 (fs := [.ref (ad 28), .ref (ad 62), .ref (ad 29), .ref (ad 30), .ref (ad 67), .ref (ad 68), .ref (ad 37), .ref (ad 38), .ref (ad 35), .ref (ad 38)]) (List.getElem?_set_self (by first | (rw [List.length_set]; unfold wl; rw [List.length_map, List.length_range]; decide) | (unfold wl; rw [List.length_map, List.length_range]; decide))) rfl 9 (by decide) (K.2.2.2.2.1 _ fl_RX3_41) (fun _ h => h) rfl (by decide +kernel) rfl rfl (Nat.le_of_ble_eq_true rfl) dX3_swap_33 (fun H1 locs1 h1 h2 hS1 => (?_ : GW g x _ _ _ _ _) H1 locs1 ls h1 h2 hS1 h)
  rw [List.set_set]
  refine (show GW g x _ _ _ _ ((wl g ad σ).set 69 (ad 69, .inr (3, [.ref (ad 28), .ref (ad 62), .ref (ad 29), .ref (ad 30), .ref (ad 67), .ref (ad 68), .ref (ad 37), .ref (ad 38), .ref (ad 35), .ref (ad 36)]))) → _ from id) ?_
  exact gw_out (ad := asw ad) (σ := ssw σ) (fun H => wdsw rfl) (r_vret K hr ⟨rfl, rfl, rfl⟩ dX3_swap_36)
def psx (k : Nat) : Nat := if k = 41 then 42 else if k = 42 then 41 else k
def asx (ad : Nat → Nat) : Nat → Nat := fun k => ad (psx k)
def ssx (σ : Sg) : Sg := (σ.1, fun k => σ.A (psx k), fun k => σ.J (psx k), σ.2.2.2)
theorem psx_lt {k : Nat} (h : k < 72) : psx k < 72 ∧ (k < 60 → psx k < 60 ∧ tyA (psx k) = tyA k ∧ lenA (psx k) = lenA k) ∧ (¬ k < 60 → psx k = k) ∧ psx (psx k) = k := (show ∀ k, k < 72 → psx k < 72 ∧ (k < 60 → psx k < 60 ∧ tyA (psx k) = tyA k ∧ lenA (psx k) = lenA k) ∧ (¬ k < 60 → psx k = k) ∧ psx (psx k) = k by decide +kernel) k h
theorem cesx (g : Gp) (ad : Nat → Nat) (σ : Sg) {k : Nat} (h : k < 72) (hk : k ≠ 70) : ceE g (asx ad) (ssx σ) k = ceE g ad σ (psx k) := by
  obtain ⟨h1, h2, h3, -⟩ := psx_lt h
  unfold ceE
  by_cases q : k < 60
  · obtain ⟨h4, h5, h6⟩ := h2 q
    rw [if_pos q, if_pos h4]
    unfold arE
    rw [h5, h6]
    rfl
  · rw [h3 q, if_neg q, if_neg q]
    revert hk
    exact j12 (P := fun k => k ≠ 70 → obE g (asx ad) (ssx σ) k = obE g ad σ k) (fun _ => rfl) (fun _ => rfl) (fun _ => rfl) (fun _ => rfl) (fun _ => rfl) (fun _ => rfl) (fun _ => rfl) (fun _ => rfl) (fun _ => rfl) (fun _ => rfl) (fun z => absurd rfl z) (fun _ => rfl) k h q
theorem wdsx {g : Gp} {ad : Nat → Nat} {σ : Sg} {H : Heap} {ws : va_W} (hw : ws = (wl g ad σ).set 70 (ad 70, .inr (2, [.ref (ad 62), .ref (ad 39), .ref (ad 40), .ref (ad 42), .ref (ad 41), .ref (ad 43), .ref (ad 44), .ref (ad 45)]))) (h1 : va_P g.D vwCl ws H) (h2 : va_D (AA g) ws) : Wd g (asx ad) (ssx σ) H := by
  have hlen : (wl g ad σ).length = 72 := by unfold wl; simp
  have hlen2 : (wl g (asx ad) (ssx σ)).length = 72 := by unfold wl; simp
  have hg : ∀ (k : Nat) (q : Nat × va_E), (wl g (asx ad) (ssx σ))[k]? = some q → ws[psx k]? = some q := by
    intro k q hq
    by_cases hk : k < 72
    · rw [wl_get g _ _ hk] at hq
      obtain ⟨e1, -, -, -⟩ := psx_lt hk
      subst hw
      by_cases hr : k = 70
      · subst hr
        rw [show psx 70 = 70 from rfl, List.getElem?_set_self (by rw [hlen]; decide)]
        exact hq
      · have e2 : psx k ≠ 70 := fun z => by
          have e3 := (psx_lt hk).2.2.2
          rw [z] at e3
          exact hr (e3.symm.trans rfl)
        rw [List.getElem?_set_ne (Ne.symm e2), wl_get g ad σ e1, ← hq, cesx g ad σ hk hr]
        rfl
    · rw [List.getElem?_eq_none (by rw [hlen2]; omega)] at hq
      cases hq
  refine ⟨h1.by _ hg, h2.by _ hg (fun i j hi hj he => ?_)⟩
  rw [hlen2] at hi hj
  have e1 := (psx_lt hi).2.2.2
  have e2 := (psx_lt hj).2.2.2
  rw [← e1, he, e2]
set_option maxHeartbeats 400000 in
set_option maxRecDepth 10000 in
theorem c_X2_swap {g : Gp} {lau : Launch} {ad : Nat → Nat} {σ : Sg} : Con g lau yX2_swap cX2_swap 2 (Option.none : Option Jvm.ClassFile.FieldType) 0 0 [.ref (ad 70)] ad σ (fun r a2 s2 => r = none ∧ a2 = asx ad ∧ s2 = ssx σ) := by
  refine con_mk (by decide) (Nat.le_of_ble_eq_true rfl) (fun x hxl K hr => ?_)
  subst hxl
  refine r_lv (lv' := [(0, .ref (ad 70))]) rfl ?_
  refine r_aload_n K 0 rfl rfl dX2_swap_0 ?_
  refine get_70_3 K fl_RX2_19 dX2_swap_1 ?_
  refine r_astore_n K (lv' := [(1, .ref (ad 41)), (0, .ref (ad 70))]) 1 rfl (by decide) rfl dX2_swap_4 ?_
  refine r_aload_n K 0 rfl rfl dX2_swap_5 ?_
  refine r_aload_n K 0 rfl rfl dX2_swap_6 ?_
  refine get_70_4 K fl_RX2_22 dX2_swap_7 ?_
  refine gw_in ?_
  refine fun H locs ls h1 h2 hS h => va_put (D := g.D) (ci := 2) (C := RX2) (T := TX2) (N := 8) (ty := .array .long) K.1 K.2.1 K.2.2.2.2.1 inX2 tyX2 tyX2_ok nmX2 K.2.2.2.1 K.2.2.2.2.2.1.1 h1 h2 hS 70 (fs := [.ref (ad 62), .ref (ad 39), .ref (ad 40), .ref (ad 41), .ref (ad 42), .ref (ad 43), .ref (ad 44), .ref (ad 45)]) (wl_get g ad σ (by decide)) rfl 3 (by decide) (K.2.2.2.2.1 _ fl_RX2_19) (fun _ h => h) rfl (by decide +kernel) rfl rfl (Nat.le_of_ble_eq_true rfl) dX2_swap_10 (fun H1 locs1 h1 h2 hS1 => (?_ : GW g x _ _ _ _ _) H1 locs1 ls h1 h2 hS1 h)
  refine (show GW g x _ _ _ _ ((wl g ad σ).set 70 (ad 70, .inr (2, [.ref (ad 62), .ref (ad 39), .ref (ad 40), .ref (ad 42), .ref (ad 42), .ref (ad 43), .ref (ad 44), .ref (ad 45)]))) → _ from id) ?_
  refine gw_aload K 0 rfl rfl dX2_swap_13 ?_
  refine gw_aload K 1 rfl rfl dX2_swap_14 ?_
  refine fun H locs ls h1 h2 hS h => va_put (D := g.D) (ci := 2) (C := RX2) (T := TX2) (N := 8) (ty := .array .long) K.1 K.2.1 K.2.2.2.2.1 inX2 tyX2 tyX2_ok nmX2 K.2.2.2.1 K.2.2.2.2.2.1.1 h1 h2 hS 70 (fs := [.ref (ad 62), .ref (ad 39), .ref (ad 40), .ref (ad 42), .ref (ad 42), .ref (ad 43), .ref (ad 44), .ref (ad 45)]) (List.getElem?_set_self (by first | (rw [List.length_set]; unfold wl; rw [List.length_map, List.length_range]; decide) | (unfold wl; rw [List.length_map, List.length_range]; decide))) rfl 4 (by decide) (K.2.2.2.2.1 _ fl_RX2_22) (fun _ h => h) rfl (by decide +kernel) rfl rfl (Nat.le_of_ble_eq_true rfl) dX2_swap_15 (fun H1 locs1 h1 h2 hS1 => (?_ : GW g x _ _ _ _ _) H1 locs1 ls h1 h2 hS1 h)
  rw [List.set_set]
  refine (show GW g x _ _ _ _ ((wl g ad σ).set 70 (ad 70, .inr (2, [.ref (ad 62), .ref (ad 39), .ref (ad 40), .ref (ad 42), .ref (ad 41), .ref (ad 43), .ref (ad 44), .ref (ad 45)]))) → _ from id) ?_
  exact gw_out (ad := asx ad) (σ := ssx σ) (fun H => wdsx rfl) (r_vret K hr ⟨rfl, rfl, rfl⟩ dX2_swap_18)
end SW
