/-- the values of the world: ints, rows of ints, rows of longs, one long -/
def Sg : Type := (Nat → Int32) × (Nat → Nat → Int32) × (Nat → Nat → Int64) × Int64
def Sg.I (σ : Sg) : Nat → Int32 := σ.1
def Sg.A (σ : Sg) : Nat → Nat → Int32 := σ.2.1
def Sg.J (σ : Sg) : Nat → Nat → Int64 := σ.2.2.1
def Sg.L (σ : Sg) : Int64 := σ.2.2.2
def Sg.sI (σ : Sg) (k : Nat) (v : Int32) : Sg := (fun j => if j = k then v else σ.I j, σ.2)
def Sg.sA (σ : Sg) (k : Nat) (f : Nat → Int32) : Sg := (σ.1, fun j => if j = k then f else σ.A j, σ.2.2)
def Sg.sJ (σ : Sg) (k : Nat) (f : Nat → Int64) : Sg := (σ.1, σ.2.1, fun j => if j = k then f else σ.J j, σ.2.2.2)
def Sg.sL (σ : Sg) (v : Int64) : Sg := (σ.1, σ.2.1, σ.2.2.1, v)
theorem sI_I (σ : Sg) (k : Nat) (v : Int32) (j : Nat) : (σ.sI k v).I j = if j = k then v else σ.I j := rfl
theorem sI_A (σ : Sg) (k : Nat) (v : Int32) : (σ.sI k v).A = σ.A := rfl
theorem sI_J (σ : Sg) (k : Nat) (v : Int32) : (σ.sI k v).J = σ.J := rfl
theorem sI_L (σ : Sg) (k : Nat) (v : Int32) : (σ.sI k v).L = σ.L := rfl
theorem sA_I (σ : Sg) (k : Nat) (f : Nat → Int32) : (σ.sA k f).I = σ.I := rfl
theorem sA_A (σ : Sg) (k : Nat) (f : Nat → Int32) (j : Nat) : (σ.sA k f).A j = if j = k then f else σ.A j := rfl
theorem sA_J (σ : Sg) (k : Nat) (f : Nat → Int32) : (σ.sA k f).J = σ.J := rfl
theorem sA_L (σ : Sg) (k : Nat) (f : Nat → Int32) : (σ.sA k f).L = σ.L := rfl
theorem sJ_I (σ : Sg) (k : Nat) (f : Nat → Int64) : (σ.sJ k f).I = σ.I := rfl
theorem sJ_A (σ : Sg) (k : Nat) (f : Nat → Int64) : (σ.sJ k f).A = σ.A := rfl
theorem sJ_J (σ : Sg) (k : Nat) (f : Nat → Int64) (j : Nat) : (σ.sJ k f).J j = if j = k then f else σ.J j := rfl
theorem sJ_L (σ : Sg) (k : Nat) (f : Nat → Int64) : (σ.sJ k f).L = σ.L := rfl
theorem sL_I (σ : Sg) (v : Int64) : (σ.sL v).I = σ.I := rfl
theorem sL_A (σ : Sg) (v : Int64) : (σ.sL v).A = σ.A := rfl
theorem sL_J (σ : Sg) (v : Int64) : (σ.sL v).J = σ.J := rfl
theorem sL_L (σ : Sg) (v : Int64) : (σ.sL v).L = v := rfl
/-- the parameters: numbers of kinds, slots, the rows' kinds, the first free cell, two tables, the texts -/
def Gp : Type := (Nat → ClassId) × (Nat → Nat → Nat) × (ClassId × ClassId × ClassId × ClassId) × Nat × Nat × Nat × (Nat → Nat) × (Nat → Nat)
def Gp.D (g : Gp) : va_G := (g.1, g.2.1)
def Gp.cI (g : Gp) : ClassId := g.2.2.1.1
def Gp.cJ (g : Gp) : ClassId := g.2.2.1.2.1
def Gp.cZ (g : Gp) : ClassId := g.2.2.1.2.2.1
def Gp.cF (g : Gp) : ClassId := g.2.2.1.2.2.2
def Gp.n0 (g : Gp) : Nat := g.2.2.2.1
def Gp.t1 (g : Gp) : Nat := g.2.2.2.2.1
def Gp.t2 (g : Gp) : Nat := g.2.2.2.2.2.1
def Gp.aK (g : Gp) : Nat → Nat := g.2.2.2.2.2.2.1
def Gp.aV (g : Gp) : Nat → Nat := g.2.2.2.2.2.2.2
def Gp.tys (g : Gp) : List (ClassId × FieldType) := [(g.cI, .int), (g.cJ, .long), (g.cZ, .boolean), (g.cF, .object "KiteBarges$Fleet")]
def AA (g : Gp) : Nat → Prop := fun q => g.n0 ≤ q
def lenA (k : Nat) : Nat := [8, 8, 8, 144, 144, 4, 4, 4, 4, 4, 200, 5, 4, 4, 4, 4, 4, 4, 4, 4, 4, 4, 4, 4, 4, 4, 4, 2, 112, 112, 112, 24, 24, 24, 24, 966, 966, 966, 966, 512, 512, 966, 966, 161, 6, 6, 24, 288, 16, 200, 48, 21, 42, 2, 24150, 24, 24, 24, 24, 8694].getD k 0
def tyA (k : Nat) : Nat := [0, 0, 0, 0, 0, 1, 0, 0, 0, 0, 0, 0, 0, 0, 0, 0, 0, 0, 0, 0, 0, 0, 0, 0, 0, 0, 0, 1, 0, 0, 2, 0, 0, 0, 0, 0, 2, 0, 2, 0, 2, 2, 2, 0, 2, 2, 0, 0, 0, 0, 0, 0, 0, 1, 0, 0, 0, 0, 0, 2].getD k 3
def arE (g : Gp) (σ : Sg) (k : Nat) : va_E := if tyA k = 0 then .inl (g.cI, lenA k, .inl (σ.A k)) else if tyA k = 1 then .inl (g.cZ, lenA k, .inl (σ.A k)) else .inl (g.cJ, lenA k, .inr (.inl (σ.J k)))
def obE (g : Gp) (ad : Nat → Nat) (σ : Sg) (k : Nat) : va_E := match k with
  | 60 => .inl (g.cF, 2, .inr (.inr (.inr (.inr (fun i => if i = 0 then some (ad 65) else some (ad 66))))))
  | 61 => .inr (6, [.ref (ad 62), .ref (ad 63), .ref (ad 64), .ref (ad 60), .ref (ad 27), .ref (ad 69), .ref (ad 70)])
  | 62 => .inr (4, [.int (σ.I 0), .int (σ.I 1), .ref (ad 0), .ref (ad 1), .ref (ad 2), .ref (ad 3), .ref (ad 4), .ref (ad 5), .ref (ad 6), .ref (ad 7), .ref (ad 8), .ref (ad 9)])
  | 63 => .inr (5, [.int (σ.I 2), .int (σ.I 3), .ref (ad 10), .int (σ.I 4), .int (σ.I 5), .int (σ.I 6), .int (σ.I 7), .int (σ.I 8), .ref (ad 11), .int (σ.I 9)])
  | 64 => .inr (0, [.int (σ.I 10), .ref (ad 12), .ref (ad 13), .ref (ad 14), .ref (ad 15), .ref (ad 16)])
  | 65 => .inr (0, [.int (σ.I 11), .ref (ad 17), .ref (ad 18), .ref (ad 19), .ref (ad 20), .ref (ad 21)])
  | 66 => .inr (0, [.int (σ.I 12), .ref (ad 22), .ref (ad 23), .ref (ad 24), .ref (ad 25), .ref (ad 26)])
  | 67 => .inr (1, [.ref (ad 31), .ref (ad 32)])
  | 68 => .inr (1, [.ref (ad 33), .ref (ad 34)])
  | 69 => .inr (3, [.ref (ad 28), .ref (ad 62), .ref (ad 29), .ref (ad 30), .ref (ad 67), .ref (ad 68), .ref (ad 35), .ref (ad 36), .ref (ad 37), .ref (ad 38)])
  | 70 => .inr (2, [.ref (ad 62), .ref (ad 39), .ref (ad 40), .ref (ad 41), .ref (ad 42), .ref (ad 43), .ref (ad 44), .ref (ad 45)])
  | _ => .inr (7, [.int (σ.I 13), .ref (ad 46), .ref (ad 47), .int (σ.I 14), .int (σ.I 15), .ref (ad 48), .int (σ.I 16), .ref (ad 49), .int (σ.I 17), .int (σ.I 18), .long σ.L, .int (σ.I 19), .int (σ.I 20), .int (σ.I 21), .int (σ.I 22), .int (σ.I 23), .ref (ad 50), .ref (ad 51), .ref (ad 52), .ref (ad 53), .ref (ad 54), .int (σ.I 24), .int (σ.I 25), .ref (ad 55), .ref (ad 56), .ref (ad 57), .ref (ad 58), .ref (ad 59)])
def ceE (g : Gp) (ad : Nat → Nat) (σ : Sg) (k : Nat) : va_E := if k < 60 then arE g σ k else obE g ad σ k
def wl (g : Gp) (ad : Nat → Nat) (σ : Sg) : va_W := (List.range 72).map (fun k => (ad k, ceE g ad σ k))
theorem wl_get (g : Gp) (ad : Nat → Nat) (σ : Sg) {k : Nat} (h : k < 72) : (wl g ad σ)[k]? = some (ad k, ceE g ad σ k) := by
  unfold wl
  rw [List.getElem?_map, List.getElem?_range h]
  rfl
theorem wl_set {g : Gp} {ad : Nat → Nat} {σ σ2 : Sg} {k : Nat} {e : va_E} (hk : k < 72) (he : e = ceE g ad σ2 k) (ho : ∀ j, j < 72 → j ≠ k → ceE g ad σ2 j = ceE g ad σ j) : (wl g ad σ).set k (ad k, e) = wl g ad σ2 := by
  apply List.ext_getElem?
  intro j
  by_cases hj : j < 72
  · rw [wl_get g ad σ2 hj]
    by_cases hjk : j = k
    · subst hjk
      rw [List.getElem?_set_self (by unfold wl; simpa using hj), he]
    · rw [List.getElem?_set_ne (Ne.symm hjk), wl_get g ad σ hj, ho j hj hjk]
  · have h1 : (wl g ad σ2)[j]? = none := List.getElem?_eq_none (by unfold wl; simpa using Nat.le_of_not_lt hj)
    rw [h1]
    exact List.getElem?_eq_none (by rw [List.length_set]; unfold wl; simpa using Nat.le_of_not_lt hj)
theorem ceE_sA (g : Gp) (ad : Nat → Nat) (σ : Sg) (k : Nat) (f : Nat → Int32) {j : Nat} (h : j ≠ k) : ceE g ad (σ.sA k f) j = ceE g ad σ j := by
  unfold ceE
  split
  · unfold arE
    rw [sA_A, if_neg h, sA_J]
  · unfold obE
    rw [sA_I, sA_L]
theorem ceE_sJ (g : Gp) (ad : Nat → Nat) (σ : Sg) (k : Nat) (f : Nat → Int64) {j : Nat} (h : j ≠ k) : ceE g ad (σ.sJ k f) j = ceE g ad σ j := by
  unfold ceE
  split
  · unfold arE
    rw [sJ_J, if_neg h, sJ_A]
  · unfold obE
    rw [sJ_I, sJ_L]
/-- the world stands in a heap -/
def Wd (g : Gp) (ad : Nat → Nat) (σ : Sg) (H : Heap) : Prop := va_P g.D vwCl (wl g ad σ) H ∧ va_D (AA g) (wl g ad σ)
theorem ceE_arI {g : Gp} {ad : Nat → Nat} {σ : Sg} {k n : Nat} (ht : tyA k = 0) (hn : lenA k = n) (hk : k < 60) : ceE g ad σ k = .inl (g.cI, n, .inl (σ.A k)) := by
  unfold ceE arE
  rw [if_pos hk, if_pos ht, hn]
theorem ceE_arZ {g : Gp} {ad : Nat → Nat} {σ : Sg} {k n : Nat} (ht : tyA k = 1) (hn : lenA k = n) (hk : k < 60) : ceE g ad σ k = .inl (g.cZ, n, .inl (σ.A k)) := by
  unfold ceE arE
  rw [if_pos hk, if_neg (by rw [ht]; decide), if_pos ht, hn]
theorem ceE_arJ {g : Gp} {ad : Nat → Nat} {σ : Sg} {k n : Nat} (ht : tyA k = 2) (hn : lenA k = n) (hk : k < 60) : ceE g ad σ k = .inl (g.cJ, n, .inr (.inl (σ.J k))) := by
  unfold ceE arE
  rw [if_pos hk, if_neg (by rw [ht]; decide), if_neg (by rw [ht]; decide), hn]
theorem set_arI {g : Gp} {ad : Nat → Nat} {σ : Sg} {k n : Nat} (ht : tyA k = 0) (hn : lenA k = n) (hk : k < 60) (f : Nat → Int32) : (wl g ad σ).set k (ad k, .inl (g.cI, n, .inl f)) = wl g ad (σ.sA k f) :=
  wl_set (by omega) (by rw [ceE_arI ht hn hk, sA_A, if_pos rfl]) (fun j _ h => ceE_sA g ad σ k f h)
theorem set_arZ {g : Gp} {ad : Nat → Nat} {σ : Sg} {k n : Nat} (ht : tyA k = 1) (hn : lenA k = n) (hk : k < 60) (f : Nat → Int32) : (wl g ad σ).set k (ad k, .inl (g.cZ, n, .inl f)) = wl g ad (σ.sA k f) :=
  wl_set (by omega) (by rw [ceE_arZ ht hn hk, sA_A, if_pos rfl]) (fun j _ h => ceE_sA g ad σ k f h)
theorem set_arJ {g : Gp} {ad : Nat → Nat} {σ : Sg} {k n : Nat} (ht : tyA k = 2) (hn : lenA k = n) (hk : k < 60) (f : Nat → Int64) : (wl g ad σ).set k (ad k, .inl (g.cJ, n, .inr (.inl f))) = wl g ad (σ.sJ k f) :=
  wl_set (by omega) (by rw [ceE_arJ ht hn hk, sJ_J, if_pos rfl]) (fun j _ h => ceE_sJ g ad σ k f h)
theorem ceE_ob {g : Gp} {ad : Nat → Nat} {σ : Sg} {k : Nat} (hk : ¬ k < 60) : ceE g ad σ k = obE g ad σ k := if_neg hk
/-- a new int in one of the objects: the rows and the other objects stay -/
theorem ceE_sI {g : Gp} {ad : Nat → Nat} {σ : Sg} {i : Nat} {v : Int32} {k : Nat} (h : ∀ j, j < 72 → ¬ j < 60 → j ≠ k → obE g ad (σ.sI i v) j = obE g ad σ j) : ∀ j, j < 72 → j ≠ k → ceE g ad (σ.sI i v) j = ceE g ad σ j := by
  intro j h1 h2
  unfold ceE
  by_cases h3 : j < 60
  · rw [if_pos h3, if_pos h3]
    unfold arE
    rw [sI_A, sI_J]
  · rw [if_neg h3, if_neg h3]
    exact h j h1 h3 h2
theorem ceE_sL {g : Gp} {ad : Nat → Nat} {σ : Sg} {v : Int64} {k : Nat} (h : ∀ j, j < 72 → ¬ j < 60 → j ≠ k → obE g ad (σ.sL v) j = obE g ad σ j) : ∀ j, j < 72 → j ≠ k → ceE g ad (σ.sL v) j = ceE g ad σ j := by
  intro j h1 h2
  unfold ceE
  by_cases h3 : j < 60
  · rw [if_pos h3, if_pos h3]
    unfold arE
    rw [sL_A, sL_J]
  · rw [if_neg h3, if_neg h3]
    exact h j h1 h3 h2
theorem j12 {P : Nat → Prop} (h0 : P 60) (h1 : P 61) (h2 : P 62) (h3 : P 63) (h4 : P 64) (h5 : P 65) (h6 : P 66) (h7 : P 67) (h8 : P 68) (h9 : P 69) (h10 : P 70) (h11 : P 71) : ∀ j, j < 72 → ¬ j < 60 → P j := by
  intro j a b
  rcases (show j = 60 ∨ j = 61 ∨ j = 62 ∨ j = 63 ∨ j = 64 ∨ j = 65 ∨ j = 66 ∨ j = 67 ∨ j = 68 ∨ j = 69 ∨ j = 70 ∨ j = 71 by omega) with rfl | rfl | rfl | rfl | rfl | rfl | rfl | rfl | rfl | rfl | rfl | rfl <;> assumption
theorem set_62_0 (g : Gp) (ad : Nat → Nat) (σ : Sg) (v : Int32) : (wl g ad σ).set 62 (ad 62, .inr (4, [.int v, .int (σ.I 1), .ref (ad 0), .ref (ad 1), .ref (ad 2), .ref (ad 3), .ref (ad 4), .ref (ad 5), .ref (ad 6), .ref (ad 7), .ref (ad 8), .ref (ad 9)])) = wl g ad (σ.sI 0 v) :=
  wl_set (by omega) rfl (ceE_sI (j12 (P := fun j => j ≠ 62 → obE g ad (σ.sI 0 v) j = obE g ad σ j) (fun _ => rfl) (fun _ => rfl) (fun h => absurd rfl h) (fun _ => rfl) (fun _ => rfl) (fun _ => rfl) (fun _ => rfl) (fun _ => rfl) (fun _ => rfl) (fun _ => rfl) (fun _ => rfl) (fun _ => rfl)))
theorem set_62_1 (g : Gp) (ad : Nat → Nat) (σ : Sg) (v : Int32) : (wl g ad σ).set 62 (ad 62, .inr (4, [.int (σ.I 0), .int v, .ref (ad 0), .ref (ad 1), .ref (ad 2), .ref (ad 3), .ref (ad 4), .ref (ad 5), .ref (ad 6), .ref (ad 7), .ref (ad 8), .ref (ad 9)])) = wl g ad (σ.sI 1 v) :=
  wl_set (by omega) rfl (ceE_sI (j12 (P := fun j => j ≠ 62 → obE g ad (σ.sI 1 v) j = obE g ad σ j) (fun _ => rfl) (fun _ => rfl) (fun h => absurd rfl h) (fun _ => rfl) (fun _ => rfl) (fun _ => rfl) (fun _ => rfl) (fun _ => rfl) (fun _ => rfl) (fun _ => rfl) (fun _ => rfl) (fun _ => rfl)))
theorem set_63_0 (g : Gp) (ad : Nat → Nat) (σ : Sg) (v : Int32) : (wl g ad σ).set 63 (ad 63, .inr (5, [.int v, .int (σ.I 3), .ref (ad 10), .int (σ.I 4), .int (σ.I 5), .int (σ.I 6), .int (σ.I 7), .int (σ.I 8), .ref (ad 11), .int (σ.I 9)])) = wl g ad (σ.sI 2 v) :=
  wl_set (by omega) rfl (ceE_sI (j12 (P := fun j => j ≠ 63 → obE g ad (σ.sI 2 v) j = obE g ad σ j) (fun _ => rfl) (fun _ => rfl) (fun _ => rfl) (fun h => absurd rfl h) (fun _ => rfl) (fun _ => rfl) (fun _ => rfl) (fun _ => rfl) (fun _ => rfl) (fun _ => rfl) (fun _ => rfl) (fun _ => rfl)))
theorem set_63_1 (g : Gp) (ad : Nat → Nat) (σ : Sg) (v : Int32) : (wl g ad σ).set 63 (ad 63, .inr (5, [.int (σ.I 2), .int v, .ref (ad 10), .int (σ.I 4), .int (σ.I 5), .int (σ.I 6), .int (σ.I 7), .int (σ.I 8), .ref (ad 11), .int (σ.I 9)])) = wl g ad (σ.sI 3 v) :=
  wl_set (by omega) rfl (ceE_sI (j12 (P := fun j => j ≠ 63 → obE g ad (σ.sI 3 v) j = obE g ad σ j) (fun _ => rfl) (fun _ => rfl) (fun _ => rfl) (fun h => absurd rfl h) (fun _ => rfl) (fun _ => rfl) (fun _ => rfl) (fun _ => rfl) (fun _ => rfl) (fun _ => rfl) (fun _ => rfl) (fun _ => rfl)))
theorem set_63_3 (g : Gp) (ad : Nat → Nat) (σ : Sg) (v : Int32) : (wl g ad σ).set 63 (ad 63, .inr (5, [.int (σ.I 2), .int (σ.I 3), .ref (ad 10), .int v, .int (σ.I 5), .int (σ.I 6), .int (σ.I 7), .int (σ.I 8), .ref (ad 11), .int (σ.I 9)])) = wl g ad (σ.sI 4 v) :=
  wl_set (by omega) rfl (ceE_sI (j12 (P := fun j => j ≠ 63 → obE g ad (σ.sI 4 v) j = obE g ad σ j) (fun _ => rfl) (fun _ => rfl) (fun _ => rfl) (fun h => absurd rfl h) (fun _ => rfl) (fun _ => rfl) (fun _ => rfl) (fun _ => rfl) (fun _ => rfl) (fun _ => rfl) (fun _ => rfl) (fun _ => rfl)))
theorem set_63_4 (g : Gp) (ad : Nat → Nat) (σ : Sg) (v : Int32) : (wl g ad σ).set 63 (ad 63, .inr (5, [.int (σ.I 2), .int (σ.I 3), .ref (ad 10), .int (σ.I 4), .int v, .int (σ.I 6), .int (σ.I 7), .int (σ.I 8), .ref (ad 11), .int (σ.I 9)])) = wl g ad (σ.sI 5 v) :=
  wl_set (by omega) rfl (ceE_sI (j12 (P := fun j => j ≠ 63 → obE g ad (σ.sI 5 v) j = obE g ad σ j) (fun _ => rfl) (fun _ => rfl) (fun _ => rfl) (fun h => absurd rfl h) (fun _ => rfl) (fun _ => rfl) (fun _ => rfl) (fun _ => rfl) (fun _ => rfl) (fun _ => rfl) (fun _ => rfl) (fun _ => rfl)))
theorem set_63_5 (g : Gp) (ad : Nat → Nat) (σ : Sg) (v : Int32) : (wl g ad σ).set 63 (ad 63, .inr (5, [.int (σ.I 2), .int (σ.I 3), .ref (ad 10), .int (σ.I 4), .int (σ.I 5), .int v, .int (σ.I 7), .int (σ.I 8), .ref (ad 11), .int (σ.I 9)])) = wl g ad (σ.sI 6 v) :=
  wl_set (by omega) rfl (ceE_sI (j12 (P := fun j => j ≠ 63 → obE g ad (σ.sI 6 v) j = obE g ad σ j) (fun _ => rfl) (fun _ => rfl) (fun _ => rfl) (fun h => absurd rfl h) (fun _ => rfl) (fun _ => rfl) (fun _ => rfl) (fun _ => rfl) (fun _ => rfl) (fun _ => rfl) (fun _ => rfl) (fun _ => rfl)))
theorem set_63_6 (g : Gp) (ad : Nat → Nat) (σ : Sg) (v : Int32) : (wl g ad σ).set 63 (ad 63, .inr (5, [.int (σ.I 2), .int (σ.I 3), .ref (ad 10), .int (σ.I 4), .int (σ.I 5), .int (σ.I 6), .int v, .int (σ.I 8), .ref (ad 11), .int (σ.I 9)])) = wl g ad (σ.sI 7 v) :=
  wl_set (by omega) rfl (ceE_sI (j12 (P := fun j => j ≠ 63 → obE g ad (σ.sI 7 v) j = obE g ad σ j) (fun _ => rfl) (fun _ => rfl) (fun _ => rfl) (fun h => absurd rfl h) (fun _ => rfl) (fun _ => rfl) (fun _ => rfl) (fun _ => rfl) (fun _ => rfl) (fun _ => rfl) (fun _ => rfl) (fun _ => rfl)))
theorem set_63_7 (g : Gp) (ad : Nat → Nat) (σ : Sg) (v : Int32) : (wl g ad σ).set 63 (ad 63, .inr (5, [.int (σ.I 2), .int (σ.I 3), .ref (ad 10), .int (σ.I 4), .int (σ.I 5), .int (σ.I 6), .int (σ.I 7), .int v, .ref (ad 11), .int (σ.I 9)])) = wl g ad (σ.sI 8 v) :=
  wl_set (by omega) rfl (ceE_sI (j12 (P := fun j => j ≠ 63 → obE g ad (σ.sI 8 v) j = obE g ad σ j) (fun _ => rfl) (fun _ => rfl) (fun _ => rfl) (fun h => absurd rfl h) (fun _ => rfl) (fun _ => rfl) (fun _ => rfl) (fun _ => rfl) (fun _ => rfl) (fun _ => rfl) (fun _ => rfl) (fun _ => rfl)))
theorem set_63_9 (g : Gp) (ad : Nat → Nat) (σ : Sg) (v : Int32) : (wl g ad σ).set 63 (ad 63, .inr (5, [.int (σ.I 2), .int (σ.I 3), .ref (ad 10), .int (σ.I 4), .int (σ.I 5), .int (σ.I 6), .int (σ.I 7), .int (σ.I 8), .ref (ad 11), .int v])) = wl g ad (σ.sI 9 v) :=
  wl_set (by omega) rfl (ceE_sI (j12 (P := fun j => j ≠ 63 → obE g ad (σ.sI 9 v) j = obE g ad σ j) (fun _ => rfl) (fun _ => rfl) (fun _ => rfl) (fun h => absurd rfl h) (fun _ => rfl) (fun _ => rfl) (fun _ => rfl) (fun _ => rfl) (fun _ => rfl) (fun _ => rfl) (fun _ => rfl) (fun _ => rfl)))
theorem set_64_0 (g : Gp) (ad : Nat → Nat) (σ : Sg) (v : Int32) : (wl g ad σ).set 64 (ad 64, .inr (0, [.int v, .ref (ad 12), .ref (ad 13), .ref (ad 14), .ref (ad 15), .ref (ad 16)])) = wl g ad (σ.sI 10 v) :=
  wl_set (by omega) rfl (ceE_sI (j12 (P := fun j => j ≠ 64 → obE g ad (σ.sI 10 v) j = obE g ad σ j) (fun _ => rfl) (fun _ => rfl) (fun _ => rfl) (fun _ => rfl) (fun h => absurd rfl h) (fun _ => rfl) (fun _ => rfl) (fun _ => rfl) (fun _ => rfl) (fun _ => rfl) (fun _ => rfl) (fun _ => rfl)))
theorem set_65_0 (g : Gp) (ad : Nat → Nat) (σ : Sg) (v : Int32) : (wl g ad σ).set 65 (ad 65, .inr (0, [.int v, .ref (ad 17), .ref (ad 18), .ref (ad 19), .ref (ad 20), .ref (ad 21)])) = wl g ad (σ.sI 11 v) :=
  wl_set (by omega) rfl (ceE_sI (j12 (P := fun j => j ≠ 65 → obE g ad (σ.sI 11 v) j = obE g ad σ j) (fun _ => rfl) (fun _ => rfl) (fun _ => rfl) (fun _ => rfl) (fun _ => rfl) (fun h => absurd rfl h) (fun _ => rfl) (fun _ => rfl) (fun _ => rfl) (fun _ => rfl) (fun _ => rfl) (fun _ => rfl)))
theorem set_66_0 (g : Gp) (ad : Nat → Nat) (σ : Sg) (v : Int32) : (wl g ad σ).set 66 (ad 66, .inr (0, [.int v, .ref (ad 22), .ref (ad 23), .ref (ad 24), .ref (ad 25), .ref (ad 26)])) = wl g ad (σ.sI 12 v) :=
  wl_set (by omega) rfl (ceE_sI (j12 (P := fun j => j ≠ 66 → obE g ad (σ.sI 12 v) j = obE g ad σ j) (fun _ => rfl) (fun _ => rfl) (fun _ => rfl) (fun _ => rfl) (fun _ => rfl) (fun _ => rfl) (fun h => absurd rfl h) (fun _ => rfl) (fun _ => rfl) (fun _ => rfl) (fun _ => rfl) (fun _ => rfl)))
theorem set_71_0 (g : Gp) (ad : Nat → Nat) (σ : Sg) (v : Int32) : (wl g ad σ).set 71 (ad 71, .inr (7, [.int v, .ref (ad 46), .ref (ad 47), .int (σ.I 14), .int (σ.I 15), .ref (ad 48), .int (σ.I 16), .ref (ad 49), .int (σ.I 17), .int (σ.I 18), .long σ.L, .int (σ.I 19), .int (σ.I 20), .int (σ.I 21), .int (σ.I 22), .int (σ.I 23), .ref (ad 50), .ref (ad 51), .ref (ad 52), .ref (ad 53), .ref (ad 54), .int (σ.I 24), .int (σ.I 25), .ref (ad 55), .ref (ad 56), .ref (ad 57), .ref (ad 58), .ref (ad 59)])) = wl g ad (σ.sI 13 v) :=
  wl_set (by omega) rfl (ceE_sI (j12 (P := fun j => j ≠ 71 → obE g ad (σ.sI 13 v) j = obE g ad σ j) (fun _ => rfl) (fun _ => rfl) (fun _ => rfl) (fun _ => rfl) (fun _ => rfl) (fun _ => rfl) (fun _ => rfl) (fun _ => rfl) (fun _ => rfl) (fun _ => rfl) (fun _ => rfl) (fun h => absurd rfl h)))
theorem set_71_3 (g : Gp) (ad : Nat → Nat) (σ : Sg) (v : Int32) : (wl g ad σ).set 71 (ad 71, .inr (7, [.int (σ.I 13), .ref (ad 46), .ref (ad 47), .int v, .int (σ.I 15), .ref (ad 48), .int (σ.I 16), .ref (ad 49), .int (σ.I 17), .int (σ.I 18), .long σ.L, .int (σ.I 19), .int (σ.I 20), .int (σ.I 21), .int (σ.I 22), .int (σ.I 23), .ref (ad 50), .ref (ad 51), .ref (ad 52), .ref (ad 53), .ref (ad 54), .int (σ.I 24), .int (σ.I 25), .ref (ad 55), .ref (ad 56), .ref (ad 57), .ref (ad 58), .ref (ad 59)])) = wl g ad (σ.sI 14 v) :=
  wl_set (by omega) rfl (ceE_sI (j12 (P := fun j => j ≠ 71 → obE g ad (σ.sI 14 v) j = obE g ad σ j) (fun _ => rfl) (fun _ => rfl) (fun _ => rfl) (fun _ => rfl) (fun _ => rfl) (fun _ => rfl) (fun _ => rfl) (fun _ => rfl) (fun _ => rfl) (fun _ => rfl) (fun _ => rfl) (fun h => absurd rfl h)))
theorem set_71_4 (g : Gp) (ad : Nat → Nat) (σ : Sg) (v : Int32) : (wl g ad σ).set 71 (ad 71, .inr (7, [.int (σ.I 13), .ref (ad 46), .ref (ad 47), .int (σ.I 14), .int v, .ref (ad 48), .int (σ.I 16), .ref (ad 49), .int (σ.I 17), .int (σ.I 18), .long σ.L, .int (σ.I 19), .int (σ.I 20), .int (σ.I 21), .int (σ.I 22), .int (σ.I 23), .ref (ad 50), .ref (ad 51), .ref (ad 52), .ref (ad 53), .ref (ad 54), .int (σ.I 24), .int (σ.I 25), .ref (ad 55), .ref (ad 56), .ref (ad 57), .ref (ad 58), .ref (ad 59)])) = wl g ad (σ.sI 15 v) :=
  wl_set (by omega) rfl (ceE_sI (j12 (P := fun j => j ≠ 71 → obE g ad (σ.sI 15 v) j = obE g ad σ j) (fun _ => rfl) (fun _ => rfl) (fun _ => rfl) (fun _ => rfl) (fun _ => rfl) (fun _ => rfl) (fun _ => rfl) (fun _ => rfl) (fun _ => rfl) (fun _ => rfl) (fun _ => rfl) (fun h => absurd rfl h)))
theorem set_71_6 (g : Gp) (ad : Nat → Nat) (σ : Sg) (v : Int32) : (wl g ad σ).set 71 (ad 71, .inr (7, [.int (σ.I 13), .ref (ad 46), .ref (ad 47), .int (σ.I 14), .int (σ.I 15), .ref (ad 48), .int v, .ref (ad 49), .int (σ.I 17), .int (σ.I 18), .long σ.L, .int (σ.I 19), .int (σ.I 20), .int (σ.I 21), .int (σ.I 22), .int (σ.I 23), .ref (ad 50), .ref (ad 51), .ref (ad 52), .ref (ad 53), .ref (ad 54), .int (σ.I 24), .int (σ.I 25), .ref (ad 55), .ref (ad 56), .ref (ad 57), .ref (ad 58), .ref (ad 59)])) = wl g ad (σ.sI 16 v) :=
  wl_set (by omega) rfl (ceE_sI (j12 (P := fun j => j ≠ 71 → obE g ad (σ.sI 16 v) j = obE g ad σ j) (fun _ => rfl) (fun _ => rfl) (fun _ => rfl) (fun _ => rfl) (fun _ => rfl) (fun _ => rfl) (fun _ => rfl) (fun _ => rfl) (fun _ => rfl) (fun _ => rfl) (fun _ => rfl) (fun h => absurd rfl h)))
theorem set_71_8 (g : Gp) (ad : Nat → Nat) (σ : Sg) (v : Int32) : (wl g ad σ).set 71 (ad 71, .inr (7, [.int (σ.I 13), .ref (ad 46), .ref (ad 47), .int (σ.I 14), .int (σ.I 15), .ref (ad 48), .int (σ.I 16), .ref (ad 49), .int v, .int (σ.I 18), .long σ.L, .int (σ.I 19), .int (σ.I 20), .int (σ.I 21), .int (σ.I 22), .int (σ.I 23), .ref (ad 50), .ref (ad 51), .ref (ad 52), .ref (ad 53), .ref (ad 54), .int (σ.I 24), .int (σ.I 25), .ref (ad 55), .ref (ad 56), .ref (ad 57), .ref (ad 58), .ref (ad 59)])) = wl g ad (σ.sI 17 v) :=
  wl_set (by omega) rfl (ceE_sI (j12 (P := fun j => j ≠ 71 → obE g ad (σ.sI 17 v) j = obE g ad σ j) (fun _ => rfl) (fun _ => rfl) (fun _ => rfl) (fun _ => rfl) (fun _ => rfl) (fun _ => rfl) (fun _ => rfl) (fun _ => rfl) (fun _ => rfl) (fun _ => rfl) (fun _ => rfl) (fun h => absurd rfl h)))
theorem set_71_9 (g : Gp) (ad : Nat → Nat) (σ : Sg) (v : Int32) : (wl g ad σ).set 71 (ad 71, .inr (7, [.int (σ.I 13), .ref (ad 46), .ref (ad 47), .int (σ.I 14), .int (σ.I 15), .ref (ad 48), .int (σ.I 16), .ref (ad 49), .int (σ.I 17), .int v, .long σ.L, .int (σ.I 19), .int (σ.I 20), .int (σ.I 21), .int (σ.I 22), .int (σ.I 23), .ref (ad 50), .ref (ad 51), .ref (ad 52), .ref (ad 53), .ref (ad 54), .int (σ.I 24), .int (σ.I 25), .ref (ad 55), .ref (ad 56), .ref (ad 57), .ref (ad 58), .ref (ad 59)])) = wl g ad (σ.sI 18 v) :=
  wl_set (by omega) rfl (ceE_sI (j12 (P := fun j => j ≠ 71 → obE g ad (σ.sI 18 v) j = obE g ad σ j) (fun _ => rfl) (fun _ => rfl) (fun _ => rfl) (fun _ => rfl) (fun _ => rfl) (fun _ => rfl) (fun _ => rfl) (fun _ => rfl) (fun _ => rfl) (fun _ => rfl) (fun _ => rfl) (fun h => absurd rfl h)))
theorem set_71_10 (g : Gp) (ad : Nat → Nat) (σ : Sg) (v : Int64) : (wl g ad σ).set 71 (ad 71, .inr (7, [.int (σ.I 13), .ref (ad 46), .ref (ad 47), .int (σ.I 14), .int (σ.I 15), .ref (ad 48), .int (σ.I 16), .ref (ad 49), .int (σ.I 17), .int (σ.I 18), .long v, .int (σ.I 19), .int (σ.I 20), .int (σ.I 21), .int (σ.I 22), .int (σ.I 23), .ref (ad 50), .ref (ad 51), .ref (ad 52), .ref (ad 53), .ref (ad 54), .int (σ.I 24), .int (σ.I 25), .ref (ad 55), .ref (ad 56), .ref (ad 57), .ref (ad 58), .ref (ad 59)])) = wl g ad (σ.sL v) :=
  wl_set (by omega) rfl (ceE_sL (j12 (P := fun j => j ≠ 71 → obE g ad (σ.sL v) j = obE g ad σ j) (fun _ => rfl) (fun _ => rfl) (fun _ => rfl) (fun _ => rfl) (fun _ => rfl) (fun _ => rfl) (fun _ => rfl) (fun _ => rfl) (fun _ => rfl) (fun _ => rfl) (fun _ => rfl) (fun h => absurd rfl h)))
theorem set_71_11 (g : Gp) (ad : Nat → Nat) (σ : Sg) (v : Int32) : (wl g ad σ).set 71 (ad 71, .inr (7, [.int (σ.I 13), .ref (ad 46), .ref (ad 47), .int (σ.I 14), .int (σ.I 15), .ref (ad 48), .int (σ.I 16), .ref (ad 49), .int (σ.I 17), .int (σ.I 18), .long σ.L, .int v, .int (σ.I 20), .int (σ.I 21), .int (σ.I 22), .int (σ.I 23), .ref (ad 50), .ref (ad 51), .ref (ad 52), .ref (ad 53), .ref (ad 54), .int (σ.I 24), .int (σ.I 25), .ref (ad 55), .ref (ad 56), .ref (ad 57), .ref (ad 58), .ref (ad 59)])) = wl g ad (σ.sI 19 v) :=
  wl_set (by omega) rfl (ceE_sI (j12 (P := fun j => j ≠ 71 → obE g ad (σ.sI 19 v) j = obE g ad σ j) (fun _ => rfl) (fun _ => rfl) (fun _ => rfl) (fun _ => rfl) (fun _ => rfl) (fun _ => rfl) (fun _ => rfl) (fun _ => rfl) (fun _ => rfl) (fun _ => rfl) (fun _ => rfl) (fun h => absurd rfl h)))
theorem set_71_12 (g : Gp) (ad : Nat → Nat) (σ : Sg) (v : Int32) : (wl g ad σ).set 71 (ad 71, .inr (7, [.int (σ.I 13), .ref (ad 46), .ref (ad 47), .int (σ.I 14), .int (σ.I 15), .ref (ad 48), .int (σ.I 16), .ref (ad 49), .int (σ.I 17), .int (σ.I 18), .long σ.L, .int (σ.I 19), .int v, .int (σ.I 21), .int (σ.I 22), .int (σ.I 23), .ref (ad 50), .ref (ad 51), .ref (ad 52), .ref (ad 53), .ref (ad 54), .int (σ.I 24), .int (σ.I 25), .ref (ad 55), .ref (ad 56), .ref (ad 57), .ref (ad 58), .ref (ad 59)])) = wl g ad (σ.sI 20 v) :=
  wl_set (by omega) rfl (ceE_sI (j12 (P := fun j => j ≠ 71 → obE g ad (σ.sI 20 v) j = obE g ad σ j) (fun _ => rfl) (fun _ => rfl) (fun _ => rfl) (fun _ => rfl) (fun _ => rfl) (fun _ => rfl) (fun _ => rfl) (fun _ => rfl) (fun _ => rfl) (fun _ => rfl) (fun _ => rfl) (fun h => absurd rfl h)))
theorem set_71_13 (g : Gp) (ad : Nat → Nat) (σ : Sg) (v : Int32) : (wl g ad σ).set 71 (ad 71, .inr (7, [.int (σ.I 13), .ref (ad 46), .ref (ad 47), .int (σ.I 14), .int (σ.I 15), .ref (ad 48), .int (σ.I 16), .ref (ad 49), .int (σ.I 17), .int (σ.I 18), .long σ.L, .int (σ.I 19), .int (σ.I 20), .int v, .int (σ.I 22), .int (σ.I 23), .ref (ad 50), .ref (ad 51), .ref (ad 52), .ref (ad 53), .ref (ad 54), .int (σ.I 24), .int (σ.I 25), .ref (ad 55), .ref (ad 56), .ref (ad 57), .ref (ad 58), .ref (ad 59)])) = wl g ad (σ.sI 21 v) :=
  wl_set (by omega) rfl (ceE_sI (j12 (P := fun j => j ≠ 71 → obE g ad (σ.sI 21 v) j = obE g ad σ j) (fun _ => rfl) (fun _ => rfl) (fun _ => rfl) (fun _ => rfl) (fun _ => rfl) (fun _ => rfl) (fun _ => rfl) (fun _ => rfl) (fun _ => rfl) (fun _ => rfl) (fun _ => rfl) (fun h => absurd rfl h)))
theorem set_71_14 (g : Gp) (ad : Nat → Nat) (σ : Sg) (v : Int32) : (wl g ad σ).set 71 (ad 71, .inr (7, [.int (σ.I 13), .ref (ad 46), .ref (ad 47), .int (σ.I 14), .int (σ.I 15), .ref (ad 48), .int (σ.I 16), .ref (ad 49), .int (σ.I 17), .int (σ.I 18), .long σ.L, .int (σ.I 19), .int (σ.I 20), .int (σ.I 21), .int v, .int (σ.I 23), .ref (ad 50), .ref (ad 51), .ref (ad 52), .ref (ad 53), .ref (ad 54), .int (σ.I 24), .int (σ.I 25), .ref (ad 55), .ref (ad 56), .ref (ad 57), .ref (ad 58), .ref (ad 59)])) = wl g ad (σ.sI 22 v) :=
  wl_set (by omega) rfl (ceE_sI (j12 (P := fun j => j ≠ 71 → obE g ad (σ.sI 22 v) j = obE g ad σ j) (fun _ => rfl) (fun _ => rfl) (fun _ => rfl) (fun _ => rfl) (fun _ => rfl) (fun _ => rfl) (fun _ => rfl) (fun _ => rfl) (fun _ => rfl) (fun _ => rfl) (fun _ => rfl) (fun h => absurd rfl h)))
theorem set_71_15 (g : Gp) (ad : Nat → Nat) (σ : Sg) (v : Int32) : (wl g ad σ).set 71 (ad 71, .inr (7, [.int (σ.I 13), .ref (ad 46), .ref (ad 47), .int (σ.I 14), .int (σ.I 15), .ref (ad 48), .int (σ.I 16), .ref (ad 49), .int (σ.I 17), .int (σ.I 18), .long σ.L, .int (σ.I 19), .int (σ.I 20), .int (σ.I 21), .int (σ.I 22), .int v, .ref (ad 50), .ref (ad 51), .ref (ad 52), .ref (ad 53), .ref (ad 54), .int (σ.I 24), .int (σ.I 25), .ref (ad 55), .ref (ad 56), .ref (ad 57), .ref (ad 58), .ref (ad 59)])) = wl g ad (σ.sI 23 v) :=
  wl_set (by omega) rfl (ceE_sI (j12 (P := fun j => j ≠ 71 → obE g ad (σ.sI 23 v) j = obE g ad σ j) (fun _ => rfl) (fun _ => rfl) (fun _ => rfl) (fun _ => rfl) (fun _ => rfl) (fun _ => rfl) (fun _ => rfl) (fun _ => rfl) (fun _ => rfl) (fun _ => rfl) (fun _ => rfl) (fun h => absurd rfl h)))
theorem set_71_21 (g : Gp) (ad : Nat → Nat) (σ : Sg) (v : Int32) : (wl g ad σ).set 71 (ad 71, .inr (7, [.int (σ.I 13), .ref (ad 46), .ref (ad 47), .int (σ.I 14), .int (σ.I 15), .ref (ad 48), .int (σ.I 16), .ref (ad 49), .int (σ.I 17), .int (σ.I 18), .long σ.L, .int (σ.I 19), .int (σ.I 20), .int (σ.I 21), .int (σ.I 22), .int (σ.I 23), .ref (ad 50), .ref (ad 51), .ref (ad 52), .ref (ad 53), .ref (ad 54), .int v, .int (σ.I 25), .ref (ad 55), .ref (ad 56), .ref (ad 57), .ref (ad 58), .ref (ad 59)])) = wl g ad (σ.sI 24 v) :=
  wl_set (by omega) rfl (ceE_sI (j12 (P := fun j => j ≠ 71 → obE g ad (σ.sI 24 v) j = obE g ad σ j) (fun _ => rfl) (fun _ => rfl) (fun _ => rfl) (fun _ => rfl) (fun _ => rfl) (fun _ => rfl) (fun _ => rfl) (fun _ => rfl) (fun _ => rfl) (fun _ => rfl) (fun _ => rfl) (fun h => absurd rfl h)))
theorem set_71_22 (g : Gp) (ad : Nat → Nat) (σ : Sg) (v : Int32) : (wl g ad σ).set 71 (ad 71, .inr (7, [.int (σ.I 13), .ref (ad 46), .ref (ad 47), .int (σ.I 14), .int (σ.I 15), .ref (ad 48), .int (σ.I 16), .ref (ad 49), .int (σ.I 17), .int (σ.I 18), .long σ.L, .int (σ.I 19), .int (σ.I 20), .int (σ.I 21), .int (σ.I 22), .int (σ.I 23), .ref (ad 50), .ref (ad 51), .ref (ad 52), .ref (ad 53), .ref (ad 54), .int (σ.I 24), .int v, .ref (ad 55), .ref (ad 56), .ref (ad 57), .ref (ad 58), .ref (ad 59)])) = wl g ad (σ.sI 25 v) :=
  wl_set (by omega) rfl (ceE_sI (j12 (P := fun j => j ≠ 71 → obE g ad (σ.sI 25 v) j = obE g ad σ j) (fun _ => rfl) (fun _ => rfl) (fun _ => rfl) (fun _ => rfl) (fun _ => rfl) (fun _ => rfl) (fun _ => rfl) (fun _ => rfl) (fun _ => rfl) (fun _ => rfl) (fun _ => rfl) (fun h => absurd rfl h)))
