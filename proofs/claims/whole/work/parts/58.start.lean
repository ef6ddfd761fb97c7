/-- the start: what the Statement gives of it -/
def gvn : Cond := Jvm.Cond.and given_1 narrow_1
def tmS (i : Nat) : Term := .string "KiteBarges$Text" (stIx.getD i 0)
def srIx : List Nat := [302, 355, 356, 357, 358, 359, 360, 361, 378, 379, 380, 381, 382]
theorem st_sr : ∀ i, i < 13 → tables_1[srIx.getD i 0]? = some (Cond.stringRef "KiteBarges$Text" (stIx.getD i 0) (stTx.getD i "")) := by
  intro i hi
  rcases (show i = 0 ∨ i = 1 ∨ i = 2 ∨ i = 3 ∨ i = 4 ∨ i = 5 ∨ i = 6 ∨ i = 7 ∨ i = 8 ∨ i = 9 ∨ i = 10 ∨ i = 11 ∨ i = 12 by omega) with rfl | rfl | rfl | rfl | rfl | rfl | rfl | rfl | rfl | rfl | rfl | rfl | rfl <;> rfl
theorem st_ex : ∀ i, i < 13 → Cond.exactly (tmS i) "java/lang/String" ∈ flatC gvn := by decide +kernel
theorem st_co : ∀ i, i < 13 → Cond.eq (.field (tmS i) "java/lang/String" "coder" "B") (.int 0) ∈ flatC gvn := by decide +kernel
theorem st_ar : ∀ i, i < 13 → Cond.arrayOf (.field (tmS i) "java/lang/String" "value" "[B") .byte ∈ flatC gvn := by decide +kernel
theorem st_le : ∀ i, i < 13 → Cond.eq (.length (.field (tmS i) "java/lang/String" "value" "[B")) (.int (Int32.ofNat (lenS.getD i 0))) ∈ flatC gvn := by decide +kernel
theorem st_el : ∀ i, i < 13 → ∀ j, j < lenS.getD i 0 → Cond.eq (.elem (.field (tmS i) "java/lang/String" "value" "[B") (.int (Int32.ofNat j))) (.int ((bytS.getD i []).getD j 0)) ∈ flatC gvn := by decide +kernel
theorem st_ne : ∀ i, i < 13 → ∀ j, j < 13 → i ≠ j → Cond.not (Cond.eq (tmS i) (tmS j)) ∈ flatC gvn ∨ Cond.not (Cond.eq (tmS j) (tmS i)) ∈ flatC gvn := by decide +kernel
theorem st_t1 : ∀ j, j < 8 → Cond.eq (.elem (.static "KiteBarges$River" "TIMES" "[I") (.int (Int32.ofNat j))) (.int (tmsL.getD j 0)) ∈ flatC gvn := by decide +kernel
theorem st_t2 : ∀ j, j < 8 → Cond.eq (.elem (.static "KiteBarges$River" "SAIL_TIMES" "[I") (.int (Int32.ofNat j))) (.int (sailL.getD j 0)) ∈ flatC gvn := by decide +kernel
set_option maxRecDepth 20000 in
theorem st_K {b : Nat} {s : State} (hts : ∀ w ∈ lw_tbl, w.before #[Value.ref b] s = true) (hgv : gvn.before #[Value.ref b] s = true) : ∃ g : Gp, g.n0 = s.heap.size ∧ KK g s ∧ NW s := by
  have ht : ∀ w ∈ gtb, w.before #[Value.ref b] s = true := fun w hw => hts w (List.mem_filter.mp hw).1
  have hi : ∀ (i : Nat) {w : Cond}, tables_1[i]? = some w → w.before #[Value.ref b] s = true := fun i w h => hts w (List.mem_append_right _ (List.mem_of_getElem? h))
  have hs : ∀ w ∈ flatC gvn, w.before #[Value.ref b] s = true := flat_of_before _ hgv
  have hA : ∀ a : Nat, a < s.heap.size → ¬ (fun q : Nat => s.heap.size ≤ q) a := fun a h => Nat.not_le.mpr h
  obtain ⟨c0, i0, k0⟩ := u_known (C := RX0) (T := TX0) (N := 6) (n := 6) ht inX0 (ht _ it_0)
  obtain ⟨c1, i1, k1⟩ := u_known (C := RX1) (T := TX1) (N := 2) (n := 2) ht inX1 (ht _ it_1)
  obtain ⟨c2, i2, k2⟩ := u_known (C := RX2) (T := TX2) (N := 8) (n := 8) ht inX2 (ht _ it_2)
  obtain ⟨c3, i3, k3⟩ := u_known (C := RX3) (T := TX3) (N := 10) (n := 10) ht inX3 (ht _ it_3)
  obtain ⟨c4, i4, k4⟩ := u_known (C := RX4) (T := TX4) (N := 12) (n := 12) ht inX4 (ht _ it_4)
  obtain ⟨c5, i5, k5⟩ := u_known (C := RX5) (T := TX5) (N := 10) (n := 10) ht inX5 (ht _ it_5)
  obtain ⟨c6, i6, k6⟩ := u_known (C := RX6) (T := TX6) (N := 7) (n := 7) ht inX6 (ht _ it_6)
  obtain ⟨c7, i7, k7⟩ := u_known (C := RX7) (T := TX7) (N := 28) (n := 28) ht inX7 (ht _ it_7)
  obtain ⟨cI, kI, pI, fI, gI, hI⟩ := Cond.arrayClass_spec (hi 81 (w := .arrayClass .int) rfl)
  obtain ⟨cJ, kJ, pJ, fJ, gJ, hJ⟩ := Cond.arrayClass_spec (hi 178 (w := .arrayClass .long) rfl)
  obtain ⟨cZ, kZ, pZ, fZ, gZ, hZ⟩ := Cond.arrayClass_spec (hi 82 (w := .arrayClass .boolean) rfl)
  obtain ⟨pF, cF, kF, f1, f2, f3, f4, f5⟩ := Cond.arrayOver_spec (hi 153 (w := .arrayOver (.object "KiteBarges$Fleet")) rfl)
  obtain ⟨t1, e1, T1⟩ := va_Tof (tm := .static "KiteBarges$River" "TIMES" "[I") (ty := .int) (N := 8) (f := fun j => .int (tmsL.getD j 0)) (A := fun q : Nat => s.heap.size ≤ q) (by decide) (hs _ (by decide +kernel)) (va_eqt (hs _ (by decide +kernel))) (fun j hj => va_eqt (hs _ (st_t1 j hj))) hA
  obtain ⟨t2, e2, T2⟩ := va_Tof (tm := .static "KiteBarges$River" "SAIL_TIMES" "[I") (ty := .int) (N := 8) (f := fun j => .int (sailL.getD j 0)) (A := fun q : Nat => s.heap.size ≤ q) (by decide) (hs _ (by decide +kernel)) (va_eqt (hs _ (by decide +kernel))) (fun j hj => va_eqt (hs _ (st_t2 j hj))) hA
  have z1 := va_Zof (A := fun q : Nat => s.heap.size ≤ q) (hi 457 (w := .laysStatic "KiteBarges$River" "TIMES" "[I") rfl) (hi 2 (w := .initialized "KiteBarges$River") rfl) e1 hA
  have z2 := va_Zof (A := fun q : Nat => s.heap.size ≤ q) (hi 455 (w := .laysStatic "KiteBarges$River" "SAIL_TIMES" "[I") rfl) (hi 2 (w := .initialized "KiteBarges$River") rfl) e2 hA
  obtain ⟨aK, aV, hS, hE⟩ := vk_Sof (N := 13) (tm := tmS) (len := lenS) (byt := bytS) (A := fun q : Nat => s.heap.size ≤ q) (by decide) (fun i h => hs _ (st_ex i h)) (fun i h => hs _ (st_co i h)) (fun i h => hs _ (st_ar i h)) (fun i h => hs _ (st_le i h)) (fun i h j hj => hs _ (st_el i h j hj)) (fun i j h1 h2 h3 => (st_ne i h1 j h2 h3).imp (hs _) (hs _)) hA
  have hR : ∀ i, i < 13 → vk_R "KiteBarges$Text" (stIx.getD i 0) (stTx.getD i "") (aK i) s := fun i h => vk_R.of (A := #[Value.ref b]) (hi _ (st_sr i h)) (hE i h)
  have zC := va_Zof (A := fun q : Nat => s.heap.size ≤ q) (hi 316 (w := .laysStatic "java/lang/String" "COMPACT_STRINGS" "Z") rfl) (hi 10 (w := .initialized "java/lang/String") rfl) (va_eqi (z := 1) (hs _ (by decide +kernel))) hA
  have zQ := va_Zqof (A := fun q : Nat => s.heap.size ≤ q) (hi 332 (w := .laysStatic "jdk/internal/util/Preconditions" "SIOOBE_FORMATTER" "Ljava/util/function/BiFunction;") rfl) (hi 12 (w := .initialized "jdk/internal/util/Preconditions") rfl) (hs _ (by decide +kernel)) hA
  obtain ⟨g, hg⟩ : ∃ g : Gp, g = (fun k => [c0, c1, c2, c3, c4, c5, c6, c7].getD k c0, fun k => [i0, i1, i2, i3, i4, i5, i6, i7].getD k i0, (cI, cJ, cZ, cF), s.heap.size, t1, t2, aK, aV) := ⟨_, rfl⟩
  have hK : va_K g.D vwCl g.tys s := by
    subst hg
    refine ⟨fun c q hq => ?_, fun k q hq => ?_⟩
    · match c, hq with
      | 0, hq => cases hq; exact k0
      | 1, hq => cases hq; exact k1
      | 2, hq => cases hq; exact k2
      | 3, hq => cases hq; exact k3
      | 4, hq => cases hq; exact k4
      | 5, hq => cases hq; exact k5
      | 6, hq => cases hq; exact k6
      | 7, hq => cases hq; exact k7
      | k + 8, hq => simp [vwCl] at hq
    · match k, hq with
      | 0, hq => cases hq; exact ⟨fun n z => ⟨(fun k h => by cases h), kI, gI, pI, hI⟩, fI⟩
      | 1, hq => cases hq; exact ⟨fun n z => ⟨(fun k h => by cases h), kJ, gJ, pJ, hJ⟩, fJ⟩
      | 2, hq => cases hq; exact ⟨fun n z => ⟨(fun k h => by cases h), kZ, gZ, pZ, hZ⟩, fZ⟩
      | 3, hq => cases hq; exact ⟨fun n z => ⟨(fun k h => by cases h), kF, f3, pF, f4⟩, kF, pF, f3, f4, f1, f5⟩
      | k + 4, hq => cases hq
  refine ⟨g, by rw [hg]; rfl, ⟨hK, ?_, ?_, va_Nw.of rfl (hi 507 (w := .methodLinkNest "KiteBarges$Fleet" 59 yX6_isKnot "KiteBarges") rfl), va_Nw.of rfl (hi 552 (w := .methodLinkNest "KiteBarges$Planner" 107 yX6_isKnot "KiteBarges") rfl)⟩, va_Nw.of rfl (hi 26 (w := .methodLinkNest "KiteBarges" 11 yX4_init "KiteBarges") rfl), va_Nw.of rfl (hi 85 (w := .methodLinkNest "KiteBarges" 18 yX5_init "KiteBarges") rfl), va_Nw.of rfl (hi 124 (w := .methodLinkNest "KiteBarges" 25 yX0_init "KiteBarges") rfl), va_AO.of (hi 153 (w := .arrayOver (.object "KiteBarges$Fleet")) rfl)⟩
  · subst hg
    exact ⟨z1, z2, T1, T2⟩
  · subst hg
    exact ⟨hS, hR, zC, zQ⟩
