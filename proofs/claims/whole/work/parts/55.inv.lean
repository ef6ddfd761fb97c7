/-- the barges of the two: one row, or (before the first river) nobody told -/
def Rel (T Fc Fm : Tv) : Prop := Fc = Fm ∨ ((∀ b, T 5 b = 0) ∧ Fc 5 0 = Fm 5 0)
theorem Rel.h5 {T Fc Fm : Tv} (h : Rel T Fc Fm) : Fc 5 0 = Fm 5 0 := by
  rcases h with h | h
  · rw [h]
  · exact h.2
theorem noB {T : Tv} (h : ∀ b, T 5 b = 0) (v : Int32) : hasB T v = false := decide_eq_false (fun z => by rw [h] at z; omega)
def CR (T X F K0 K1 : Tv) (kf : Nat → Nat) (σ : Sg) : Prop := RepC T σ ∧ RepX 2 10 X σ ∧ RepF 12 10 F σ ∧ RepF 17 11 K0 σ ∧ RepF 22 12 K1 σ ∧ RepK 27 kf σ ∧ (∃ a0, σ.I 5 = nI a0) ∧ RepP T σ
def MR (T X F K0 K1 : Tv) (kf : Nat → Nat) (σ : Sg) : Prop := RepM T σ ∧ RepX 16 49 X σ ∧ RepN 51 0 F σ ∧ RepN 52 0 K0 σ ∧ RepN 52 21 K1 σ ∧ RepK 53 kf σ
def cS (σ s : Sg) : Prop := same [0, 1, 2, 3, 4, 5, 6, 7, 8, 9, 10, 11, 12, 13, 14, 15, 16, 17, 18, 19, 20, 21, 22, 23, 24, 25, 26, 27, 28, 29, 30, 31, 32, 33, 34, 35, 36, 37, 38, 39, 40, 41, 42, 43, 44, 45] [0, 1, 2, 3, 4, 5, 6, 7, 8, 9, 10, 11, 12] [0, 1, 2, 3, 4, 5, 6, 7, 8, 9, 10, 11, 12, 13, 14, 15, 16, 17, 18, 19, 20, 21, 22, 23, 24, 25, 26, 27, 28, 29, 30, 31, 32, 33, 34, 35, 36, 37, 38, 39, 40, 41, 42, 43, 44, 45] true σ s
def mS (σ s : Sg) : Prop := same [46, 47, 48, 49, 50, 51, 52, 53, 54, 55, 56, 57, 58, 59] [13, 14, 15, 16, 17, 18, 19, 20, 21, 22, 23, 24, 25] [46, 47, 48, 49, 50, 51, 52, 53, 54, 55, 56, 57, 58, 59] true σ s
theorem cS_of {As Is Js : List Nat} {tk : Bool} {σ s : Sg} (h : same As Is Js tk σ s) (hA : ∀ k ∈ As, k ∈ [0, 1, 2, 3, 4, 5, 6, 7, 8, 9, 10, 11, 12, 13, 14, 15, 16, 17, 18, 19, 20, 21, 22, 23, 24, 25, 26, 27, 28, 29, 30, 31, 32, 33, 34, 35, 36, 37, 38, 39, 40, 41, 42, 43, 44, 45]) (hI : ∀ k ∈ Is, k ∈ [0, 1, 2, 3, 4, 5, 6, 7, 8, 9, 10, 11, 12]) (hJ : ∀ k ∈ Js, k ∈ [0, 1, 2, 3, 4, 5, 6, 7, 8, 9, 10, 11, 12, 13, 14, 15, 16, 17, 18, 19, 20, 21, 22, 23, 24, 25, 26, 27, 28, 29, 30, 31, 32, 33, 34, 35, 36, 37, 38, 39, 40, 41, 42, 43, 44, 45]) : cS σ s := same_w h hA hI hJ (fun _ => rfl)
theorem mS_of {As Is Js : List Nat} {tk : Bool} {σ s : Sg} (h : same As Is Js tk σ s) (hA : ∀ k ∈ As, k ∈ [46, 47, 48, 49, 50, 51, 52, 53, 54, 55, 56, 57, 58, 59]) (hI : ∀ k ∈ Is, k ∈ [13, 14, 15, 16, 17, 18, 19, 20, 21, 22, 23, 24, 25]) (hJ : ∀ k ∈ Js, k ∈ [46, 47, 48, 49, 50, 51, 52, 53, 54, 55, 56, 57, 58, 59]) : mS σ s := same_w h hA hI hJ (fun _ => rfl)
theorem MR_c {T X F K0 K1 : Tv} {kf : Nat → Nat} {σ s : Sg} (h : MR T X F K0 K1 kf σ) (hs : cS σ s) : MR T X F K0 K1 kf s :=
  ⟨h.1.same hs (by decide) (by decide), RepX_same h.2.1 hs (by decide) (by decide), RepN_same h.2.2.1 hs (by decide), RepN_same h.2.2.2.1 hs (by decide), RepN_same h.2.2.2.2.1 hs (by decide), RepK_same h.2.2.2.2.2 hs (by decide)⟩
theorem CR_m {T X F K0 K1 : Tv} {kf : Nat → Nat} {σ s : Sg} (h : CR T X F K0 K1 kf σ) (hs : mS σ s) : CR T X F K0 K1 kf s :=
  ⟨h.1.same hs (by decide) (by decide), RepX_same h.2.1 hs (by decide) (by decide), RepF_same h.2.2.1 hs (by decide) (by decide), RepF_same h.2.2.2.1 hs (by decide) (by decide), RepF_same h.2.2.2.2.1 hs (by decide) (by decide), RepK_same h.2.2.2.2.2.1 hs (by decide), by rw [hs.2.1 5 (by decide)]; exact h.2.2.2.2.2.2.1, RepP_same h.2.2.2.2.2.2.2 hs (by decide) (by decide)⟩
theorem CR_write {T X F K0 K1 X' : Tv} {kf : Nat → Nat} {σ s : Sg} (h : CR T X F K0 K1 kf σ) (hs : same [10] [2] [] false σ s) (h1 : RepX 2 10 X' s) : CR T X' F K0 K1 kf s :=
  ⟨h.1.same hs (by decide) (by decide), h1, RepF_same h.2.2.1 hs (by decide) (by decide), RepF_same h.2.2.2.1 hs (by decide) (by decide), RepF_same h.2.2.2.2.1 hs (by decide) (by decide), RepK_same h.2.2.2.2.2.1 hs (by decide), by rw [hs.2.1 5 (by decide)]; exact h.2.2.2.2.2.2.1, RepP_same h.2.2.2.2.2.2.2 hs (by decide) (by decide)⟩
theorem CR_erase {T X F K0 K1 X' : Tv} {kf : Nat → Nat} {σ s : Sg} (h : CR T X F K0 K1 kf σ) (hs : same [] [2] [] false σ s) (h1 : RepX 2 10 X' s) : CR T X' F K0 K1 kf s :=
  ⟨h.1.same hs (by decide) (by decide), h1, RepF_same h.2.2.1 hs (by decide) (by decide), RepF_same h.2.2.2.1 hs (by decide) (by decide), RepF_same h.2.2.2.2.1 hs (by decide) (by decide), RepK_same h.2.2.2.2.2.1 hs (by decide), by rw [hs.2.1 5 (by decide)]; exact h.2.2.2.2.2.2.1, RepP_same h.2.2.2.2.2.2.2 hs (by decide) (by decide)⟩
theorem CR_fault {T X F K0 K1 : Tv} {kf : Nat → Nat} {σ s : Sg} (h : CR T X F K0 K1 kf σ) (hs : same [11] [3, 4, 5, 6, 7, 8, 9] [] false σ s) (h1 : ∃ a0, s.I 5 = nI a0) : CR T X F K0 K1 kf s :=
  ⟨h.1.same hs (by decide) (by decide), RepX_same h.2.1 hs (by decide) (by decide), RepF_same h.2.2.1 hs (by decide) (by decide), RepF_same h.2.2.2.1 hs (by decide) (by decide), RepF_same h.2.2.2.2.1 hs (by decide) (by decide), RepK_same h.2.2.2.2.2.1 hs (by decide), h1, RepP_same h.2.2.2.2.2.2.2 hs (by decide) (by decide)⟩
theorem CR_cord {T X F K0 K1 F' : Tv} {kf : Nat → Nat} {σ s : Sg} (h : CR T X F K0 K1 kf σ) (hs : same [13, 15] [] [] false σ s) (h1 : RepF 12 10 F' s) : CR T X F' K0 K1 kf s :=
  ⟨h.1.same hs (by decide) (by decide), RepX_same h.2.1 hs (by decide) (by decide), h1, RepF_same h.2.2.2.1 hs (by decide) (by decide), RepF_same h.2.2.2.2.1 hs (by decide) (by decide), RepK_same h.2.2.2.2.2.1 hs (by decide), by rw [hs.2.1 5 (by decide)]; exact h.2.2.2.2.2.2.1, RepP_same h.2.2.2.2.2.2.2 hs (by decide) (by decide)⟩
theorem CR_go {T X F K0 K1 F' : Tv} {kf : Nat → Nat} {σ s : Sg} (h : CR T X F K0 K1 kf σ) (hs : same [12, 14, 16] [10] [] false σ s) (h1 : RepF 12 10 F' s) : CR T X F' K0 K1 kf s :=
  ⟨h.1.same hs (by decide) (by decide), RepX_same h.2.1 hs (by decide) (by decide), h1, RepF_same h.2.2.2.1 hs (by decide) (by decide), RepF_same h.2.2.2.2.1 hs (by decide) (by decide), RepK_same h.2.2.2.2.2.1 hs (by decide), by rw [hs.2.1 5 (by decide)]; exact h.2.2.2.2.2.2.1, RepP_same h.2.2.2.2.2.2.2 hs (by decide) (by decide)⟩
theorem CR_keep {T X F K0 K1 K0' K1' : Tv} {kf kf' : Nat → Nat} {σ s : Sg} (h : CR T X F K0 K1 kf σ) (hs : same [17, 18, 19, 20, 21, 22, 23, 24, 25, 26, 27] [11, 12] [] false σ s) (h1 : RepF 17 11 K0' s) (h2 : RepF 22 12 K1' s) (h3 : RepK 27 kf' s) : CR T X F K0' K1' kf' s :=
  ⟨h.1.same hs (by decide) (by decide), RepX_same h.2.1 hs (by decide) (by decide), RepF_same h.2.2.1 hs (by decide) (by decide), h1, h2, h3, by rw [hs.2.1 5 (by decide)]; exact h.2.2.2.2.2.2.1, RepP_same h.2.2.2.2.2.2.2 hs (by decide) (by decide)⟩
theorem CR_back {T X F K0 K1 F' : Tv} {kf : Nat → Nat} {σ s : Sg} (h : CR T X F K0 K1 kf σ) (hs : same [12, 13, 14, 15, 16] [10] [] false σ s) (h1 : RepF 12 10 F' s) : CR T X F' K0 K1 kf s :=
  ⟨h.1.same hs (by decide) (by decide), RepX_same h.2.1 hs (by decide) (by decide), h1, RepF_same h.2.2.2.1 hs (by decide) (by decide), RepF_same h.2.2.2.2.1 hs (by decide) (by decide), RepK_same h.2.2.2.2.2.1 hs (by decide), by rw [hs.2.1 5 (by decide)]; exact h.2.2.2.2.2.2.1, RepP_same h.2.2.2.2.2.2.2 hs (by decide) (by decide)⟩
theorem CR_river {T X F K0 K1 T' X' F' : Tv} {kf kf' : Nat → Nat} {σ s : Sg} (h : CR T X F K0 K1 kf σ) (hs : same [0, 1, 2, 3, 4, 5, 6, 7, 8, 9, 11, 12, 13, 14, 15, 16, 27, 28] [0, 1, 2, 3, 4, 5, 6, 7, 8, 9, 10] [] false σ s) (h0 : RepC T' s) (h1 : RepX 2 10 X' s) (h2 : RepF 12 10 F' s) (h3 : RepK 27 kf' s) (h4 : ∃ a0, s.I 5 = nI a0) (h5 : RepP T' s) : CR T' X' F' K0 K1 kf' s :=
  ⟨h0, h1, h2, RepF_same h.2.2.2.1 hs (by decide) (by decide), RepF_same h.2.2.2.2.1 hs (by decide) (by decide), h3, h4, h5⟩
theorem CR_plan {T X F K0 K1 : Tv} {kf : Nat → Nat} {σ s : Sg} (h : CR T X F K0 K1 kf σ) (hs : cE σ s) (h1 : RepP T s) : CR T X F K0 K1 kf s :=
  ⟨h.1.same hs (by decide) (by decide), RepX_same h.2.1 hs (by decide) (by decide), RepF_same h.2.2.1 hs (by decide) (by decide), RepF_same h.2.2.2.1 hs (by decide) (by decide), RepF_same h.2.2.2.2.1 hs (by decide) (by decide), RepK_same h.2.2.2.2.2.1 hs (by decide), by rw [hs.2.1 5 (by decide)]; exact h.2.2.2.2.2.2.1, h1⟩
theorem MR_write {T X F K0 K1 X' : Tv} {kf : Nat → Nat} {σ s : Sg} (h : MR T X F K0 K1 kf σ) (hs : same [49] [16] [] false σ s) (h1 : RepX 16 49 X' s) : MR T X' F K0 K1 kf s :=
  ⟨h.1.same hs (by decide) (by decide), h1, RepN_same h.2.2.1 hs (by decide), RepN_same h.2.2.2.1 hs (by decide), RepN_same h.2.2.2.2.1 hs (by decide), RepK_same h.2.2.2.2.2 hs (by decide)⟩
theorem MR_erase {T X F K0 K1 X' : Tv} {kf : Nat → Nat} {σ s : Sg} (h : MR T X F K0 K1 kf σ) (hs : same [] [16] [] false σ s) (h1 : RepX 16 49 X' s) : MR T X' F K0 K1 kf s :=
  ⟨h.1.same hs (by decide) (by decide), h1, RepN_same h.2.2.1 hs (by decide), RepN_same h.2.2.2.1 hs (by decide), RepN_same h.2.2.2.2.1 hs (by decide), RepK_same h.2.2.2.2.2 hs (by decide)⟩
theorem MR_fault {T X F K0 K1 : Tv} {kf : Nat → Nat} {σ s : Sg} (h : MR T X F K0 K1 kf σ) (hs : same [50] [17, 18, 19, 20, 21, 22, 23] [] true σ s)  : MR T X F K0 K1 kf s :=
  ⟨h.1.same hs (by decide) (by decide), RepX_same h.2.1 hs (by decide) (by decide), RepN_same h.2.2.1 hs (by decide), RepN_same h.2.2.2.1 hs (by decide), RepN_same h.2.2.2.2.1 hs (by decide), RepK_same h.2.2.2.2.2 hs (by decide)⟩
theorem MR_now {T X F K0 K1 F' : Tv} {kf : Nat → Nat} {σ s : Sg} (h : MR T X F K0 K1 kf σ) (hs : same [51] [] [] false σ s) (h1 : RepN 51 0 F' s) : MR T X F' K0 K1 kf s :=
  ⟨h.1.same hs (by decide) (by decide), RepX_same h.2.1 hs (by decide) (by decide), h1, RepN_same h.2.2.2.1 hs (by decide), RepN_same h.2.2.2.2.1 hs (by decide), RepK_same h.2.2.2.2.2 hs (by decide)⟩
theorem MR_keep {T X F K0 K1 K0' K1' : Tv} {kf kf' : Nat → Nat} {σ s : Sg} (h : MR T X F K0 K1 kf σ) (hs : same [52, 53] [] [] false σ s) (h1 : RepN 52 0 K0' s) (h2 : RepN 52 21 K1' s) (h3 : RepK 53 kf' s) : MR T X F K0' K1' kf' s :=
  ⟨h.1.same hs (by decide) (by decide), RepX_same h.2.1 hs (by decide) (by decide), RepN_same h.2.2.1 hs (by decide), h1, h2, h3⟩
theorem MR_river {T X F K0 K1 T' X' F' : Tv} {kf kf' : Nat → Nat} {σ s : Sg} (h : MR T X F K0 K1 kf σ) (hs : same [46, 47, 48, 50, 51, 53] [13, 14, 15, 16, 17, 18, 19, 20, 21, 22, 23] [] true σ s) (h0 : RepM T' s) (h1 : RepX 16 49 X' s) (h2 : RepN 51 0 F' s) (h3 : RepK 53 kf' s) : MR T' X' F' K0 K1 kf' s :=
  ⟨h0, h1, h2, RepN_same h.2.2.2.1 hs (by decide), RepN_same h.2.2.2.2.1 hs (by decide), h3⟩
theorem MR_plan {T X F K0 K1 : Tv} {kf : Nat → Nat} {σ s : Sg} (h : MR T X F K0 K1 kf σ) (hs : mlF σ s) : MR T X F K0 K1 kf s :=
  ⟨h.1.same hs (by decide) (by decide), RepX_same h.2.1 hs (by decide) (by decide), RepN_same h.2.2.1 hs (by decide), RepN_same h.2.2.2.1 hs (by decide), RepN_same h.2.2.2.2.1 hs (by decide), RepK_same h.2.2.2.2.2 hs (by decide)⟩
def KOk (T C M : Tv) : Prop := FOk T C ∧ FOk T M ∧ Rel T C M
def LgI (T X Fc Fm C0 C1 M0 M1 : Tv) (kf : Nat → Nat) : Prop := TOk T ∧ XOk X ∧ KOk T Fc Fm ∧ (∀ i, kf i ≤ 1) ∧ (kf 0 = 1 → KOk T C0 M0) ∧ (kf 1 = 1 → KOk T C1 M1)
/-- the invariant: the class and the other one hold the same river, text and barges -/
def Inv (σ : Sg) : Prop := ∃ (T X Fc Fm C0 C1 M0 M1 : Tv) (kf : Nat → Nat), LgI T X Fc Fm C0 C1 M0 M1 kf ∧ CR T X Fc C0 C1 kf σ ∧ MR T X Fm M0 M1 kf σ
theorem XOk_wr {X : Tv} (h : XOk X) (v : Int64) (n : Int32) : XOk (wrX X v n) := by
  unfold wrX
  split
  · rename_i h2
    exact XOk_app h v h2.2
  · exact h
theorem XOk_era {X : Tv} (h : XOk X) : XOk (eraS X) := by
  refine ⟨Nat.zero_le _, fun i => ?_⟩
  show (if 1 = 0 then 0 else X 1 i) < 256
  rw [if_neg (by decide)]
  exact h.2 i
theorem at_rel {T Fc Fm : Tv} (h : Rel T Fc Fm) (b w : Int32) : atS T Fc b w = atS T Fm b w := by
  rcases h with h | h
  · rw [h]
  · unfold atS
    rw [noB h.1 b, if_neg (by decide), if_neg (by decide)]
theorem kn_rel {T Fc Fm : Tv} (h : Rel T Fc Fm) (b : Int32) : knS T Fc b = knS T Fm b := by
  rcases h with h | h
  · rw [h]
  · unfold knS
    rw [noB h.1 b, if_neg (by decide), if_neg (by decide)]
theorem cnt_rel {T X Fc Fm : Tv} (h : Rel T Fc Fm) (w : Int32) : cntS T X Fc w = cntS T X Fm w := by
  unfold cntS
  rw [h.h5]
theorem cordR_rel {T Fc Fm : Tv} (h : Rel T Fc Fm) (b l : Int32) : cordR T Fc b l = cordR T Fm b l := by
  rcases h with h | h
  · rw [h]
  · unfold cordR
    rw [noB h.1 b, if_neg (by decide), if_neg (by decide)]
theorem FOk_cord {T F : Tv} (h : FOk T F) (b l : Int32) : FOk T (cordF T F b l) := by
  unfold cordF
  split
  · rename_i hc
    obtain ⟨h1, h2, -, h4⟩ := hc
    obtain ⟨bN, hb, rfl, ht⟩ := hasB_t h1
    obtain ⟨lN, hl, rfl⟩ := isL_t h2
    have eb : (nI bN).toInt.toNat = bN := nI_nat (by omega)
    have el : (nI lN).toInt.toNat = lN := nI_nat (by omega)
    rw [eb, el]
    rw [eb] at h4
    refine ⟨fun c => ?_, fun c => ?_, ?_, fun c hc => ?_⟩
    · exact h.1 c
    · refine ⟨?_, ?_⟩
      · show (if 1 = 1 ∧ c = bN then lN else if 1 = 3 ∧ c = bN then _ else F 1 c) < 6
        split
        · exact hl
        · rw [if_neg (fun z => absurd z.1 (by decide))]; exact (h.2.1 c).1
      · exact (h.2.1 c).2
    · exact h.2.2.1
    · have hc2 : T 5 c = 0 ∨ F 0 c = 160 := hc
      have hne : c ≠ bN := fun z => by
        rw [z] at hc2
        rcases hc2 with q | q
        · omega
        · exact h4 (Or.inl q)
      have h3 := h.2.2.2 c hc2
      show (if 1 = 1 ∧ c = bN then lN else if 1 = 3 ∧ c = bN then _ else F 1 c) = (if 2 = 1 ∧ c = bN then lN else if 2 = 3 ∧ c = bN then _ else F 2 c)
      rw [if_neg (fun z => hne z.2), if_neg (fun z => hne z.2), if_neg (fun z => hne z.2), if_neg (fun z => hne z.2)]
      exact h3
  · exact h
theorem cord_rel {T Fc Fm : Tv} (h : Rel T Fc Fm) (b l : Int32) : Rel T (cordF T Fc b l) (cordF T Fm b l) := by
  rcases h with h | h
  · rw [h]; exact Or.inl rfl
  · unfold cordF
    rw [if_neg (fun z => by rw [noB h.1 b] at z; exact absurd z.1 (by decide)), if_neg (fun z => by rw [noB h.1 b] at z; exact absurd z.1 (by decide))]
    exact Or.inr h
theorem KOk_cord {T C M : Tv} (h : KOk T C M) (b l : Int32) : KOk T (cordF T C b l) (cordF T M b l) := ⟨FOk_cord h.1 b l, FOk_cord h.2.1 b l, cord_rel h.2.2 b l⟩
theorem FOk_go {T F : Tv} (hT : TOk T) (h : FOk T F) (n : Int32) : FOk T (goF T F n) := by
  unfold goF
  split
  · have h24 := h.2.2.1
    refine runS_ok hT h _ ?_
    unfold goN
    omega
  · exact h
theorem goR_rel {T Fc Fm : Tv} (h : Rel T Fc Fm) (n : Int32) : goR Fc n = goR Fm n := by
  unfold goR goN
  rw [h.h5]
theorem go_rel {T Fc Fm : Tv} (h : Rel T Fc Fm) (n : Int32) : Rel T (goF T Fc n) (goF T Fm n) := by
  rcases h with h | h
  · rw [h]; exact Or.inl rfl
  · refine Or.inr ⟨h.1, ?_⟩
    unfold goF
    split
    · rw [runS_h, runS_h]
      unfold goN
      rw [h.2]
    · exact h.2
theorem KOk_go {T C M : Tv} (hT : TOk T) (h : KOk T C M) (n : Int32) : KOk T (goF T C n) (goF T M n) := ⟨FOk_go hT h.1 n, FOk_go hT h.2.1 n, go_rel h.2.2 n⟩
theorem keepR_rel {T Fc Fm : Tv} (h : Rel T Fc Fm) (k : Int32) : keepR Fc k = keepR Fm k := by
  unfold keepR
  rw [h.h5]
theorem KOk_keep {T Fc Fm C0 M0 : Tv} {kf : Nat → Nat} (h : KOk T Fc Fm) {i : Nat} (h0 : kf i = 1 → KOk T C0 M0) (k : Int32) (hk : keepB kf k i = 1) : KOk T (keepK Fc C0 i k) (keepK Fm M0 i k) := by
  unfold keepK
  unfold keepB at hk
  by_cases e : k = nI i
  · rw [if_pos e, if_pos e]; exact h
  · rw [if_neg e] at hk
    rw [if_neg e, if_neg e]; exact h0 hk
theorem keepB_le {kf : Nat → Nat} (h : ∀ i, kf i ≤ 1) (k : Int32) : ∀ i, keepB kf k i ≤ 1 := by
  intro i
  unfold keepB
  split
  · exact Nat.le_refl 1
  · exact h i
theorem backR_rel {T C0 C1 M0 M1 : Tv} {kf : Nat → Nat} (h0 : kf 0 = 1 → KOk T C0 M0) (h1 : kf 1 = 1 → KOk T C1 M1) (k : Int32) : backR C0 C1 kf k = backR M0 M1 kf k := by
  unfold backR
  by_cases e0 : kf 0 = 1
  · rw [(h0 e0).2.2.h5]
    by_cases e1 : kf 1 = 1
    · rw [(h1 e1).2.2.h5]
    · rw [if_neg e1, if_neg e1]
  · rw [if_neg e0, if_neg e0]
    by_cases e1 : kf 1 = 1
    · rw [(h1 e1).2.2.h5]
    · rw [if_neg e1, if_neg e1]
theorem KOk_back {T Fc Fm C0 C1 M0 M1 : Tv} {kf : Nat → Nat} (h : KOk T Fc Fm) (h0 : kf 0 = 1 → KOk T C0 M0) (h1 : kf 1 = 1 → KOk T C1 M1) (k : Int32) : KOk T (backF Fc C0 C1 kf k) (backF Fm M0 M1 kf k) := by
  unfold backF
  by_cases e0 : k = nI 0 ∧ kf 0 = 1
  · rw [if_pos e0, if_pos e0]; exact h0 e0.2
  · rw [if_neg e0, if_neg e0]
    by_cases e1 : k = nI 1 ∧ kf 1 = 1
    · rw [if_pos e1, if_pos e1]; exact h1 e1.2
    · rw [if_neg e1, if_neg e1]; exact h
theorem LgI_river {T X Fc Fm C0 C1 M0 M1 : Tv} {kf : Nat → Nat} (h : LgI T X Fc Fm C0 C1 M0 M1 kf) : LgI (rivT X T) (rivX X T) (rivF X T Fc) (rivF X T Fm) C0 C1 M0 M1 (rivK X T kf) := by
  have hT := rivT_ok (X := X) h.1
  refine ⟨hT, ?_⟩
  by_cases e : (rdS X T 7 0).1 = true
  · unfold rivX rivF rivK
    rw [if_pos e, if_pos e, if_pos e, if_pos e]
    exact ⟨XOk_era h.2.1, ⟨FOk_beg hT, FOk_beg hT, Or.inl rfl⟩, fun _ => Nat.zero_le _, fun z => absurd z (by decide), fun z => absurd z (by decide)⟩
  · unfold rivT rivX rivF rivK
    rw [if_neg e, if_neg e, if_neg e, if_neg e, if_neg e]
    exact h.2
theorem RepP_river {T X : Tv} {σ s : Sg} (h : RepP T σ) (hs : same [0, 1, 2, 3, 4, 5, 6, 7, 8, 9, 11, 12, 13, 14, 15, 16, 27, 28] [0, 1, 2, 3, 4, 5, 6, 7, 8, 9, 10] [] false σ s) (h1 : (rdS X T 7 0).1 = true → ∀ i, i < 112 → s.A 28 i = -2) (h2 : (rdS X T 7 0).1 = false → s.A 28 = σ.A 28) : RepP (rivT X T) s := by
  refine ⟨fun i hi => by rw [hs.1 31 (by decide), hs.1 32 (by decide)]; exact h.1 i hi, x34_same h.2.1 hs (by decide), ?_⟩
  cases e : (rdS X T 7 0).1 with
  | true => exact ⟨fun b h' hb hh => Or.inl (h1 e _ (by omega)), fun b o hb ho => Or.inl (h1 e _ (by omega))⟩
  | false =>
    unfold rivT
    rw [e, if_neg (by decide)]
    exact cach_eq (n := 1000) h.2.2 (fun j _ => ⟨by rw [h2 e], by rw [hs.1 29 (by decide)], by rw [hs.2.2.1 30 (by decide)]⟩) (fun b h hb hh e => by omega) (fun b o hb ho e => by omega)
/-- the first state -/
theorem fillA_lt {f : Nat → Int32} {v : Int32} {n i : Nat} (h : i < n) : fillA f v n i = v := by
  unfold fillA
  simp [h]
def Z0 : Tv := fun _ _ => 0
theorem FOk_Z0 : FOk T0 Z0 := ⟨fun b => ⟨Nat.zero_le _, fun z => absurd z (show ¬ (0 : Nat) = 1 by decide)⟩, fun b => ⟨by show 0 < 6; decide, by show 0 < 6; decide⟩, Nat.zero_le _, fun _ _ => rfl⟩
theorem Inv_0 {s : Sg} (hs : same [51] [] [] false sg0 s) (hN : RepN 51 0 (begF T0) s) : Inv s := by
  refine ⟨T0, Z0, Z0, begF T0, Z0, Z0, Z0, Z0, fun _ => 0, ⟨T0_ok, ⟨Nat.zero_le _, fun _ => by show 0 < 256; decide⟩, ⟨FOk_Z0, FOk_beg T0_ok, Or.inr ⟨fun _ => rfl, rfl⟩⟩, fun _ => Nat.zero_le _, fun z => absurd z (by decide), fun z => absurd z (by decide)⟩, ?_, ?_⟩
  · have hA : ∀ k, k ≠ 28 → k ≠ 31 → k ≠ 33 → k ≠ 51 → ∀ i, s.A k i = nI 0 := fun k h1 h2 h3 h4 i => by rw [hs.1 k (by simpa using h4)]; exact sg0_A h1 h2 h3 i
    refine ⟨sg0_C.same hs (by decide) (by decide), ⟨by rw [hs.2.1 2 (by decide)]; rfl, fun i hi => hA 10 (by decide) (by decide) (by decide) (by decide) i⟩, ⟨fun k hk b hb => hA _ (by omega) (by omega) (by omega) (by omega) b, by rw [hs.2.1 10 (by decide)]; rfl⟩, ⟨fun k hk b hb => hA _ (by omega) (by omega) (by omega) (by omega) b, by rw [hs.2.1 11 (by decide)]; rfl⟩, ⟨fun k hk b hb => hA _ (by omega) (by omega) (by omega) (by omega) b, by rw [hs.2.1 12 (by decide)]; rfl⟩, fun i hi => hA 27 (by decide) (by decide) (by decide) (by decide) i, ⟨0, by rw [hs.2.1 5 (by decide)]; rfl⟩, fun i hi => ⟨?_, hA 32 (by decide) (by decide) (by decide) (by decide) i⟩, fun i hi => ⟨0, by decide, hA 34 (by decide) (by decide) (by decide) (by decide) i⟩, ?_⟩
    · rw [hs.1 31 (by decide)]
      show (if 31 = 28 then fillA (fun _ => 0) (-2) 112 else if 31 = 31 then fillA (fun _ => 0) (nI 160) 24 else if 31 = 33 then fillA (fun _ => 0) (nI 160) 24 else fun _ => 0) i = nI 160
      rw [if_neg (by decide), if_pos rfl]
      exact fillA_lt hi
    · have h28 : ∀ i, i < 112 → s.A 28 i = -2 := fun i hi => by
        rw [hs.1 28 (by decide)]
        show (if 28 = 28 then fillA (fun _ => 0) (-2) 112 else if 28 = 31 then fillA (fun _ => 0) (nI 160) 24 else if 28 = 33 then fillA (fun _ => 0) (nI 160) 24 else fun _ => 0) i = -2
        rw [if_pos rfl]
        exact fillA_lt hi
      exact ⟨fun b h' hb hh => Or.inl (h28 _ (by omega)), fun b o hb ho => Or.inl (h28 _ (by omega))⟩
  · have hA : ∀ k, k ≠ 28 → k ≠ 31 → k ≠ 33 → k ≠ 51 → ∀ i, s.A k i = nI 0 := fun k h1 h2 h3 h4 i => by rw [hs.1 k (by simpa using h4)]; exact sg0_A h1 h2 h3 i
    have h52 := hA 52 (by decide) (by decide) (by decide) (by decide)
    exact ⟨sg0_M.same hs (by decide) (by decide), ⟨by rw [hs.2.1 16 (by decide)]; rfl, fun i hi => hA 49 (by decide) (by decide) (by decide) (by decide) i⟩, hN, ⟨fun b hb => ⟨h52 _, h52 _, h52 _, h52 _, h52 _⟩, h52 _⟩, ⟨fun b hb => ⟨h52 _, h52 _, h52 _, h52 _, h52 _⟩, h52 _⟩, fun i hi => hA 53 (by decide) (by decide) (by decide) (by decide) i⟩
