/-- which rows and numbers may differ -/
def same (As Is Js : List Nat) (tk : Bool) (σ s2 : Sg) : Prop := (∀ k, k ∉ As → s2.A k = σ.A k) ∧ (∀ k, k ∉ Is → s2.I k = σ.I k) ∧ (∀ k, k ∉ Js → s2.J k = σ.J k) ∧ (tk = true ∨ s2.L = σ.L)
theorem same_rf (As Is Js : List Nat) (tk : Bool) (σ : Sg) : same As Is Js tk σ σ := ⟨fun _ _ => rfl, fun _ _ => rfl, fun _ _ => rfl, Or.inr rfl⟩
theorem same_tr {As Is Js : List Nat} {tk : Bool} {σ s2 s3 : Sg} (h : same As Is Js tk σ s2) (h2 : same As Is Js tk s2 s3) : same As Is Js tk σ s3 := by
  refine ⟨fun k hk => (h2.1 k hk).trans (h.1 k hk), fun k hk => (h2.2.1 k hk).trans (h.2.1 k hk), fun k hk => (h2.2.2.1 k hk).trans (h.2.2.1 k hk), ?_⟩
  rcases h.2.2.2 with q | q
  · exact Or.inl q
  · rcases h2.2.2.2 with q2 | q2
    · exact Or.inl q2
    · exact Or.inr (q2.trans q)
theorem same_w {As Is Js As' Is' Js' : List Nat} {tk tk' : Bool} {σ s2 : Sg} (h : same As Is Js tk σ s2) (hA : ∀ k ∈ As, k ∈ As') (hI : ∀ k ∈ Is, k ∈ Is') (hJ : ∀ k ∈ Js, k ∈ Js') (ht : tk = true → tk' = true) : same As' Is' Js' tk' σ s2 :=
  ⟨fun k hk => h.1 k (fun z => hk (hA k z)), fun k hk => h.2.1 k (fun z => hk (hI k z)), fun k hk => h.2.2.1 k (fun z => hk (hJ k z)), h.2.2.2.imp ht id⟩
theorem same_sA {As Is Js : List Nat} {tk : Bool} {σ s2 : Sg} (h : same As Is Js tk σ s2) {q : Nat} (hq : q ∈ As) (f : Nat → Int32) : same As Is Js tk σ (s2.sA q f) :=
  ⟨fun k hk => by rw [sA_A, if_neg (fun z => hk (by rw [z]; exact hq))]; exact h.1 k hk, h.2.1, h.2.2.1, h.2.2.2⟩
theorem same_sJ {As Is Js : List Nat} {tk : Bool} {σ s2 : Sg} (h : same As Is Js tk σ s2) {q : Nat} (hq : q ∈ Js) (f : Nat → Int64) : same As Is Js tk σ (s2.sJ q f) :=
  ⟨h.1, h.2.1, fun k hk => by rw [sJ_J, if_neg (fun z => hk (by rw [z]; exact hq))]; exact h.2.2.1 k hk, h.2.2.2⟩
theorem same_sI {As Is Js : List Nat} {tk : Bool} {σ s2 : Sg} (h : same As Is Js tk σ s2) {q : Nat} (hq : q ∈ Is) (v : Int32) : same As Is Js tk σ (s2.sI q v) :=
  ⟨h.1, fun k hk => by rw [sI_I, if_neg (fun z => hk (by rw [z]; exact hq))]; exact h.2.1 k hk, h.2.2.1, h.2.2.2⟩
theorem same_sL {As Is Js : List Nat} {σ s2 : Sg} (h : same As Is Js true σ s2) (v : Int64) : same As Is Js true σ (s2.sL v) := ⟨h.1, h.2.1, h.2.2.1, Or.inl rfl⟩
theorem RepC.same {T : Tv} {As Is Js : List Nat} {tk : Bool} {σ s2 : Sg} (h : RepC T σ) (hs : same As Is Js tk σ s2) (hA : ∀ k, k < 10 → k ∉ As) (hI : 0 ∉ Is ∧ 1 ∉ Is) : RepC T s2 :=
  ⟨by rw [hs.2.1 0 hI.1]; exact h.1, by rw [hs.2.1 1 hI.2]; exact h.2.1, fun k hk i hi => by rw [hs.1 k (hA k hk)]; exact h.2.2 k hk i hi⟩
def validP (T : Tv) (p : Nat) : Prop := p = 160 ∨ (p / 20 < T 10 0 ∧ p % 20 < T 1 (p / 20))
theorem validP_le {T : Tv} (hT : TOk T) {p : Nat} (h : validP T p) : p ≤ 160 := by
  have h8 := hT.2.1
  rcases h with h | ⟨h, -⟩ <;> omega
theorem validP_or {T : Tv} {p : Nat} (h : validP T p) : p = 160 ∨ p / 20 < T 10 0 := h.imp id And.left
theorem validP_start {T : Tv} (hT : TOk T) : validP T (startS T) := by
  unfold startS
  by_cases h : T 10 0 = 0
  · rw [if_pos h]; exact Or.inl rfl
  · rw [if_neg h]
    have := hT.2.2.2.2.1 0 (by omega)
    exact Or.inr ⟨by omega, by show 0 % 20 < T 1 (0 / 20); rw [show 0 / 20 = 0 from rfl]; omega⟩
theorem validP_go {T : Tv} (hT : TOk T) {p : Nat} (h : validP T p) (b l hr : Nat) : validP T (goS T b p l hr) := by
  have h8 := hT.2.1
  unfold goS
  by_cases h1 : 160 ≤ p
  · rw [if_pos h1]; exact Or.inl rfl
  · rw [if_neg h1]
    obtain ⟨hr1, hr2⟩ : p / 20 < T 10 0 ∧ p % 20 < T 1 (p / 20) := by
      rcases h with h | h
      · omega
      · exact h
    have hl20 := (hT.2.2.2.1 (p / 20)).2.1
    have hl1 := hT.2.2.2.2.1 (p / 20) hr1
    split
    · rename_i h2
      generalize hz : p % 20 + stepS T b (p / 20) l hr = z at h2 ⊢
      have e1 : (20 * (p / 20) + z) / 20 = p / 20 := by omega
      exact Or.inr ⟨by rw [e1]; exact hr1, by rw [e1]; omega⟩
    · split
      · have e1 : (20 * (p / 20) + T 1 (p / 20) - 1) / 20 = p / 20 := by omega
        exact Or.inr ⟨by rw [e1]; exact hr1, by rw [e1]; omega⟩
      · split
        · rename_i h4
          have e1 : (20 * (p / 20) + 20) / 20 = p / 20 + 1 := by omega
          have := hT.2.2.2.2.1 (p / 20 + 1) h4
          exact Or.inr ⟨by rw [e1]; exact h4, by rw [e1]; omega⟩
        · exact Or.inl rfl
/-- the barges: 0 places, 1 layers, 2 layers behind the last hour, 3 cord run, 4 hours stayed; 5 hours gone -/
def FOk (T F : Tv) : Prop := (∀ b, F 0 b ≤ 160 ∧ (T 5 b = 1 → validP T (F 0 b))) ∧ (∀ b, F 1 b < 6 ∧ F 2 b < 6) ∧ F 5 0 ≤ 24 ∧ (∀ b, T 5 b = 0 ∨ F 0 b = 160 → F 1 b = F 2 b)
def RepF (q h : Nat) (F : Tv) (σ : Sg) : Prop := (∀ k, k < 5 → ∀ b, b < 4 → σ.A (q + k) b = nI (F k b)) ∧ σ.I h = nI (F 5 0)
def passS (T F : Tv) (h : Nat) : Tv := fun k b =>
  if k = 0 then (if T 5 b = 1 ∧ F 0 b ≠ 160 then goS T b (F 0 b) (F 1 b) h else F 0 b)
  else if k = 2 then F 1 b
  else if k = 4 then (if T 5 b = 1 ∧ F 0 b ≠ 160 then F 4 b + (if goS T b (F 0 b) (F 1 b) h = F 0 b then 1 else 0) else F 4 b)
  else if k = 5 then h + 1 else F k b
theorem FOk_pass {T F : Tv} (hT : TOk T) (hF : FOk T F) {h : Nat} (hh : h < 24) : FOk T (passS T F h) := by
  refine ⟨fun b => ?_, fun b => ⟨(hF.2.1 b).1, (hF.2.1 b).1⟩, ?_, fun b _ => rfl⟩
  · show (if T 5 b = 1 ∧ F 0 b ≠ 160 then goS T b (F 0 b) (F 1 b) h else F 0 b) ≤ 160 ∧ (T 5 b = 1 → validP T (if T 5 b = 1 ∧ F 0 b ≠ 160 then goS T b (F 0 b) (F 1 b) h else F 0 b))
    split
    · rename_i h2
      have h3 := validP_go hT ((hF.1 b).2 h2.1) b (F 1 b) h
      exact ⟨validP_le hT h3, fun _ => h3⟩
    · exact hF.1 b
  · show h + 1 ≤ 24
    omega
def setF (F : Tv) (k b v : Nat) : Tv := fun k' b' => if k' = k ∧ b' = b then v else F k' b'
