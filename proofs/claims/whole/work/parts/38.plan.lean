theorem knot_160 (q m x : Nat) : knotS q m 160 x = false := decide_eq_false (fun z => z.2.1 rfl)
def kn0 : Nat → Nat → Nat → Bool := fun _ _ _ => false
/-- a line as it stands: where it is in the way -/
def LineR (q1 q2 : Nat) (kn : Nat → Nat → Nat → Bool) (σ : Sg) : Prop := ∀ h, h < 24 → ∃ p l, σ.A q1 h = nI p ∧ σ.A q2 h = nI l ∧ p ≤ 160 ∧ l < 256 ∧ ∀ q m, knotS q m p l = kn h q m
theorem go_next {T : Tv} (hT : TOk T) {b p l h : Nat} (hp : validP T p) (hn : goS T b p l h ≠ 160) : p ≠ 160 ∧ goS T b p l h / 20 ≤ p / 20 + 1 := by
  have h8 := hT.2.1
  have hv := validP_le hT hp
  unfold goS at hn ⊢
  by_cases h1 : 160 ≤ p
  · rw [if_pos h1] at hn; exact absurd rfl hn
  · rw [if_neg h1] at hn ⊢
    have hl20 := (hT.2.2.2.1 (p / 20)).2.1
    refine ⟨by omega, ?_⟩
    split
    · rename_i h2
      generalize p % 20 + stepS T b (p / 20) l h = z at h2 ⊢
      omega
    · rename_i h2
      rw [if_neg h2] at hn
      split
      · omega
      · rename_i h3
        rw [if_neg h3] at hn
        split
        · omega
        · rename_i h4
          rw [if_neg h4] at hn
          exact absurd rfl hn
theorem okP_there {T : Tv} {b : Nat} {kn : Nat → Nat → Nat → Bool} {h l : Nat} : ∀ {ms : List Nat}, okP T b kn h 160 l ms → ms = []
  | [], _ => rfl
  | m :: ms, hk => absurd rfl hk.1.2.1
theorem endP_near {T : Tv} (hT : TOk T) {b : Nat} {kn : Nat → Nat → Nat → Bool} : ∀ {ms : List Nat} {h p l : Nat}, validP T p → okP T b kn h p l ms → endP T b h p ms ≠ 160 → endP T b h p ms / 20 ≤ p / 20 + ms.length
  | [], h, p, l, hp, hk, hn => Nat.le_refl _
  | m :: ms, h, p, l, hp, hk, hn => by
    have hg := validP_go hT hp b m h
    by_cases e : goS T b p m h = 160
    · have := hk.2
      rw [e] at this
      have hm := okP_there this
      subst hm
      exact absurd e hn
    · have h1 := (go_next hT hp e).2
      have h2 := endP_near hT hg hk.2 hn
      show endP T b (h + 1) (goS T b p m h) ms / 20 ≤ p / 20 + (m :: ms).length
      rw [List.length_cons]
      omega
def CS (T : Tv) (b : Nat) (kn : Nat → Nat → Nat → Bool) (h0 k s r e : Nat) : Prop := ∃ ms, okP T b kn h0 (startS T) 0 ms ∧ ms.length = k ∧ s = 6 * endP T b h0 (startS T) ms + lastL 0 ms ∧ r = runL 0 ms ∧ e = encA 0 ms
def DS (T : Tv) (b : Nat) (kn : Nat → Nat → Nat → Bool) (h0 k i t s r e : Nat) : Prop := ∃ ms m, okP T b kn h0 (startS T) 0 ms ∧ ms.length = k ∧ stP T b kn (h0 + k) (endP T b h0 (startS T) ms) (lastL 0 ms) m ∧ s = 6 * goS T b (endP T b h0 (startS T) ms) m (h0 + k) + m ∧ r = runL 0 ms + offS (lastL 0 ms) m ∧ e = 6 * encA 0 ms + m ∧ (6 * endP T b h0 (startS T) ms + lastL 0 ms < i ∨ (6 * endP T b h0 (startS T) ms + lastL 0 ms = i ∧ m < t))
theorem CS_0 {T : Tv} {b : Nat} {kn : Nat → Nat → Nat → Bool} {h0 s r e : Nat} : CS T b kn h0 0 s r e ↔ s = 6 * startS T ∧ r = 0 ∧ e = 0 := by
  constructor
  · rintro ⟨ms, h1, h2, h3, h4, h5⟩
    have := List.eq_nil_of_length_eq_zero h2
    subst this
    exact ⟨h3, h4, h5⟩
  · rintro ⟨rfl, rfl, rfl⟩
    exact ⟨[], trivial, rfl, rfl, rfl, rfl⟩
theorem six_24 : (6 : Nat) ^ 24 = 4738381338321616896 := by decide +kernel
theorem CS_lt {T : Tv} (hT : TOk T) {b : Nat} {kn : Nat → Nat → Nat → Bool} {h0 k s r e : Nat} (hh : h0 ≤ 24) (h : CS T b kn h0 k s r e) : h0 + k ≤ 24 ∧ s < 966 ∧ r ≤ 120 ∧ e < 4738381338321616896 ∧ e < 6 ^ k ∧ r ≤ 5 * k ∧ s % 6 < 6 ∧ validP T (s / 6) := by
  obtain ⟨ms, h1, h2, h3, h4, h5⟩ := h
  have a1 := okP_len h1 hh
  have a2 := runL_le h1 (by decide)
  have a3 := encA_lt ms (okP_six h1)
  have a4 := lastL_lt h1 (by decide)
  have a6 := endP_valid hT (b := b) (ms := ms) (h := h0) (validP_start hT)
  have a5 := validP_le hT a6
  have a7 : (6 : Nat) ^ ms.length ≤ 6 ^ 24 := Nat.pow_le_pow_right (by decide) (by omega)
  rw [six_24] at a7
  rw [h2] at a1 a2 a3 a7
  refine ⟨a1, by omega, by omega, by omega, by omega, by omega, by omega, ?_⟩
  rw [h3, show (6 * endP T b h0 (startS T) ms + lastL 0 ms) / 6 = endP T b h0 (startS T) ms by omega]
  exact a6
theorem DS_C {T : Tv} {b : Nat} {kn : Nat → Nat → Nat → Bool} {h0 k i t s r e : Nat} (h : DS T b kn h0 k i t s r e) : CS T b kn h0 (k + 1) s r e := by
  obtain ⟨ms, m, h1, h2, h3, h4, h5, h6, -⟩ := h
  refine ⟨ms ++ [m], (okP_snoc T b kn ms h0 (startS T) 0 m).mpr ⟨h1, by rw [h2]; exact h3⟩, by rw [List.length_append, h2]; rfl, ?_, ?_, ?_⟩
  · rw [endP_snoc, lastL_snoc, h2]; exact h4
  · rw [runL_snoc]; exact h5
  · rw [encA_snoc]; exact h6
theorem C_DS {T : Tv} {b : Nat} {kn : Nat → Nat → Nat → Bool} {h0 k i s r e : Nat} (hi : ∀ ms, okP T b kn h0 (startS T) 0 ms → ms.length = k → endP T b h0 (startS T) ms ≠ 160 → 6 * endP T b h0 (startS T) ms + lastL 0 ms < i) (h : CS T b kn h0 (k + 1) s r e) : DS T b kn h0 k i 0 s r e := by
  obtain ⟨ns, h1, h2, h3, h4, h5⟩ := h
  have hne : ns ≠ [] := fun z => by rw [z] at h2; cases h2
  obtain ⟨ms, m, rfl⟩ : ∃ ms m, ns = ms ++ [m] := ⟨ns.dropLast, ns.getLast hne, (List.dropLast_concat_getLast hne).symm⟩
  have hl : ms.length = k := by rw [List.length_append] at h2; exact Nat.succ.inj h2
  obtain ⟨g1, g2⟩ := (okP_snoc T b kn ms h0 (startS T) 0 m).mp h1
  rw [hl] at g2
  refine ⟨ms, m, g1, hl, g2, ?_, ?_, ?_, Or.inl (hi ms g1 hl g2.2.1)⟩
  · rw [h3, endP_snoc, lastL_snoc, hl]
  · rw [h4, runL_snoc]
  · rw [h5, encA_snoc]
theorem DS_wide {T : Tv} {b : Nat} {kn : Nat → Nat → Nat → Bool} {h0 k i t i' t' s r e : Nat} (h : DS T b kn h0 k i t s r e) (hh : ∀ m c, m < 6 → offS (c % 6) m ≤ cordS T b → (c < i ∨ (c = i ∧ m < t)) → CS T b kn h0 k c (r - offS (c % 6) m) (e / 6) → (c < i' ∨ (c = i' ∧ m < t'))) : DS T b kn h0 k i' t' s r e := by
  obtain ⟨ms, m, h1, h2, h3, h4, h5, h6, h7⟩ := h
  have a4 := lastL_lt h1 (by decide : 0 < 6)
  have hm := h3.2.2.1
  have e6 : (6 * endP T b h0 (startS T) ms + lastL 0 ms) % 6 = lastL 0 ms := by omega
  refine ⟨ms, m, h1, h2, h3, h4, h5, h6, hh m _ hm (by rw [e6]; exact h3.2.2.2.1) h7 ⟨ms, h1, h2, rfl, by rw [e6, h5]; omega, by rw [h6]; omega⟩⟩
theorem DS_same {T : Tv} {b : Nat} {kn : Nat → Nat → Nat → Bool} {h0 k i t i' t' : Nat} (hh : ∀ m c, m < 6 → offS (c % 6) m ≤ cordS T b → (∃ r e, CS T b kn h0 k c r e) → ((c < i ∨ (c = i ∧ m < t)) ↔ (c < i' ∨ (c = i' ∧ m < t')))) (s r e : Nat) : DS T b kn h0 k i t s r e ↔ DS T b kn h0 k i' t' s r e :=
  ⟨fun h => DS_wide h (fun m c h1 h2 h3 h4 => (hh m c h1 h2 ⟨_, _, h4⟩).mp h3), fun h => DS_wide h (fun m c h1 h2 h3 h4 => (hh m c h1 h2 ⟨_, _, h4⟩).mpr h3)⟩
/-- a state's best, or none -/
def cl (A : Nat → Int32) (J : Nat → Int64) (s : Nat) (P : Nat → Nat → Prop) : Prop := (A s = -1 ∧ ∀ r e, ¬ P r e) ∨ ∃ r e, P r e ∧ A s = nI r ∧ J s = lN e ∧ ∀ r' e', P r' e' → r < r' ∨ (r = r' ∧ e ≤ e')
theorem cl_iff {A : Nat → Int32} {J : Nat → Int64} {s : Nat} {P P' : Nat → Nat → Prop} (h : cl A J s P) (hp : ∀ r e, P r e ↔ P' r e) : cl A J s P' := by
  rcases h with ⟨h1, h2⟩ | ⟨r, e, h1, h2, h3, h4⟩
  · exact Or.inl ⟨h1, fun r e z => h2 r e ((hp r e).mpr z)⟩
  · exact Or.inr ⟨r, e, (hp r e).mp h1, h2, h3, fun r' e' z => h4 r' e' ((hp r' e').mpr z)⟩
theorem cl_eq {A A' : Nat → Int32} {J J' : Nat → Int64} {s : Nat} {P : Nat → Nat → Prop} (h : cl A J s P) (h1 : A' s = A s) (h2 : J' s = J s) : cl A' J' s P := by
  unfold cl
  rw [h1, h2]
  exact h
/-- what is told of a passage in its slot -/
def slotR (o : Option (List Nat)) (n : Nat) (σ : Sg) : Prop := match o with
  | none => σ.A 28 n = -1
  | some ms => σ.A 28 n = nI ms.length ∧ σ.A 29 n = nI (runL 0 ms) ∧ σ.J 30 n = lN (encA 0 ms)
noncomputable def plS (T : Tv) (b : Nat) (kn : Nat → Nat → Nat → Bool) (h : Nat) : Option (List Nat) := @dite _ (∃ ms, Bst T b kn h (startS T) 0 ms) (Classical.propDecidable _) (fun z => some z.choose) (fun _ => none)
theorem plS_some {T : Tv} {b : Nat} {kn : Nat → Nat → Nat → Bool} {h : Nat} (hh : h ≤ 24) {ms : List Nat} (hb : Bst T b kn h (startS T) 0 ms) : plS T b kn h = some ms := by
  unfold plS
  rw [dif_pos ⟨ms, hb⟩]
  exact congrArg some (Bst_one hh (by decide) (Exists.choose_spec (⟨ms, hb⟩ : ∃ ms, Bst T b kn h (startS T) 0 ms)) hb)
theorem plS_none {T : Tv} {b : Nat} {kn : Nat → Nat → Nat → Bool} {h : Nat} (hn : ∀ ms, ¬ Cmp T b kn h (startS T) 0 ms) : plS T b kn h = none := by
  unfold plS
  rw [dif_neg (fun ⟨ms, hb⟩ => hn ms hb.1)]
theorem plS_bst {T : Tv} {b : Nat} {kn : Nat → Nat → Nat → Bool} {h : Nat} {ms : List Nat} (he : plS T b kn h = some ms) : Bst T b kn h (startS T) 0 ms := by
  unfold plS at he
  by_cases z : ∃ ms, Bst T b kn h (startS T) 0 ms
  · rw [dif_pos z] at he
    cases he
    exact z.choose_spec
  · rw [dif_neg z] at he
    cases he
/-- what the settling has of its states so far -/
def US (T : Tv) (b : Nat) (kn : Nat → Nat → Nat → Bool) (h0 k i r e : Nat) : Prop := ∃ s, 960 ≤ s ∧ s < i ∧ CS T b kn h0 k s r e
theorem US_cmp {T : Tv} {b : Nat} {kn : Nat → Nat → Nat → Bool} {h0 k r e : Nat} : US T b kn h0 k 966 r e ↔ ∃ ms, Cmp T b kn h0 (startS T) 0 ms ∧ ms.length = k ∧ r = runL 0 ms ∧ e = encA 0 ms := by
  constructor
  · rintro ⟨s, h1, h2, ms, g1, g2, g3, g4, g5⟩
    have a4 := lastL_lt g1 (by decide : 0 < 6)
    exact ⟨ms, ⟨g1, by omega⟩, g2, g4, g5⟩
  · rintro ⟨ms, ⟨g1, g3⟩, g2, g4, g5⟩
    have a4 := lastL_lt g1 (by decide : 0 < 6)
    exact ⟨6 * 160 + lastL 0 ms, by omega, by omega, ms, g1, g2, by rw [g3], g4, g5⟩
def stl (T : Tv) (b : Nat) (kn : Nat → Nat → Nat → Bool) (h0 k i n : Nat) (σ : Sg) : Prop := (σ.A 28 n = -1 ∧ ∀ r e, ¬ US T b kn h0 k i r e) ∨ ∃ r e, US T b kn h0 k i r e ∧ σ.A 28 n = nI k ∧ σ.A 29 n = nI r ∧ σ.J 30 n = lN e ∧ ∀ r' e', US T b kn h0 k i r' e' → r < r' ∨ (r = r' ∧ e ≤ e')
theorem US_s {T : Tv} {b : Nat} {kn : Nat → Nat → Nat → Bool} {h0 k i r e : Nat} (hi : 960 ≤ i) : US T b kn h0 k (i + 1) r e ↔ US T b kn h0 k i r e ∨ CS T b kn h0 k i r e := by
  constructor
  · rintro ⟨s, h1, h2, h3⟩
    by_cases q : s = i
    · exact Or.inr (q ▸ h3)
    · exact Or.inl ⟨s, h1, by omega, h3⟩
  · rintro (⟨s, h1, h2, h3⟩ | h3)
    · exact ⟨s, h1, by omega, h3⟩
    · exact ⟨i, hi, by omega, h3⟩
/-- the settled slot, the shorter passages shut out -/
theorem stl_slot {T : Tv} {b : Nat} {kn : Nat → Nat → Nat → Bool} {h0 k n : Nat} {σ : Sg} (hh : h0 ≤ 24) (hs : ∀ ms, Cmp T b kn h0 (startS T) 0 ms → k ≤ ms.length) (h : stl T b kn h0 k 966 n σ) : (σ.A 28 n = -1 ∧ ∀ ms, Cmp T b kn h0 (startS T) 0 ms → k < ms.length) ∨ (σ.A 28 n = nI k ∧ slotR (plS T b kn h0) n σ) := by
  rcases h with ⟨h1, h2⟩ | ⟨r, e, h1, h2, h3, h4, h5⟩
  · refine Or.inl ⟨h1, fun ms hc => ?_⟩
    have := hs ms hc
    by_cases q : ms.length = k
    · exact absurd (US_cmp.mpr ⟨ms, hc, q, rfl, rfl⟩) (h2 _ _)
    · omega
  · refine Or.inr ⟨h2, ?_⟩
    obtain ⟨ms, g1, g2, g3, g4⟩ := US_cmp.mp h1
    have hb : Bst T b kn h0 (startS T) 0 ms := by
      refine ⟨g1, fun ns hn => ?_⟩
      have a1 := KL_len g1.1 hh (by decide : 0 < 6)
      have a2 := KL_len hn.1 hh (by decide : 0 < 6)
      have a3 := hs ns hn
      by_cases q : ns.length = k
      · have := h5 _ _ (US_cmp.mpr ⟨ns, hn, q, rfl, rfl⟩)
        unfold KL
        omega
      · unfold KL; omega
    rw [plS_some hh hb]
    exact ⟨by rw [g2]; exact h2, by rw [← g3]; exact h3, by rw [← g4]; exact h4⟩
/-- the other roles' addresses stay -/
def adE (ad a2 : Nat → Nat) : Prop := ∀ k, k ∉ [35, 36, 37, 38] → a2 k = ad k
theorem adE_rf (ad : Nat → Nat) : adE ad ad := fun _ _ => rfl
theorem adE_tr {a b c : Nat → Nat} (h : adE a b) (h2 : adE b c) : adE a c := fun k hk => (h2 k hk).trans (h k hk)
theorem adE_sw (ad : Nat → Nat) : adE ad (asw ad) := by
  intro k hk
  show ad (psw k) = ad k
  unfold psw
  rw [if_neg (fun z => hk (by rw [z]; simp)), if_neg (fun z => hk (by rw [z]; simp)), if_neg (fun z => hk (by rw [z]; simp)), if_neg (fun z => hk (by rw [z]; simp))]
theorem same_sw {As Is Js : List Nat} {tk : Bool} {σ s : Sg} (h : same As Is Js tk σ s) (hA : 35 ∈ As ∧ 37 ∈ As) (hA2 : 36 ∈ As ∧ 38 ∈ As) (hJ : 36 ∈ Js ∧ 38 ∈ Js) (hJ2 : 35 ∈ Js ∧ 37 ∈ Js) : same As Is Js tk σ (ssw s) := by
  have key : ∀ k, k ≠ 35 → k ≠ 36 → k ≠ 37 → k ≠ 38 → psw k = k := fun k h1 h2 h3 h4 => by
    unfold psw
    rw [if_neg h1, if_neg h3, if_neg h2, if_neg h4]
  refine ⟨fun k hk => ?_, h.2.1, fun k hk => ?_, h.2.2.2⟩
  · show s.A (psw k) = σ.A k
    rw [key k (fun z => hk (z ▸ hA.1)) (fun z => hk (z ▸ hA2.1)) (fun z => hk (z ▸ hA.2)) (fun z => hk (z ▸ hA2.2))]
    exact h.1 k hk
  · show s.J (psw k) = σ.J k
    rw [key k (fun z => hk (z ▸ hJ2.1)) (fun z => hk (z ▸ hJ.1)) (fun z => hk (z ▸ hJ2.2)) (fun z => hk (z ▸ hJ.2))]
    exact h.2.2.1 k hk
