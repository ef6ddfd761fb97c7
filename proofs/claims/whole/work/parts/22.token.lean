/-- the first place from p on at which the text ends, or c does not hold -/
def rn (X : Tv) (c : Nat → Bool) : Nat → Nat → Nat | 0, p => p | f + 1, p => if p < X 0 0 ∧ c (X 1 p) = true then rn X c f (p + 1) else p
def rnS (X : Tv) (c : Nat → Bool) (p : Nat) : Nat := rn X c (X 0 0 - p) p
theorem rnS_go {X : Tv} {c : Nat → Bool} {p : Nat} (h : p < X 0 0) (hc : c (X 1 p) = true) : rnS X c p = rnS X c (p + 1) := by
  unfold rnS
  obtain ⟨f, hf⟩ : ∃ f, X 0 0 - p = f + 1 := ⟨X 0 0 - p - 1, by omega⟩
  rw [hf, rn, if_pos ⟨h, hc⟩, show X 0 0 - (p + 1) = f by omega]
theorem rnS_end {X : Tv} {c : Nat → Bool} {p : Nat} (h : ¬ (p < X 0 0 ∧ c (X 1 p) = true)) : rnS X c p = p := by
  unfold rnS
  cases hf : X 0 0 - p with
  | zero => rfl
  | succ f => rw [rn, if_neg h]
theorem rn_le {X : Tv} {c : Nat → Bool} : ∀ (f p : Nat), p ≤ rn X c f p ∧ (p ≤ X 0 0 → rn X c f p ≤ X 0 0)
  | 0, p => ⟨Nat.le_refl _, id⟩
  | f + 1, p => by
    rw [rn]
    split
    · rename_i h
      obtain ⟨h1, h2⟩ := rn_le (X := X) (c := c) f (p + 1)
      exact ⟨by omega, fun _ => h2 (by omega)⟩
    · exact ⟨Nat.le_refl _, id⟩
theorem rnS_ge (X : Tv) (c : Nat → Bool) (p : Nat) : p ≤ rnS X c p := (rn_le _ _).1
theorem rnS_le {X : Tv} {c : Nat → Bool} {p : Nat} (h : p ≤ X 0 0) : rnS X c p ≤ X 0 0 := (rn_le _ _).2 h
theorem rn_in {X : Tv} {c : Nat → Bool} : ∀ (f p q : Nat), p ≤ q → q < rn X c f p → q < X 0 0 ∧ c (X 1 q) = true
  | 0, p, q, h1, h2 => by rw [rn] at h2; omega
  | f + 1, p, q, h1, h2 => by
    rw [rn] at h2
    split at h2
    · rename_i h
      by_cases e : p = q
      · subst e; exact h
      · exact rn_in f (p + 1) q (by omega) h2
    · omega
theorem rnS_in {X : Tv} {c : Nat → Bool} {p q : Nat} (h1 : p ≤ q) (h2 : q < rnS X c p) : q < X 0 0 ∧ c (X 1 q) = true := rn_in _ _ _ h1 h2
def isBl (b : Nat) : Bool := decide (b = 32)
def isLe (b : Nat) : Bool := decide (97 ≤ b ∧ b ≤ 122)
def isDi (b : Nat) : Bool := decide (48 ≤ b ∧ b ≤ 57)
def kdS (X : Tv) (p : Nat) : Nat := if X 0 0 ≤ p then 3 else if isLe (X 1 p) = true then 0 else if isDi (X 1 p) = true then 1 else 2
theorem kdS_le (X : Tv) (p : Nat) : kdS X p ≤ 3 := by unfold kdS; split; omega; split; omega; split <;> omega
/-- where the token begins, where it ends -/
def tkS (X : Tv) (p : Nat) : Nat := rnS X isBl p
def teA (X : Tv) (a : Nat) : Nat := if kdS X a = 0 then rnS X isLe a else if kdS X a = 1 then rnS X isDi a else if kdS X a = 2 then a + 1 else a
def teS (X : Tv) (p : Nat) : Nat := teA X (tkS X p)
theorem tkS_le {X : Tv} {p : Nat} (h : p ≤ X 0 0) : tkS X p ≤ X 0 0 := rnS_le h
theorem kd_lt {X : Tv} {a : Nat} (h : kdS X a ≠ 3) : a < X 0 0 := by
  unfold kdS at h
  split at h
  · exact absurd rfl h
  · omega
theorem teA_ge (X : Tv) (a : Nat) : a ≤ teA X a := by
  unfold teA; split
  · exact rnS_ge _ _ _
  · split
    · exact rnS_ge _ _ _
    · split <;> omega
theorem teA_le {X : Tv} {a : Nat} (h : a ≤ X 0 0) : teA X a ≤ X 0 0 := by
  unfold teA; split
  · exact rnS_le h
  · split
    · exact rnS_le h
    · split
      · rename_i h2; have := kd_lt (X := X) (a := a) (by omega); omega
      · exact h
theorem teS_le {X : Tv} {p : Nat} (h : p ≤ X 0 0) : teS X p ≤ X 0 0 := teA_le (tkS_le h)
theorem tk_te (X : Tv) (p : Nat) : tkS X p ≤ teS X p := teA_ge _ _
theorem kd_sameLe {X : Tv} {q : Nat} : (q < X 0 0 ∧ isLe (X 1 q) = true) ↔ kdS X q = 0 := by
  unfold kdS
  by_cases h : X 0 0 ≤ q
  · rw [if_pos h]; constructor
    · intro z; omega
    · intro z; omega
  · rw [if_neg h]
    by_cases h2 : isLe (X 1 q) = true
    · rw [if_pos h2]; exact ⟨fun _ => rfl, fun _ => ⟨by omega, h2⟩⟩
    · rw [if_neg h2]; constructor
      · intro z; exact absurd z.2 h2
      · intro z; split at z <;> omega
theorem kd_sameDi {X : Tv} {q : Nat} : (q < X 0 0 ∧ isDi (X 1 q) = true) ↔ kdS X q = 1 := by
  unfold kdS
  by_cases h : X 0 0 ≤ q
  · rw [if_pos h]; constructor
    · intro z; omega
    · intro z; omega
  · rw [if_neg h]
    by_cases h2 : isLe (X 1 q) = true
    · rw [if_pos h2]
      constructor
      · intro z
        have a1 := of_decide_eq_true z.2
        have a2 := of_decide_eq_true h2
        omega
      · intro z; omega
    · rw [if_neg h2]
      by_cases h3 : isDi (X 1 q) = true
      · rw [if_pos h3]; exact ⟨fun _ => rfl, fun _ => ⟨by omega, h3⟩⟩
      · rw [if_neg h3]; constructor
        · intro z; exact absurd z.2 h3
        · intro z; omega
/-- a word's number, by its letters -/
def wvS (f : Nat → Nat) : Nat → Nat | 0 => 0 | j + 1 => 27 * wvS f j + f j
theorem wvS_inj : ∀ (j k : Nat) (f h : Nat → Nat), (∀ i, i < j → 1 ≤ f i ∧ f i ≤ 26) → (∀ i, i < k → 1 ≤ h i ∧ h i ≤ 26) → wvS f j = wvS h k → j = k ∧ ∀ i, i < j → f i = h i
  | 0, 0, f, h, _, _, _ => ⟨rfl, fun i hi => absurd hi (Nat.not_lt_zero i)⟩
  | 0, k + 1, f, h, _, h2, e => by have := h2 k (by omega); rw [wvS, wvS] at e; omega
  | j + 1, 0, f, h, h1, _, e => by have := h1 j (by omega); rw [wvS, wvS] at e; omega
  | j + 1, k + 1, f, h, h1, h2, e => by
    have a1 := h1 j (by omega)
    have a2 := h2 k (by omega)
    rw [wvS, wvS] at e
    have e1 : f j = h k := by omega
    have e2 : wvS f j = wvS h k := by omega
    obtain ⟨q1, q2⟩ := wvS_inj j k f h (fun i hi => h1 i (by omega)) (fun i hi => h2 i (by omega)) e2
    refine ⟨by omega, fun i hi => ?_⟩
    by_cases q : i = j
    · subst q; rw [e1, q1]
    · exact q2 i (by omega)
theorem wvS_cong {f h : Nat → Nat} : ∀ (j : Nat), (∀ i, i < j → f i = h i) → wvS f j = wvS h j
  | 0, _ => rfl
  | j + 1, e => by rw [wvS, wvS, wvS_cong j (fun i hi => e i (by omega)), e j (by omega)]
def wN : List (List Nat) := [[111, 112, 101, 110], [116, 114, 101, 101, 115], [108, 111, 99, 107], [100, 114, 121], [119, 105, 110, 100], [98, 97, 114, 103, 101], [115, 111, 108, 100], [115, 116, 105, 108, 108], [112, 108, 97, 105, 110], [112, 97, 105, 114, 101, 100], [115, 108, 111, 119], [115, 97, 105, 108], [116, 111, 114, 110]]
def wl0 (i : Nat) : Nat := (wN.getD i []).length
def wc (i j : Nat) : Nat := (wN.getD i []).getD j 0
def tokIs (X : Tv) (a e i : Nat) : Bool := decide (e - a = wl0 i ∧ ∀ j, j < wl0 i → X 1 (a + j) = wc i j)
def lvw (X : Tv) (a : Nat) : Nat → Nat := fun j => X 1 (a + j) - 96
def codeN (i : Nat) : Nat := wvS (fun j => wc i j - 96) (wl0 i)
theorem wc_ok : ∀ i, i < 13 → wl0 i ≤ 6 ∧ 3 ≤ wl0 i ∧ ∀ j, j < wl0 i → 97 ≤ wc i j ∧ wc i j ≤ 122 := by decide +kernel
theorem tokIs_code {X : Tv} {a i : Nat} (hi : i < 13) (hk : kdS X a = 0) : tokIs X a (teA X a) i = decide (teA X a - a ≤ 9 ∧ wvS (lvw X a) (teA X a - a) = codeN i) := by
  obtain ⟨w1, w2, w3⟩ := wc_ok i hi
  have hin : ∀ j, j < teA X a - a → 97 ≤ X 1 (a + j) ∧ X 1 (a + j) ≤ 122 := by
    intro j hj
    have e : teA X a = rnS X isLe a := by unfold teA; rw [if_pos hk]
    rw [e] at hj
    exact of_decide_eq_true (rnS_in (X := X) (c := isLe) (p := a) (q := a + j) (by omega) (by omega)).2
  unfold tokIs
  congr 1
  apply propext
  constructor
  · rintro ⟨h1, h2⟩
    refine ⟨by omega, ?_⟩
    rw [h1]
    exact wvS_cong _ (fun j hj => by unfold lvw; rw [h2 j hj])
  · rintro ⟨h1, h2⟩
    obtain ⟨q1, q2⟩ := wvS_inj _ _ _ _ (fun j hj => by have := hin j hj; unfold lvw; omega) (fun j hj => by have := w3 j hj; show 1 ≤ wc i j - 96 ∧ wc i j - 96 ≤ 26; omega) h2
    refine ⟨q1, fun j hj => ?_⟩
    have b1 := q2 j (by omega)
    have b2 := hin j (by omega)
    have b3 := w3 j hj
    unfold lvw at b1
    omega
theorem tokIs_no {X : Tv} {a i : Nat} (hi : i < 13) (hk : kdS X a ≠ 0) : tokIs X a (teA X a) i = false := by
  obtain ⟨w1, w2, w3⟩ := wc_ok i hi
  refine decide_eq_false (fun z => hk ?_)
  have h0 := z.2 0 (by omega)
  have h1 := w3 0 (by omega)
  have hl : a < X 0 0 := by
    by_cases h3 : kdS X a = 3
    · have : teA X a = a := by unfold teA; rw [if_neg (by omega), if_neg (by omega), if_neg (by omega)]
      omega
    · exact kd_lt h3
  exact kd_sameLe.mp ⟨hl, decide_eq_true (by rw [Nat.add_zero] at h0; omega)⟩
/-- the word at p: 8, if there is none; the kite: 5, if there is none -/
def wordS (X : Tv) (p : Nat) : Nat := if tokIs X (tkS X p) (teS X p) 0 = true then 0 else if tokIs X (tkS X p) (teS X p) 1 = true then 1 else if tokIs X (tkS X p) (teS X p) 2 = true then 2 else if tokIs X (tkS X p) (teS X p) 3 = true then 3 else if tokIs X (tkS X p) (teS X p) 4 = true then 4 else if tokIs X (tkS X p) (teS X p) 5 = true then 5 else if tokIs X (tkS X p) (teS X p) 6 = true then 6 else if tokIs X (tkS X p) (teS X p) 7 = true then 7 else 8
def kiteS (X : Tv) (p : Nat) : Nat := if tokIs X (tkS X p) (teS X p) 8 = true then 0 else if tokIs X (tkS X p) (teS X p) 9 = true then 1 else if tokIs X (tkS X p) (teS X p) 10 = true then 2 else if tokIs X (tkS X p) (teS X p) 11 = true then 3 else if tokIs X (tkS X p) (teS X p) 12 = true then 4 else 5
def dvS (X : Tv) (a : Nat) : Nat → Nat | 0 => 0 | j + 1 => 10 * dvS X a j + X 1 (a + j) - 48
def nvS (X : Tv) (p : Nat) : Nat := dvS X (tkS X p) (teS X p - tkS X p)
def isN (X : Tv) (p : Nat) : Bool := decide (kdS X (tkS X p) = 1 ∧ teS X p - tkS X p ≤ 2)
def okN (X : Tv) (p lo hi : Nat) : Bool := isN X p && decide (lo ≤ nvS X p ∧ nvS X p ≤ hi)
def okK (X : Tv) (p : Nat) : Bool := decide (kiteS X p < 5)
def l1 (X : Tv) (p lo hi : Nat) (k : Bool × Nat) : Bool × Nat := if okN X p lo hi = true then k else (false, tkS X p)
def l2 (X : Tv) (p : Nat) (k : Bool × Nat) : Bool × Nat := if okK X p = true then k else (false, tkS X p)
/-- a line from p on: it is right, and ends there; or its fault -/
def lineR (X : Tv) (p rc : Nat) : Bool × Nat :=
  if wordS X p ≤ 2 then (if rc < 8 then l1 X (teS X p) 0 7 (l1 X (teS X (teS X p)) 1 20 (true, teS X (teS X (teS X p)))) else (false, tkS X p))
  else if wordS X p = 3 then (true, teS X p)
  else if wordS X p = 4 then l1 X (teS X p) 0 5 (l1 X (teS X (teS X p)) 0 23 (l1 X (teS X (teS X (teS X p))) (nvS X (teS X (teS X p))) 23 (l1 X (teS X (teS X (teS X (teS X p)))) 0 7 (l1 X (teS X (teS X (teS X (teS X (teS X p))))) 0 9 (true, teS X (teS X (teS X (teS X (teS X (teS X p))))))))))
  else if wordS X p = 5 then l1 X (teS X p) 0 3 (l1 X (teS X (teS X p)) 1 60 (l1 X (teS X (teS X (teS X p))) 1 5 (l2 X (teS X (teS X (teS X (teS X p)))) (l1 X (teS X (teS X (teS X (teS X (teS X p))))) 0 99 (true, teS X (teS X (teS X (teS X (teS X (teS X p))))))))))
  else if wordS X p = 6 then l1 X (teS X p) 0 3 (true, teS X (teS X p))
  else if wordS X p = 7 then l1 X (teS X p) 0 9 (true, teS X (teS X p))
  else (false, tkS X p)
/-- the numbers of a line: 1 to 5 -/
def numS (X : Tv) (p : Nat) : Nat → Nat
  | 1 => nvS X (teS X p)
  | 2 => nvS X (teS X (teS X p))
  | 3 => nvS X (teS X (teS X (teS X p)))
  | 4 => if wordS X p = 5 then kiteS X (teS X (teS X (teS X (teS X p)))) else nvS X (teS X (teS X (teS X (teS X p))))
  | _ => nvS X (teS X (teS X (teS X (teS X (teS X p)))))
def rcS (w rc : Nat) : Nat := if w ≤ 2 then rc + 1 else if w = 3 then 0 else rc
/-- what a line does -/
def tellS (T : Tv) (w : Nat) (N : Nat → Nat) : Tv := fun k i =>
  if w ≤ 2 then (if k = 10 then T 10 0 + 1 else if i = T 10 0 then (if k = 0 then N 1 else if k = 1 then N 2 else if k = 2 then w else T k i) else T k i)
  else if w = 3 then (if k = 10 then 0 else T k i)
  else if w = 4 then (if 24 * N 1 + N 2 ≤ i ∧ i ≤ 24 * N 1 + N 3 then (if k = 3 then N 4 else if k = 4 then N 5 else T k i) else T k i)
  else if w = 5 then (if i = N 1 then (if k = 5 then 1 else if k = 6 then N 2 else if k = 7 then N 3 else if k = 8 then N 4 else if k = 9 then N 5 else T k i) else T k i)
  else if w = 6 then (if k = 5 ∧ i = N 1 then 0 else T k i)
  else if w = 7 then (if k = 11 then N 1 else T k i)
  else T k i
/-- the lines one behind another: where each begins, and what is told ahead of it -/
def lsS (X T : Tv) : Nat → Nat × Tv
  | 0 => (0, T)
  | k + 1 => (teS X (lineR X (lsS X T k).1 ((lsS X T k).2 10 0)).2, tellS (lsS X T k).2 (wordS X (lsS X T k).1) (numS X (lsS X T k).1))
def lnS (X T : Tv) (k : Nat) : Bool × Nat := lineR X (lsS X T k).1 ((lsS X T k).2 10 0)
/-- the reading from line k on: right, how many lines; or the fault -/
def rdS (X T : Tv) : Nat → Nat → Bool × Nat
  | 0, k => if (lnS X T k).1 = false then (false, (lnS X T k).2) else if kdS X (tkS X (lnS X T k).2) = 3 then (true, k + 1) else (false, tkS X (lnS X T k).2)
  | f + 1, k => if (lnS X T k).1 = false then (false, (lnS X T k).2) else if kdS X (tkS X (lnS X T k).2) = 3 then (true, k + 1) else if X 1 (tkS X (lnS X T k).2) = 59 then rdS X T f (k + 1) else (false, tkS X (lnS X T k).2)
