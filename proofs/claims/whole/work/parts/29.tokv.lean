def lvV (X : Tv) (a j : Nat) : Int64 := if j ≤ 9 then lN (wvS (lvw X a) j) else -4
def tokA (X : Tv) (a e : Nat) : Int64 := if kdS X a = 3 then -2 else if kdS X a = 0 then lvV X a (e - a) else if kdS X a = 1 then (if e - a ≤ 2 then -1 else -4) else (if X 1 a = 59 then -3 else -4)
def tokV (X : Tv) (p : Nat) : Int64 := tokA X (tkS X p) (teS X p)
theorem wvS_lt {f : Nat → Nat} : ∀ (j : Nat), (∀ i, i < j → f i ≤ 26) → wvS f j < 27 ^ j
  | 0, _ => Nat.zero_lt_one
  | j + 1, h => by
    have h1 := wvS_lt j (fun i hi => h i (by omega))
    have h2 := h j (by omega)
    rw [wvS, Nat.pow_succ]
    omega
theorem letters {X : Tv} {a : Nat} (hk : kdS X a = 0) {i : Nat} (hi : i < teA X a - a) : 97 ≤ X 1 (a + i) ∧ X 1 (a + i) ≤ 122 := by
  have e : teA X a = rnS X isLe a := by unfold teA; rw [if_pos hk]
  rw [e] at hi
  exact of_decide_eq_true (rnS_in (X := X) (c := isLe) (p := a) (q := a + i) (by omega) (by omega)).2
theorem lvV_nat {X : Tv} {a : Nat} (hk : kdS X a = 0) (h9 : teA X a - a ≤ 9) : wvS (lvw X a) (teA X a - a) < 2 ^ 63 := by
  have h := wvS_lt (f := lvw X a) (teA X a - a) (fun i hi => by have := letters hk hi; unfold lvw; omega)
  have h2 : 27 ^ (teA X a - a) ≤ 27 ^ 9 := Nat.pow_le_pow_right (by decide) h9
  exact Nat.lt_of_lt_of_le h (Nat.le_trans h2 (by decide))
theorem lN_pos {n : Nat} (h : n < 2 ^ 63) {v : Int64} (hv : v.toInt < 0) : lN n ≠ v := fun z => by
  have := pk_lT h
  rw [z] at this
  omega
theorem tokV_n (X : Tv) (p : Nat) : tokV X p = -1 ↔ isN X p = true := by
  unfold tokV tokA isN
  have hk := kdS_le X (tkS X p)
  by_cases k3 : kdS X (tkS X p) = 3
  · rw [if_pos k3, decide_eq_false (by omega)]
    exact ⟨fun z => absurd z (by decide), fun z => by cases z⟩
  · rw [if_neg k3]
    by_cases k0 : kdS X (tkS X p) = 0
    · rw [if_pos k0, decide_eq_false (by omega)]
      refine ⟨fun z => ?_, fun z => by cases z⟩
      exfalso
      unfold lvV at z
      by_cases h9 : teS X p - tkS X p ≤ 9
      · rw [if_pos h9] at z
        exact lN_pos (lvV_nat k0 h9) (by decide) z
      · rw [if_neg h9] at z
        exact absurd z (by decide)
    · rw [if_neg k0]
      by_cases k1 : kdS X (tkS X p) = 1
      · rw [if_pos k1]
        by_cases h2 : teS X p - tkS X p ≤ 2
        · rw [if_pos h2, decide_eq_true ⟨k1, h2⟩]
          exact ⟨fun _ => rfl, fun _ => rfl⟩
        · rw [if_neg h2, decide_eq_false (fun z => h2 z.2)]
          exact ⟨fun z => absurd z (by decide), fun z => by cases z⟩
      · rw [if_neg k1, decide_eq_false (fun z => k1 z.1)]
        refine ⟨fun z => ?_, fun z => by cases z⟩
        exfalso
        split at z <;> exact absurd z (by decide)
theorem codeN_lt : ∀ i, i < 13 → codeN i < 2 ^ 62 := by decide +kernel
theorem tokV_w (X : Tv) (p : Nat) {i : Nat} (hi : i < 13) : tokV X p = lN (codeN i) ↔ tokIs X (tkS X p) (teS X p) i = true := by
  have hc := codeN_lt i hi
  by_cases k0 : kdS X (tkS X p) = 0
  · have e : tokIs X (tkS X p) (teS X p) i = decide (teS X p - tkS X p ≤ 9 ∧ wvS (lvw X (tkS X p)) (teS X p - tkS X p) = codeN i) := tokIs_code hi k0
    rw [e]
    unfold tokV tokA lvV
    rw [if_neg (by omega), if_pos k0]
    by_cases h9 : teS X p - tkS X p ≤ 9
    · rw [if_pos h9, pk_lEQ (show wvS (lvw X (tkS X p)) (teS X p - tkS X p) < 2 ^ 63 from lvV_nat k0 h9) (show codeN i < 2 ^ 63 by omega)]
      exact ⟨fun z => decide_eq_true ⟨h9, z⟩, fun z => (of_decide_eq_true z).2⟩
    · rw [if_neg h9]
      exact ⟨fun z => absurd z.symm (lN_pos (by omega) (by decide)), fun z => absurd (of_decide_eq_true z).1 h9⟩
  · have e : tokIs X (tkS X p) (teS X p) i = false := tokIs_no hi k0
    rw [e]
    refine ⟨fun z => ?_, fun z => by cases z⟩
    exfalso
    have z2 := z.symm
    revert z2
    unfold tokV tokA
    rw [if_neg k0]
    split
    · exact lN_pos (by omega) (by decide)
    · split
      · split <;> exact lN_pos (by omega) (by decide)
      · split <;> exact lN_pos (by omega) (by decide)
theorem tokV_end (X : Tv) (p : Nat) : tokV X p = -2 ↔ kdS X (tkS X p) = 3 := by
  unfold tokV tokA
  by_cases k3 : kdS X (tkS X p) = 3
  · rw [if_pos k3]; exact ⟨fun _ => k3, fun _ => rfl⟩
  · rw [if_neg k3]
    refine ⟨fun z => ?_, fun z => absurd z k3⟩
    exfalso
    revert z
    split
    · rename_i k0
      unfold lvV
      split
      · rename_i h9
        exact lN_pos (lvV_nat k0 h9) (by decide)
      · decide
    · split
      · split <;> decide
      · split <;> decide
theorem tokV_semi (X : Tv) (p : Nat) : tokV X p = -3 ↔ (kdS X (tkS X p) ≠ 3 ∧ X 1 (tkS X p) = 59) := by
  have hk := kdS_le X (tkS X p)
  by_cases k3 : kdS X (tkS X p) = 3
  · unfold tokV tokA
    rw [if_pos k3]
    exact ⟨fun z => absurd z (by decide), fun z => absurd k3 z.1⟩
  · by_cases k0 : kdS X (tkS X p) = 0
    · have hb := of_decide_eq_true (kd_sameLe.mpr k0).2
      unfold tokV tokA
      rw [if_neg k3, if_pos k0]
      refine ⟨fun z => ?_, fun z => by omega⟩
      exfalso
      revert z
      unfold lvV
      split
      · rename_i h9
        exact lN_pos (lvV_nat k0 h9) (by decide)
      · decide
    · by_cases k1 : kdS X (tkS X p) = 1
      · have hb := of_decide_eq_true (kd_sameDi.mpr k1).2
        unfold tokV tokA
        rw [if_neg k3, if_neg k0, if_pos k1]
        refine ⟨fun z => ?_, fun z => by omega⟩
        exfalso
        revert z
        split <;> decide
      · unfold tokV tokA
        rw [if_neg k3, if_neg k0, if_neg k1]
        by_cases h59 : X 1 (tkS X p) = 59
        · rw [if_pos h59]; exact ⟨fun _ => ⟨k3, h59⟩, fun _ => rfl⟩
        · rw [if_neg h59]; exact ⟨fun z => absurd z (by decide), fun z => absurd z.2 h59⟩
theorem word_t {X : Tv} {p : Nat} : ∀ {j : Nat}, j < 8 → wordS X p = j → tokIs X (tkS X p) (teS X p) j = true := by
  intro j hj h
  unfold wordS at h
  by_cases h0 : tokIs X (tkS X p) (teS X p) 0 = true
  · rw [if_pos h0] at h; subst h; exact h0
  · rw [if_neg h0] at h
    by_cases h1 : tokIs X (tkS X p) (teS X p) 1 = true
    · rw [if_pos h1] at h; subst h; exact h1
    · rw [if_neg h1] at h
      by_cases h2 : tokIs X (tkS X p) (teS X p) 2 = true
      · rw [if_pos h2] at h; subst h; exact h2
      · rw [if_neg h2] at h
        by_cases h3 : tokIs X (tkS X p) (teS X p) 3 = true
        · rw [if_pos h3] at h; subst h; exact h3
        · rw [if_neg h3] at h
          by_cases h4 : tokIs X (tkS X p) (teS X p) 4 = true
          · rw [if_pos h4] at h; subst h; exact h4
          · rw [if_neg h4] at h
            by_cases h5 : tokIs X (tkS X p) (teS X p) 5 = true
            · rw [if_pos h5] at h; subst h; exact h5
            · rw [if_neg h5] at h
              by_cases h6 : tokIs X (tkS X p) (teS X p) 6 = true
              · rw [if_pos h6] at h; subst h; exact h6
              · rw [if_neg h6] at h
                by_cases h7 : tokIs X (tkS X p) (teS X p) 7 = true
                · rw [if_pos h7] at h; subst h; exact h7
                · rw [if_neg h7] at h; omega
theorem word_no {X : Tv} {p : Nat} (h : wordS X p = 8) : ∀ j, j < 8 → ¬ tokIs X (tkS X p) (teS X p) j = true := by
  unfold wordS at h
  by_cases h0 : tokIs X (tkS X p) (teS X p) 0 = true
  · rw [if_pos h0] at h; omega
  · rw [if_neg h0] at h
    by_cases h1 : tokIs X (tkS X p) (teS X p) 1 = true
    · rw [if_pos h1] at h; omega
    · rw [if_neg h1] at h
      by_cases h2 : tokIs X (tkS X p) (teS X p) 2 = true
      · rw [if_pos h2] at h; omega
      · rw [if_neg h2] at h
        by_cases h3 : tokIs X (tkS X p) (teS X p) 3 = true
        · rw [if_pos h3] at h; omega
        · rw [if_neg h3] at h
          by_cases h4 : tokIs X (tkS X p) (teS X p) 4 = true
          · rw [if_pos h4] at h; omega
          · rw [if_neg h4] at h
            by_cases h5 : tokIs X (tkS X p) (teS X p) 5 = true
            · rw [if_pos h5] at h; omega
            · rw [if_neg h5] at h
              by_cases h6 : tokIs X (tkS X p) (teS X p) 6 = true
              · rw [if_pos h6] at h; omega
              · rw [if_neg h6] at h
                by_cases h7 : tokIs X (tkS X p) (teS X p) 7 = true
                · rw [if_pos h7] at h; omega
                · intro j hj
                  rcases (show j = 0 ∨ j = 1 ∨ j = 2 ∨ j = 3 ∨ j = 4 ∨ j = 5 ∨ j = 6 ∨ j = 7 by omega) with rfl | rfl | rfl | rfl | rfl | rfl | rfl | rfl <;> assumption
theorem kite_t {X : Tv} {p : Nat} : ∀ {j : Nat}, j < 5 → kiteS X p = j → tokIs X (tkS X p) (teS X p) (8 + j) = true := by
  intro j hj h
  unfold kiteS at h
  by_cases h0 : tokIs X (tkS X p) (teS X p) 8 = true
  · rw [if_pos h0] at h; subst h; exact h0
  · rw [if_neg h0] at h
    by_cases h1 : tokIs X (tkS X p) (teS X p) 9 = true
    · rw [if_pos h1] at h; subst h; exact h1
    · rw [if_neg h1] at h
      by_cases h2 : tokIs X (tkS X p) (teS X p) 10 = true
      · rw [if_pos h2] at h; subst h; exact h2
      · rw [if_neg h2] at h
        by_cases h3 : tokIs X (tkS X p) (teS X p) 11 = true
        · rw [if_pos h3] at h; subst h; exact h3
        · rw [if_neg h3] at h
          by_cases h4 : tokIs X (tkS X p) (teS X p) 12 = true
          · rw [if_pos h4] at h; subst h; exact h4
          · rw [if_neg h4] at h; omega
theorem kite_no {X : Tv} {p : Nat} (h : kiteS X p = 5) : ∀ j, 8 ≤ j → j < 13 → ¬ tokIs X (tkS X p) (teS X p) j = true := by
  unfold kiteS at h
  by_cases h0 : tokIs X (tkS X p) (teS X p) 8 = true
  · rw [if_pos h0] at h; omega
  · rw [if_neg h0] at h
    by_cases h1 : tokIs X (tkS X p) (teS X p) 9 = true
    · rw [if_pos h1] at h; omega
    · rw [if_neg h1] at h
      by_cases h2 : tokIs X (tkS X p) (teS X p) 10 = true
      · rw [if_pos h2] at h; omega
      · rw [if_neg h2] at h
        by_cases h3 : tokIs X (tkS X p) (teS X p) 11 = true
        · rw [if_pos h3] at h; omega
        · rw [if_neg h3] at h
          by_cases h4 : tokIs X (tkS X p) (teS X p) 12 = true
          · rw [if_pos h4] at h; omega
          · intro j hj hj2
            rcases (show j = 8 ∨ j = 9 ∨ j = 10 ∨ j = 11 ∨ j = 12 by omega) with rfl | rfl | rfl | rfl | rfl <;> assumption
theorem codes : codeN 0 = 307058 ∧ codeN 1 = 10986913 ∧ codeN 2 = 247223 ∧ codeN 3 = 3427 ∧ codeN 4 = 459652 ∧ codeN 5 = 1095881 ∧ codeN 6 = 385240 ∧ codeN 7 = 10497936 ∧ codeN 8 = 8740238 ∧ codeN 9 = 230304361 ∧ codeN 10 = 383153 ∧ codeN 11 = 374961 ∧ codeN 12 = 405095 := by decide +kernel
theorem inS_Le {b : Nat} (hb : b < 256) : inS (nI b) (nI 97) (nI 122) = isLe b := inS_nI (by omega) (by decide) (by decide)
theorem inS_Di {b : Nat} (hb : b < 256) : inS (nI b) (nI 48) (nI 57) = isDi b := inS_nI (by omega) (by decide) (by decide)
