abbrev Tv : Type := Nat → Nat → Nat
/-- what is told: 0 ways, 1 lengths, 2 kinds, 3 ways of wind, 4 strengths, 5 told, 6 weights, 7 cords, 8 kites, 9 freights; 10 how many reaches, 11 still -/
def TOk (T : Tv) : Prop := (∀ k i, T k i < 256) ∧ T 10 0 ≤ 8 ∧ T 11 0 ≤ 9 ∧ (∀ i, T 0 i ≤ 7 ∧ T 1 i ≤ 20 ∧ T 2 i ≤ 2) ∧ (∀ i, i < T 10 0 → 1 ≤ T 1 i) ∧ (∀ j, T 3 j ≤ 7 ∧ T 4 j ≤ 9) ∧ (∀ b, T 5 b ≤ 1 ∧ T 6 b ≤ 60 ∧ T 7 b ≤ 5 ∧ T 8 b ≤ 4 ∧ T 9 b ≤ 99) ∧ (∀ b, T 5 b = 1 → 1 ≤ T 6 b ∧ 1 ≤ T 7 b)
def RepC (T : Tv) (σ : Sg) : Prop := σ.I 0 = nI (T 10 0) ∧ σ.I 1 = nI (T 11 0) ∧ ∀ k, k < 10 → ∀ i, i < lenA k → σ.A k i = nI (T k i)
def offS (a b : Nat) : Nat := if b < a then a - b else b - a
def awayS (a b : Nat) : Nat := if 4 < offS a b then 8 - offS a b else offS a b
def pull0 (k w s : Nat) : Nat := if w = 0 then 10 * s else if w = 1 then 7 * s else if w = 2 ∧ 2 < k then 5 * s else 0
def pullS (k w s : Nat) : Nat := if k = 1 then 2 * pull0 k w s else if k = 4 then pull0 k w s / 2 else pull0 k w s
def tmN : List Nat := [10, 7, 0, 0, 0, 0, 0, 7]
def slN : List Nat := [10, 7, 5, 0, 0, 0, 5, 7]
def pullM (k t s : Nat) : Nat := s * (if k = 3 ∨ k = 4 then slN.getD t 0 else tmN.getD t 0)
def pullT (k t s : Nat) : Nat := if k = 1 then 2 * pullM k t s else if k = 4 then pullM k t s / 2 else pullM k t s
theorem tms_nat : ∀ t, t < 8 → tmsL.getD t 0 = nI (tmN.getD t 0) ∧ tmN.getD t 0 ≤ 10 := by decide +kernel
theorem sail_nat : ∀ t, t < 8 → sailL.getD t 0 = nI (slN.getD t 0) ∧ slN.getD t 0 ≤ 10 := by decide +kernel
theorem turn_tab : ∀ a, a < 8 → ∀ b, b < 8 → tmN.getD ((a + 8 - b) % 8) 0 = (if awayS a b = 0 then 10 else if awayS a b = 1 then 7 else 0) ∧ slN.getD ((a + 8 - b) % 8) 0 = (if awayS a b = 0 then 10 else if awayS a b = 1 then 7 else if awayS a b = 2 then 5 else 0) := by decide +kernel
theorem pullT_S {a b k s : Nat} (ha : a < 8) (hb : b < 8) (hk : k ≤ 4) : pullT k ((a + 8 - b) % 8) s = pullS k (awayS a b) s := by
  obtain ⟨h1, h2⟩ := turn_tab a ha b hb
  have key : pullM k ((a + 8 - b) % 8) s = pull0 k (awayS a b) s := by
    unfold pullM pull0
    rw [h1, h2]
    have h3 : (k = 3 ∨ k = 4) ↔ 2 < k := by omega
    by_cases q0 : awayS a b = 0
    · simp only [q0, if_true, ite_self]; rw [Nat.mul_comm]
    · by_cases q1 : awayS a b = 1
      · simp only [q1, if_true, ite_self]; rw [if_neg (by decide), if_neg (by decide), Nat.mul_comm]
      · by_cases q2 : awayS a b = 2
        · by_cases q3 : 2 < k
          · rw [if_pos (h3.mpr q3), if_neg q0, if_neg q1, if_pos q2, if_neg q0, if_neg q1, if_pos ⟨q2, q3⟩, Nat.mul_comm]
          · rw [if_neg (fun z => q3 (h3.mp z)), if_neg q0, if_neg q1, if_neg q0, if_neg q1, if_neg (fun z => q3 z.2), Nat.mul_zero]
        · rw [if_neg q0, if_neg q1, if_neg q2, if_neg q0, if_neg q1, ite_self, if_neg q0, if_neg q1, if_neg (fun z => q2 z.1), Nat.mul_zero]
  unfold pullT pullS
  rw [key]
def stepS (T : Tv) (b r l h : Nat) : Nat := if T 2 r = 1 ∧ 1 < l then 0 else pullS (T 8 b) (awayS (T 3 (24 * l + h)) (T 0 r)) (T 4 (24 * l + h)) / T 6 b
def goS (T : Tv) (b p l h : Nat) : Nat :=
  if 160 ≤ p then 160 else if p % 20 + stepS T b (p / 20) l h < T 1 (p / 20) then 20 * (p / 20) + (p % 20 + stepS T b (p / 20) l h)
  else if T 2 (p / 20) = 2 ∧ T 11 0 < T 4 h then 20 * (p / 20) + T 1 (p / 20) - 1
  else if p / 20 + 1 < T 10 0 then 20 * (p / 20) + 20 else 160
def cordS (T : Tv) (b : Nat) : Nat := if T 8 b = 2 then 1 else T 7 b
def startS (T : Tv) : Nat := if T 10 0 = 0 then 160 else 0
def sumS (f : Nat → Nat) : Nat → Nat | 0 => 0 | n + 1 => sumS f n + f n
def hasR (T : Tv) (v : Int32) : Bool := decide (0 ≤ v.toInt ∧ v.toInt < T 10 0)
def hasB (T : Tv) (v : Int32) : Bool := decide (0 ≤ v.toInt ∧ v.toInt < 4 ∧ T 5 v.toInt.toNat = 1)
theorem pull0_le {k w s : Nat} (hs : s ≤ 9) : pull0 k w s ≤ 90 := by unfold pull0; split; omega; split; omega; split; omega; omega
theorem pullS_le {k w s : Nat} (hs : s ≤ 9) : pullS k w s ≤ 180 := by
  have := pull0_le (k := k) (w := w) hs
  unfold pullS; split; omega; split; omega; omega
theorem stepS_le {T : Tv} (hT : TOk T) (b r l h : Nat) : stepS T b r l h ≤ 180 := by
  unfold stepS
  split
  · omega
  · exact Nat.le_trans (Nat.div_le_self _ _) (pullS_le (hT.2.2.2.2.2.1 _).2)
theorem ix_of {v : Int32} {n : Nat} (h0 : ¬ v < 0) (h1 : ¬ nI n ≤ v) (hn : n < 2 ^ 31) : ∃ b, b < n ∧ v = nI b := by
  obtain ⟨j, hj, rfl⟩ := nI_of h0
  exact ⟨j, Nat.lt_of_not_le (fun z => h1 (nI_le z hj)), rfl⟩
theorem neg_toInt {v : Int32} (h : v < 0) : v.toInt < 0 := by simpa using Int32.lt_iff_toInt_lt.mp h
theorem ge_toInt {v : Int32} {n : Nat} (h : nI n ≤ v) (hn : n < 2 ^ 31) : (n : Int) ≤ v.toInt := by
  have := Int32.le_iff_toInt_le.mp h
  rwa [nI_toInt hn] at this
theorem hasR_nI {T : Tv} {r : Nat} (hr : r < 2 ^ 31) : hasR T (nI r) = decide (r < T 10 0) := by
  unfold hasR
  rw [nI_toInt hr]
  congr 1
  apply propext
  omega
theorem hasB_nI {T : Tv} {b : Nat} (hb : b < 4) : hasB T (nI b) = decide (T 5 b = 1) := by
  unfold hasB
  rw [nI_toInt (by omega), Int.toNat_natCast]
  congr 1
  apply propext
  omega
theorem hasB_t {T : Tv} {v : Int32} (h : hasB T v = true) : ∃ b, b < 4 ∧ v = nI b ∧ T 5 b = 1 := by
  obtain ⟨h1, h2, h3⟩ := of_decide_eq_true h
  have h0 : ¬ v < 0 := fun z => by have := neg_toInt z; omega
  obtain ⟨j, hj, rfl⟩ := nI_of h0
  rw [nI_toInt hj] at h2 h3
  exact ⟨j, by omega, rfl, by simpa using h3⟩
theorem hasR_t {T : Tv} {v : Int32} (h : hasR T v = true) : ∃ r, r < T 10 0 ∧ v = nI r := by
  obtain ⟨h1, h2⟩ := of_decide_eq_true h
  have h0 : ¬ v < 0 := fun z => by have := neg_toInt z; omega
  obtain ⟨j, hj, rfl⟩ := nI_of h0
  rw [nI_toInt hj] at h2
  exact ⟨j, by omega, rfl⟩
theorem turn_and {a b : Nat} (ha : a < 8) (hb : b < 8) : (nI a - nI b) &&& nI 7 = nI ((a + 8 - b) % 8) := by
  have key : ∀ a, a < 8 → ∀ b, b < 8 → (nI a - nI b) &&& nI 7 = nI ((a + 8 - b) % 8) := by decide +kernel
  exact key a ha b hb
