def tbits (T : Tv) : Nat := T 5 0 + 2 * T 5 1 + 4 * T 5 2 + 8 * T 5 3
def RepM (T : Tv) (σ : Sg) : Prop := σ.I 13 = nI (T 10 0) ∧ σ.I 14 = nI (T 11 0) ∧ σ.I 15 = nI (tbits T) ∧ (∀ r, r < 8 → ∀ k, k < 3 → σ.A 46 (3 * r + k) = nI (T k r)) ∧ (∀ j, j < 144 → σ.A 47 (2 * j) = nI (T 3 j) ∧ σ.A 47 (2 * j + 1) = nI (T 4 j)) ∧ (∀ b, b < 4 → ∀ k, k < 4 → σ.A 48 (4 * b + k) = nI (T (6 + k) b))
theorem RepM.same {T : Tv} {As Is Js : List Nat} {tk : Bool} {σ s2 : Sg} (h : RepM T σ) (hs : same As Is Js tk σ s2) (hA : 46 ∉ As ∧ 47 ∉ As ∧ 48 ∉ As) (hI : 13 ∉ Is ∧ 14 ∉ Is ∧ 15 ∉ Is) : RepM T s2 := by
  obtain ⟨h1, h2, h3, h4, h5, h6⟩ := h
  exact ⟨by rw [hs.2.1 _ hI.1]; exact h1, by rw [hs.2.1 _ hI.2.1]; exact h2, by rw [hs.2.1 _ hI.2.2]; exact h3, by rw [hs.1 _ hA.1]; exact h4, by rw [hs.1 _ hA.2.1]; exact h5, by rw [hs.1 _ hA.2.2]; exact h6⟩
theorem tbits_lt {T : Tv} (hT : TOk T) : tbits T < 16 := by
  have h := fun b => (hT.2.2.2.2.2.2.1 b).1
  have h0 := h 0; have h1 := h 1; have h2 := h 2; have h3 := h 3
  unfold tbits; omega
theorem tbits_at {T : Tv} (hT : TOk T) {b : Nat} (hb : b < 4) : tbits T / 2 ^ b % 2 = T 5 b := by
  have h := fun b => (hT.2.2.2.2.2.2.1 b).1
  have h0 := h 0; have h1 := h 1; have h2 := h 2; have h3 := h 3
  unfold tbits
  rcases (show b = 0 ∨ b = 1 ∨ b = 2 ∨ b = 3 by omega) with rfl | rfl | rfl | rfl
  · simp only [Nat.pow_zero]; omega
  · simp only [Nat.pow_one]; omega
  · rw [show (2 : Nat) ^ 2 = 4 from rfl]; omega
  · rw [show (2 : Nat) ^ 3 = 8 from rfl]; omega
theorem shr_amt : ∀ k, k < 32 → ((nI k &&& 31).toBitVec.smod 32).toNat = k := by decide +kernel
theorem nI_shr {s k : Nat} (hs : s < 2 ^ 31) (hk : k < 32) : nI s >>> (nI k &&& 31) = nI (s / 2 ^ k) := pk_shrN hs _ k (shr_amt k hk)
theorem nI_and1 {s : Nat} (hs : s < 2 ^ 32) : nI s &&& nI 1 = nI (s % 2) := pk_andN hs 1 (by decide)
theorem nI_shl1 {k : Nat} (hk : k < 31) : nI 1 <<< (nI k &&& 31) = nI (2 ^ k) := by
  have h := pk_shlN (n := 1) (nI k &&& 31) k (shr_amt k (by omega)) (by rw [Nat.one_mul]; exact Nat.pow_lt_pow_right (by decide) (by omega))
  rwa [Nat.one_mul] at h
def inS (v a b : Int32) : Bool := decide (a.toInt ≤ v.toInt ∧ v.toInt ≤ b.toInt)
theorem isL_in (v : Int32) : inS v (nI 0) (nI 5) = isL v := by
  unfold inS isL
  rw [nI_toInt (by decide), nI_toInt (by decide)]
  congr 1
  apply propext
  omega
theorem isH_in (v : Int32) : inS v (nI 0) (nI 23) = isH v := by
  unfold inS isH
  rw [nI_toInt (by decide), nI_toInt (by decide)]
  congr 1
  apply propext
  omega
theorem hasR_in {T : Tv} (hT : TOk T) (v : Int32) : inS v (nI 0) (nI (T 10 0) - nI 1) = hasR T v := by
  have h8 := hT.2.1
  unfold inS hasR
  rw [nI_toInt (by decide), pk_sub_toInt (by omega) (by decide)]
  congr 1
  apply propext
  omega
def gcS (a b c : Nat) : Nat := c / Nat.gcd a b
def lowI (a n i t w : Nat) : Prop := ∃ i2 i5, i2 ≤ i ∧ i5 ≤ i ∧ a = t * (2 ^ i2 * 5 ^ i5) ∧ w = 2 ^ (n - i2) * 5 ^ (n - i5) ∧ (i2 = i ∨ t % 2 ≠ 0) ∧ (i5 = i ∨ t % 5 ≠ 0)
def lowH (a n i t w : Nat) : Prop := ∃ i2 i5, i2 ≤ i + 1 ∧ i5 ≤ i ∧ a = t * (2 ^ i2 * 5 ^ i5) ∧ w = 2 ^ (n - i2) * 5 ^ (n - i5) ∧ (i2 = i + 1 ∨ t % 2 ≠ 0) ∧ (i5 = i ∨ t % 5 ≠ 0)
theorem pow_pred {c k : Nat} (h : 0 < k) : c ^ k = c * c ^ (k - 1) := by
  obtain ⟨j, rfl⟩ : ∃ j, k = j + 1 := ⟨k - 1, by omega⟩
  rw [Nat.pow_succ, Nat.mul_comm]; rfl
theorem low_two {a n i t w : Nat} (hi : i < n) (h : lowI a n i t w) (h2 : t % 2 = 0) : lowH a n i (t / 2) (w / 2) := by
  obtain ⟨i2, i5, h1, h3, ha, hw, e2, e5⟩ := h
  have hi2 : i2 = i := by rcases e2 with e | e; exact e; exact absurd h2 e
  subst hi2
  refine ⟨i2 + 1, i5, by omega, h3, ?_, ?_, Or.inl rfl, ?_⟩
  · rw [ha, Nat.pow_succ]
    have : t = t / 2 * 2 := by omega
    generalize t / 2 = u at this ⊢
    subst this
    simp only [Nat.mul_comm, Nat.mul_left_comm, Nat.mul_assoc]
  · rw [hw, pow_pred (c := 2) (k := n - i2) (by omega), Nat.mul_assoc, Nat.mul_div_cancel_left _ (by decide), show n - i2 - 1 = n - (i2 + 1) by omega]
  · rcases e5 with e | e
    · exact Or.inl e
    · exact Or.inr (by omega)
theorem low_no2 {a n i t w : Nat} (h : lowI a n i t w) (h2 : t % 2 ≠ 0) : lowH a n i t w := by
  obtain ⟨i2, i5, h1, h3, ha, hw, e2, e5⟩ := h
  exact ⟨i2, i5, by omega, h3, ha, hw, Or.inr h2, e5⟩
theorem low_five {a n i t w : Nat} (hi : i < n) (h : lowH a n i t w) (h2 : t % 5 = 0) : lowI a n (i + 1) (t / 5) (w / 5) := by
  obtain ⟨i2, i5, h1, h3, ha, hw, e2, e5⟩ := h
  have hi5 : i5 = i := by rcases e5 with e | e; exact e; exact absurd h2 e
  subst hi5
  refine ⟨i2, i5 + 1, by omega, by omega, ?_, ?_, ?_, Or.inl rfl⟩
  · rw [ha, Nat.pow_succ]
    have : t = t / 5 * 5 := by omega
    generalize t / 5 = u at this ⊢
    subst this
    simp only [Nat.mul_comm, Nat.mul_left_comm, Nat.mul_assoc]
  · rw [hw, pow_pred (c := 5) (k := n - i5) (by omega), Nat.mul_left_comm, Nat.mul_div_cancel_left _ (by decide), show n - i5 - 1 = n - (i5 + 1) by omega]
  · rcases e2 with e | e
    · exact Or.inl e
    · exact Or.inr (by omega)
theorem low_no5 {a n i t w : Nat} (h : lowH a n i t w) (h2 : t % 5 ≠ 0) : lowI a n (i + 1) t w := by
  obtain ⟨i2, i5, h1, h3, ha, hw, e2, e5⟩ := h
  exact ⟨i2, i5, by omega, by omega, ha, hw, e2, Or.inr h2⟩
theorem cop_pow {t c : Nat} (h : Nat.gcd t c = 1) : ∀ k, Nat.gcd t (c ^ k) = 1
  | 0 => by rw [Nat.pow_zero, Nat.gcd_one_right]
  | k + 1 => by
    rw [Nat.pow_succ]
    exact Nat.Coprime.mul_right (cop_pow h k) h
theorem cop2 {t : Nat} (h : t % 2 ≠ 0) : Nat.gcd t 2 = 1 := by
  rw [Nat.gcd_comm, Nat.gcd_rec, show t % 2 = 1 by omega, Nat.gcd_one_left]
theorem cop5 {t : Nat} (h : t % 5 ≠ 0) : Nat.gcd t 5 = 1 := by
  rw [Nat.gcd_comm, Nat.gcd_rec]
  rcases (show t % 5 = 1 ∨ t % 5 = 2 ∨ t % 5 = 3 ∨ t % 5 = 4 by omega) with h | h | h | h <;> rw [h] <;> rfl
theorem low_end {a n t w : Nat} (h : lowI a n n t w) : t = gcS a (10 ^ n) a ∧ w = gcS a (10 ^ n) (10 ^ n) := by
  obtain ⟨i2, i5, h1, h3, ha, hw, e2, e5⟩ := h
  have hc : Nat.gcd t w = 1 := by
    rw [hw]
    refine Nat.Coprime.mul_right ?_ ?_
    · rcases e2 with e | e
      · rw [e, Nat.sub_self, Nat.pow_zero]; exact Nat.gcd_one_right _
      · exact cop_pow (cop2 e) _
    · rcases e5 with e | e
      · rw [e, Nat.sub_self, Nat.pow_zero]; exact Nat.gcd_one_right _
      · exact cop_pow (cop5 e) _
  have hd : 0 < 2 ^ i2 * 5 ^ i5 := Nat.mul_pos (Nat.pow_pos (by decide)) (Nat.pow_pos (by decide))
  have hp : (10 : Nat) ^ n = w * (2 ^ i2 * 5 ^ i5) := by
    rw [hw, show (10 : Nat) = 2 * 5 from rfl, Nat.mul_pow]
    have e1 : (2 : Nat) ^ n = 2 ^ (n - i2) * 2 ^ i2 := by rw [← Nat.pow_add]; congr 1; omega
    have e3 : (5 : Nat) ^ n = 5 ^ (n - i5) * 5 ^ i5 := by rw [← Nat.pow_add]; congr 1; omega
    rw [e1, e3]
    simp only [Nat.mul_comm, Nat.mul_left_comm, Nat.mul_assoc]
  have hg : Nat.gcd a (10 ^ n) = 2 ^ i2 * 5 ^ i5 := by
    rw [ha, hp, Nat.gcd_mul_right, hc, Nat.one_mul]
  unfold gcS
  rw [hg]
  refine ⟨?_, ?_⟩
  · rw [ha, Nat.mul_div_cancel _ hd]
  · rw [hp, Nat.mul_div_cancel _ hd]
theorem low_start (a n : Nat) : lowI a n 0 a (10 ^ n) := ⟨0, 0, Nat.le_refl _, Nat.le_refl _, by simp, by rw [Nat.sub_zero, ← Nat.mul_pow], Or.inl rfl, Or.inl rfl⟩
theorem low_le {a n i t w : Nat} (h : lowI a n i t w) (hn : n ≤ 8) (ha : a ≤ 100000000) : t ≤ 100000000 ∧ w ≤ 100000000 ∧ 0 < w := by
  obtain ⟨i2, i5, h1, h3, ha', hw, e2, e5⟩ := h
  have hd : 0 < 2 ^ i2 * 5 ^ i5 := Nat.mul_pos (Nat.pow_pos (by decide)) (Nat.pow_pos (by decide))
  refine ⟨Nat.le_trans ?_ ha, ?_, by rw [hw]; exact Nat.mul_pos (Nat.pow_pos (by decide)) (Nat.pow_pos (by decide))⟩
  · rw [ha']; exact Nat.le_mul_of_pos_right _ hd
  · rw [hw]
    have a1 : 2 ^ (n - i2) ≤ 2 ^ 8 := Nat.pow_le_pow_right (by decide) (by omega)
    have a2 : 5 ^ (n - i5) ≤ 5 ^ 8 := Nat.pow_le_pow_right (by decide) (by omega)
    exact Nat.le_trans (Nat.mul_le_mul a1 a2) (by decide)
theorem lowH_le {a n i t w : Nat} (h : lowH a n i t w) (hn : n ≤ 8) (ha : a ≤ 100000000) : t ≤ 100000000 ∧ w ≤ 100000000 ∧ 0 < w := by
  obtain ⟨i2, i5, h1, h3, ha', hw, e2, e5⟩ := h
  have hd : 0 < 2 ^ i2 * 5 ^ i5 := Nat.mul_pos (Nat.pow_pos (by decide)) (Nat.pow_pos (by decide))
  refine ⟨Nat.le_trans ?_ ha, ?_, by rw [hw]; exact Nat.mul_pos (Nat.pow_pos (by decide)) (Nat.pow_pos (by decide))⟩
  · rw [ha']; exact Nat.le_mul_of_pos_right _ hd
  · rw [hw]
    have a1 : 2 ^ (n - i2) ≤ 2 ^ 8 := Nat.pow_le_pow_right (by decide) (by omega)
    have a2 : 5 ^ (n - i5) ≤ 5 ^ 8 := Nat.pow_le_pow_right (by decide) (by omega)
    exact Nat.le_trans (Nat.mul_le_mul a1 a2) (by decide)
