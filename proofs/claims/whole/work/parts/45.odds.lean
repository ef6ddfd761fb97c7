/-- the odds of a row of layers: hours left, the hour, the place -/
def rowV (T : Tv) (b p : Nat) (ls : Nat → Nat) : Nat → Nat → Nat → Nat
  | 0, _, q => if q = 160 then 1 else 0
  | k + 1, h, q => p * rowV T b p ls k (h + 1) q + (10 - p) * rowV T b p ls k (h + 1) (goS T b q (ls h) h)
theorem rowV_eq {T : Tv} {b p : Nat} {ls ls' : Nat → Nat} : ∀ (k h q : Nat), (∀ i, h ≤ i → i < h + k → ls i = ls' i) → rowV T b p ls k h q = rowV T b p ls' k h q
  | 0, h, q, _ => rfl
  | k + 1, h, q, he => by
    rw [rowV, rowV, he h (Nat.le_refl _) (by omega), rowV_eq k (h + 1) q (fun i h1 h2 => he i (by omega) (by omega)), rowV_eq k (h + 1) _ (fun i h1 h2 => he i (by omega) (by omega))]
theorem ten_mix {p a c M : Nat} (hp : p ≤ 10) (ha : a ≤ M) (hc : c ≤ M) : p * a + (10 - p) * c ≤ M * 10 := by
  have h1 : p * a ≤ p * M := Nat.mul_le_mul_left _ ha
  have h2 : (10 - p) * c ≤ (10 - p) * M := Nat.mul_le_mul_left _ hc
  have h3 : p * M + (10 - p) * M = 10 * M := by rw [← Nat.add_mul]; congr 1; omega
  omega
theorem rowV_le {T : Tv} {b p : Nat} {ls : Nat → Nat} (hp : p ≤ 10) : ∀ (k h q : Nat), rowV T b p ls k h q ≤ 10 ^ k
  | 0, h, q => by rw [rowV]; split <;> simp
  | k + 1, h, q => by
    rw [rowV, Nat.pow_succ]
    exact ten_mix hp (rowV_le hp k _ _) (rowV_le hp k _ _)
theorem pow8 {k : Nat} (h : k ≤ 8) : 10 ^ k ≤ 100000000 := by
  have : (10 : Nat) ^ k ≤ 10 ^ 8 := Nat.pow_le_pow_right (by decide) h
  omega
def plD (T : Tv) (b : Nat) (ls : Nat → Nat) : Nat → Nat → Nat
  | 0, _ => startS T
  | d + 1, j => if j % 2 = 0 then plD T b ls d (j / 2) else goS T b (plD T b ls d (j / 2)) (ls d) d
def chD (p : Nat) : Nat → Nat → Nat
  | 0, _ => 1
  | d + 1, j => chD p d (j / 2) * (if j % 2 = 0 then p else 10 - p)
theorem plD_eq {T : Tv} {b : Nat} {ls ls' : Nat → Nat} : ∀ (d j : Nat), (∀ i, i < d → ls i = ls' i) → plD T b ls d j = plD T b ls' d j
  | 0, j, _ => rfl
  | d + 1, j, he => by rw [plD, plD, he d (by omega), plD_eq d _ (fun i hi => he i (by omega))]
theorem plD_valid {T : Tv} (hT : TOk T) {b : Nat} {ls : Nat → Nat} : ∀ (d j : Nat), validP T (plD T b ls d j)
  | 0, j => validP_start hT
  | d + 1, j => by
    rw [plD]
    split
    · exact plD_valid hT d _
    · exact validP_go hT (plD_valid hT d _) _ _ _
theorem sum_eq {f f' : Nat → Nat} : ∀ n, (∀ i, i < n → f i = f' i) → sumS f n = sumS f' n
  | 0, _ => rfl
  | n + 1, h => by rw [sumS, sumS, sum_eq n (fun i hi => h i (by omega)), h n (by omega)]
theorem sum_two (f : Nat → Nat) : ∀ n, sumS f (2 * n) = sumS (fun j => f (2 * j) + f (2 * j + 1)) n
  | 0 => rfl
  | n + 1 => by rw [show 2 * (n + 1) = 2 * n + 1 + 1 by omega, sumS, sumS, sum_two f n, sumS, Nat.add_assoc]
theorem sum_app (f : Nat → Nat) (a : Nat) : ∀ n, sumS f (a + n) = sumS f a + sumS (fun i => f (a + i)) n
  | 0 => rfl
  | n + 1 => by rw [← Nat.add_assoc, sumS, sum_app f a n, sumS, Nat.add_assoc]
theorem sum_add (f g : Nat → Nat) : ∀ n, sumS f n + sumS g n = sumS (fun i => f i + g i) n
  | 0 => rfl
  | n + 1 => by rw [sumS, sumS, sumS, ← sum_add f g n]; omega
theorem tree_sum {T : Tv} {b p : Nat} {ls : Nat → Nat} {n : Nat} : ∀ d, d ≤ n → sumS (fun j => chD p d j * rowV T b p ls (n - d) d (plD T b ls d j)) (2 ^ d) = rowV T b p ls n 0 (startS T)
  | 0, _ => by
    show 0 + chD p 0 0 * rowV T b p ls (n - 0) 0 (plD T b ls 0 0) = _
    rw [chD, plD, Nat.zero_add, Nat.one_mul, Nat.sub_zero]
  | d + 1, hd => by
    rw [Nat.pow_succ, Nat.mul_comm, sum_two, ← tree_sum d (by omega)]
    refine sum_eq _ (fun j _ => ?_)
    have e1 : 2 * j % 2 = 0 := by omega
    have e2 : 2 * j / 2 = j := by omega
    have e3 : ¬ (2 * j + 1) % 2 = 0 := by omega
    have e4 : (2 * j + 1) / 2 = j := by omega
    show chD p (d + 1) (2 * j) * rowV T b p ls (n - (d + 1)) (d + 1) (plD T b ls (d + 1) (2 * j)) + chD p (d + 1) (2 * j + 1) * rowV T b p ls (n - (d + 1)) (d + 1) (plD T b ls (d + 1) (2 * j + 1)) = _
    rw [chD, chD, plD, plD, if_pos e1, if_pos e1, if_neg e3, if_neg e3, e2, e4, show n - d = (n - (d + 1)) + 1 by omega, rowV, Nat.mul_add, Nat.mul_assoc, Nat.mul_assoc]
theorem leaf_sum {T : Tv} {b p : Nat} {ls : Nat → Nat} (n : Nat) : sumS (fun j => if plD T b ls n j = 160 then chD p n j else 0) (2 ^ n) = rowV T b p ls n 0 (startS T) := by
  rw [← tree_sum (p := p) n (Nat.le_refl _)]
  refine sum_eq _ (fun j _ => ?_)
  rw [Nat.sub_self, rowV]
  split
  · rw [Nat.mul_one]
  · rw [Nat.mul_zero]
def plB (T : Tv) (b : Nat) (ls : Nat → Nat) (s : Nat) : Nat → Nat
  | 0 => startS T
  | h + 1 => if s / 2 ^ h % 2 = 1 then plB T b ls s h else goS T b (plB T b ls s h) (ls h) h
def chB (p s : Nat) : Nat → Nat
  | 0 => 1
  | h + 1 => chB p s h * (if s / 2 ^ h % 2 = 1 then p else 10 - p)
theorem bit_low {s k i : Nat} (hi : i < k) : (2 ^ k + s) / 2 ^ i % 2 = s / 2 ^ i % 2 := by
  obtain ⟨c, rfl⟩ : ∃ c, k = i + (c + 1) := ⟨k - i - 1, by omega⟩
  have hp : 0 < 2 ^ i := Nat.pow_pos (by decide)
  rw [Nat.pow_add, Nat.mul_add_div hp, Nat.pow_succ]
  omega
theorem bit_top {s k : Nat} (hs : s < 2 ^ k) : (2 ^ k + s) / 2 ^ k % 2 = 1 ∧ s / 2 ^ k % 2 = 0 := by
  have hp : 0 < 2 ^ k := Nat.pow_pos (by decide)
  have h1 : s / 2 ^ k = 0 := Nat.div_eq_of_lt hs
  have h2 : (2 ^ k + s) / 2 ^ k = 1 := by
    have := Nat.mul_add_div hp 1 s
    rw [Nat.mul_one, h1] at this
    exact this
  rw [h1, h2]
  exact ⟨rfl, rfl⟩
theorem plB_low {T : Tv} {b : Nat} {ls : Nat → Nat} {s k : Nat} : ∀ i, i ≤ k → plB T b ls (2 ^ k + s) i = plB T b ls s i
  | 0, _ => rfl
  | i + 1, hi => by rw [plB, plB, bit_low (by omega), plB_low i (by omega)]
theorem chB_low {p s k : Nat} : ∀ i, i ≤ k → chB p (2 ^ k + s) i = chB p s i
  | 0, _ => rfl
  | i + 1, hi => by rw [chB, chB, bit_low (by omega), chB_low i (by omega)]
theorem set_sum {T : Tv} {b p : Nat} {ls : Nat → Nat} {n : Nat} : ∀ k, k ≤ n → sumS (fun s => chB p s k * rowV T b p ls (n - k) k (plB T b ls s k)) (2 ^ k) = rowV T b p ls n 0 (startS T)
  | 0, _ => by
    show 0 + chB p 0 0 * rowV T b p ls (n - 0) 0 (plB T b ls 0 0) = _
    rw [chB, plB, Nat.zero_add, Nat.one_mul, Nat.sub_zero]
  | k + 1, hk => by
    rw [Nat.pow_succ, Nat.mul_two, sum_app, sum_add, ← set_sum k (by omega)]
    refine sum_eq _ (fun s hs => ?_)
    obtain ⟨e1, e2⟩ := bit_top hs
    show chB p s (k + 1) * rowV T b p ls (n - (k + 1)) (k + 1) (plB T b ls s (k + 1)) + chB p (2 ^ k + s) (k + 1) * rowV T b p ls (n - (k + 1)) (k + 1) (plB T b ls (2 ^ k + s) (k + 1)) = _
    rw [chB, chB, plB, plB, e1, e2, if_neg (show ¬ 0 = 1 by decide), if_neg (show ¬ 0 = 1 by decide), if_pos rfl, if_pos rfl, chB_low k (Nat.le_refl _), plB_low k (Nat.le_refl _), show n - k = (n - (k + 1)) + 1 by omega, rowV, Nat.mul_add, Nat.mul_assoc, Nat.mul_assoc, Nat.add_comm]
theorem set_leaf {T : Tv} {b p : Nat} {ls : Nat → Nat} (n : Nat) : sumS (fun s => if plB T b ls s n = 160 then chB p s n else 0) (2 ^ n) = rowV T b p ls n 0 (startS T) := by
  rw [← set_sum (p := p) n (Nat.le_refl _)]
  refine sum_eq _ (fun j _ => ?_)
  rw [Nat.sub_self, rowV]
  split
  · rw [Nat.mul_one]
  · rw [Nat.mul_zero]
theorem plB_valid {T : Tv} (hT : TOk T) {b : Nat} {ls : Nat → Nat} {s : Nat} : ∀ h, validP T (plB T b ls s h)
  | 0 => validP_start hT
  | h + 1 => by
    rw [plB]
    split
    · exact plB_valid hT h
    · exact validP_go hT (plB_valid hT h) _ _ _
/-- the greatest of what the cord allows -/
def mxV (l c : Nat) (f : Nat → Nat) : Nat → Nat
  | 0 => 0
  | m + 1 => if offS l m ≤ c ∧ mxV l c f m < f m then f m else mxV l c f m
theorem mxV_ge {l c : Nat} {f : Nat → Nat} : ∀ (n m : Nat), m < n → offS l m ≤ c → f m ≤ mxV l c f n
  | 0, m, h, _ => absurd h (Nat.not_lt_zero m)
  | n + 1, m, h, ho => by
    rw [mxV]
    by_cases e : m = n
    · subst e
      by_cases q : mxV l c f m < f m
      · rw [if_pos ⟨ho, q⟩]; exact Nat.le_refl _
      · rw [if_neg (fun z => q z.2)]; omega
    · have := mxV_ge (f := f) n m (by omega) ho
      split <;> omega
theorem mxV_le {l c M : Nat} {f : Nat → Nat} (hf : ∀ m, f m ≤ M) : ∀ n, mxV l c f n ≤ M
  | 0 => Nat.zero_le _
  | n + 1 => by
    have := mxV_le (l := l) (c := c) hf n
    have := hf n
    rw [mxV]; split <;> omega
theorem mxV_eq {l c : Nat} {f f' : Nat → Nat} : ∀ n, (∀ m, m < n → f m = f' m) → mxV l c f n = mxV l c f' n
  | 0, _ => rfl
  | n + 1, h => by rw [mxV, mxV, mxV_eq n (fun m hm => h m (by omega)), h n (by omega)]
theorem mxV_low {l c : Nat} {f : Nat → Nat} : ∀ n, n ≤ l - c → mxV l c f n = 0
  | 0, _ => rfl
  | n + 1, h => by
    rw [mxV, if_neg (fun z => by have := z.1; unfold offS at this; split at this <;> omega), mxV_low n (by omega)]
theorem mxV_high {l c t : Nat} {f : Nat → Nat} (ht : min 5 (l + c) < t) : ∀ n, t + n ≤ 6 → mxV l c f (t + n) = mxV l c f t
  | 0, _ => rfl
  | n + 1, h => by
    rw [← Nat.add_assoc, mxV, if_neg (fun z => by have := z.1; unfold offS at this; split at this <;> omega), mxV_high ht n (by omega)]
theorem mxV_max {l c m : Nat} {f : Nat → Nat} (ho : offS l m ≤ c) : max (mxV l c f m) (f m) = mxV l c f (m + 1) := by
  rw [mxV]
  by_cases q : mxV l c f m < f m
  · rw [if_pos ⟨ho, q⟩]; omega
  · rw [if_neg (fun z => q z.2)]; omega
/-- the greatest odds of one who sees: hours left, the hour, the place, the layer -/
def seeV (T : Tv) (b p : Nat) : Nat → Nat → Nat → Nat → Nat
  | 0, _, q, _ => if q = 160 then 1 else 0
  | k + 1, h, q, l => p * mxV l (cordS T b) (fun m => seeV T b p k (h + 1) q m) 6 + (10 - p) * mxV l (cordS T b) (fun m => seeV T b p k (h + 1) (goS T b q m h) m) 6
theorem seeV_le {T : Tv} {b p : Nat} (hp : p ≤ 10) : ∀ (k h q l : Nat), seeV T b p k h q l ≤ 10 ^ k
  | 0, h, q, l => by rw [seeV]; split <;> simp
  | k + 1, h, q, l => by
    rw [seeV, Nat.pow_succ]
    exact ten_mix hp (mxV_le (fun m => seeV_le hp k _ _ _) _) (mxV_le (fun m => seeV_le hp k _ _ _) _)
def prevL (ls : Nat → Nat) (h : Nat) : Nat := if h = 0 then 0 else ls (h - 1)
/-- a row that the cord allows -/
def adm (T : Tv) (b : Nat) (ls : Nat → Nat) (n : Nat) : Prop := ∀ h, h < n → ls h < 6 ∧ offS (prevL ls h) (ls h) ≤ cordS T b
theorem see_row {T : Tv} {b p n : Nat} {ls : Nat → Nat} (ha : adm T b ls n) : ∀ (k h q : Nat), h + k = n → rowV T b p ls k h q ≤ seeV T b p k h q (prevL ls h)
  | 0, h, q, _ => Nat.le_refl _
  | k + 1, h, q, hk => by
    obtain ⟨h6, ho⟩ := ha h (by omega)
    rw [rowV, seeV]
    have e : prevL ls (h + 1) = ls h := by unfold prevL; rw [if_neg (by omega)]; rfl
    have i1 := see_row (p := p) ha k (h + 1) q (by omega)
    have i2 := see_row (p := p) ha k (h + 1) (goS T b q (ls h) h) (by omega)
    rw [e] at i1 i2
    have j1 := mxV_ge (f := fun m => seeV T b p k (h + 1) q m) 6 (ls h) h6 ho
    have j2 := mxV_ge (f := fun m => seeV T b p k (h + 1) (goS T b q m h) m) 6 (ls h) h6 ho
    exact Nat.add_le_add (Nat.mul_le_mul_left _ (Nat.le_trans i1 j1)) (Nat.mul_le_mul_left _ (Nat.le_trans i2 j2))
def blS (T : Tv) (b p n X : Nat) : Prop := (∀ ls, adm T b ls n → rowV T b p ls n 0 (startS T) ≤ X) ∧ (X = 0 ∨ ∃ ls, adm T b ls n ∧ rowV T b p ls n 0 (startS T) = X)
theorem blS_one {T : Tv} {b p n X Y : Nat} (h1 : blS T b p n X) (h2 : blS T b p n Y) : X = Y := by
  apply Nat.le_antisymm
  · rcases h1.2 with h | ⟨ls, ha, he⟩
    · omega
    · rw [← he]; exact h2.1 ls ha
  · rcases h2.2 with h | ⟨ls, ha, he⟩
    · omega
    · rw [← he]; exact h1.1 ls ha
noncomputable def blV (T : Tv) (b p n : Nat) : Nat := @dite _ (∃ X, blS T b p n X) (Classical.propDecidable _) (fun z => z.choose) (fun _ => 0)
theorem blV_is {T : Tv} {b p n X : Nat} (h : blS T b p n X) : blV T b p n = X := by
  unfold blV
  rw [dif_pos ⟨X, h⟩]
  exact blS_one (Exists.choose_spec (⟨X, h⟩ : ∃ X, blS T b p n X)) h
theorem blS_see {T : Tv} {b p n X : Nat} (h : blS T b p n X) : X ≤ seeV T b p n 0 (startS T) 0 := by
  rcases h.2 with h | ⟨ls, ha, he⟩
  · omega
  · rw [← he]; exact see_row ha n 0 _ (by omega)
theorem blS_le {T : Tv} {b p n X : Nat} (hp : p ≤ 10) (h : blS T b p n X) : X ≤ 10 ^ n := Nat.le_trans (blS_see h) (seeV_le hp _ _ _ _)
