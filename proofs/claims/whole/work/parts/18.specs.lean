theorem nI_nat {n : Nat} (h : n < 2 ^ 31) : (nI n).toInt.toNat = n := by rw [nI_toInt h]; exact Int.toNat_natCast n
theorem isL_t {v : Int32} (h : isL v = true) : ∃ l, l < 6 ∧ v = nI l := by
  obtain ⟨h1, h2⟩ := of_decide_eq_true h
  obtain ⟨j, hj, rfl⟩ := nI_of (x := v) (fun z => by have := neg_toInt z; omega)
  rw [nI_toInt hj] at h2
  exact ⟨j, by omega, rfl⟩
theorem isH_t {v : Int32} (h : isH v = true) : ∃ l, l < 24 ∧ v = nI l := by
  obtain ⟨h1, h2⟩ := of_decide_eq_true h
  obtain ⟨j, hj, rfl⟩ := nI_of (x := v) (fun z => by have := neg_toInt z; omega)
  rw [nI_toInt hj] at h2
  exact ⟨j, by omega, rfl⟩
theorem isL_nI {l : Nat} (h : l < 6) : isL (nI l) = true := decide_eq_true (by rw [nI_toInt (by omega)]; omega)
theorem isH_nI {l : Nat} (h : l < 24) : isH (nI l) = true := decide_eq_true (by rw [nI_toInt (by omega)]; omega)
theorem sw_out {v : Int32} {n : Nat} (h : ∀ j, j ≤ n → ¬ v = nI j) : v.toInt < ((0 : Nat) : Int) ∨ (n : Int) < v.toInt := by
  by_cases h0 : v.toInt < 0
  · exact Or.inl h0
  · obtain ⟨j, hj, rfl⟩ := nI_of (x := v) (fun z => h0 (neg_toInt z))
    rw [nI_toInt hj]
    right
    by_cases hn : j ≤ n
    · exact absurd rfl (h j hn)
    · omega
def rchS (T : Tv) (r w : Int32) : Int32 := if hasR T r = true then (if w = nI 0 then nI (T 0 r.toInt.toNat) else if w = nI 1 then nI (T 1 r.toInt.toNat) else if w = nI 2 then nI (T 2 r.toInt.toNat) else -3) else -2
def wndS (T : Tv) (l h w : Int32) : Int32 := if isL l = true ∧ isH h = true then (if w = nI 0 then nI (T 3 (24 * l.toInt.toNat + h.toInt.toNat)) else if w = nI 1 then nI (T 4 (24 * l.toInt.toNat + h.toInt.toNat)) else -3) else -2
def brgS (T : Tv) (b w : Int32) : Int32 := if hasB T b = true then (if w = nI 0 then nI (T 6 b.toInt.toNat) else if w = nI 1 then nI (cordS T b.toInt.toNat) else if w = nI 2 then nI (T 8 b.toInt.toNat) else if w = nI 3 then nI (T 9 b.toInt.toNat) else -3) else -2
def asV (k : Nat) : Nat := 100 * pullS k 0 1 + pullS k 2 1
def asS (T : Tv) (b k : Int32) : Int32 := if hasB T b = true then (if inS k (nI 0) (nI 4) = true then (if k = nI 0 ∨ k = nI (T 8 b.toInt.toNat) ∨ (k = nI 3 ∧ T 8 b.toInt.toNat = 4) then nI (asV (T 8 b.toInt.toNat)) else -4) else -3) else -2
def yrdS (T : Tv) (b r l h : Int32) : Int32 := if hasB T b = true ∧ hasR T r = true ∧ isL l = true ∧ isH h = true then nI (stepS T b.toInt.toNat r.toInt.toNat l.toInt.toNat h.toInt.toNat) else -2
def atS (T F : Tv) (b w : Int32) : Int32 := if hasB T b = true then (if w = nI 0 then (if F 0 b.toInt.toNat = 160 then -1 else nI (F 0 b.toInt.toNat / 20)) else if w = nI 1 then nI (F 0 b.toInt.toNat % 20) else if w = nI 2 then nI (F 1 b.toInt.toNat) else if w = nI 3 then nI (F 3 b.toInt.toNat) else if w = nI 4 then nI (F 4 b.toInt.toNat) else -3) else -2
def bitS (f : Nat → Bool) : Nat → Nat | 0 => 0 | n + 1 => bitS f n + (if f n = true then 2 ^ n else 0)
theorem bitS_lt (f : Nat → Bool) : ∀ n, bitS f n < 2 ^ n
  | 0 => Nat.zero_lt_one
  | n + 1 => by
    have := bitS_lt f n
    rw [bitS, Nat.pow_succ]
    split <;> omega
theorem or_bit : ∀ b, b < 4 → ∀ a, a < 2 ^ b → nI a ||| nI (2 ^ b) = nI (a + 2 ^ b) := by decide +kernel
theorem or_zero : ∀ a, a < 16 → nI a ||| nI 0 = nI a := by decide +kernel
theorem bitS_t {f : Nat → Bool} {b : Nat} (hb : b < 4) (h : f b = true) : nI (bitS f b) ||| nI (2 ^ b) = nI (bitS f (b + 1)) := by
  rw [or_bit b hb _ (bitS_lt f b), bitS, if_pos h]
theorem bitS_f {f : Nat → Bool} {b : Nat} (h : f b = false) : nI (bitS f b) = nI (bitS f (b + 1)) := by
  rw [bitS, if_neg (by rw [h]; decide)]; rfl
theorem bitS_f0 {f : Nat → Bool} {b : Nat} (hb : b < 4) (h : f b = false) : nI (bitS f b) ||| nI 0 = nI (bitS f (b + 1)) := by
  have h1 := bitS_lt f b
  have h2 : 2 ^ b ≤ 2 ^ 3 := Nat.pow_le_pow_right (by decide) (by omega)
  rw [or_zero _ (by omega), bitS_f h]
def toldF (T : Tv) : Nat → Bool := fun c => decide (T 5 c = 1)
theorem tbits_bitS {T : Tv} (hT : TOk T) : tbits T = bitS (toldF T) 4 := by
  have h := fun b => (hT.2.2.2.2.2.2.1 b).1
  have h0 := h 0; have h1 := h 1; have h2 := h 2; have h3 := h 3
  have key : ∀ c, (if toldF T c = true then 2 ^ c else 0) = T 5 c * 2 ^ c := by
    intro c
    have hc := h c
    unfold toldF
    by_cases q : T 5 c = 1
    · rw [decide_eq_true q, if_pos rfl, q, Nat.one_mul]
    · rw [decide_eq_false q, if_neg (by decide), show T 5 c = 0 by omega, Nat.zero_mul]
  simp only [bitS, key, tbits]
  simp
  omega
def cntS (T X F : Tv) (w : Int32) : Int32 := if w = nI 0 then nI (T 10 0) else if w = nI 1 then nI (tbits T) else if w = nI 2 then nI (T 11 0) else if w = nI 3 then nI (F 5 0) else if w = nI 4 then nI (X 0 0) else if w = nI 5 then nI (sumS (T 1) (T 10 0)) else -3
def knF (T F : Tv) (b : Nat) : Nat → Bool := fun c => decide (c ≠ b ∧ T 5 c = 1) && knotS (F 0 b) (F 1 b) (F 0 c) (F 1 c)
def knS (T F : Tv) (b : Int32) : Int32 := if hasB T b = true then nI (bitS (knF T F b.toInt.toNat) 4) else -2
/-- the text: 0 its length, 1 its bytes -/
def XOk (X : Tv) : Prop := X 0 0 ≤ 200 ∧ ∀ i, X 1 i < 256
def RepX (h q : Nat) (X : Tv) (σ : Sg) : Prop := σ.I h = nI (X 0 0) ∧ ∀ i, i < 200 → σ.A q i = nI (X 1 i)
def byS (v : Int64) (i : Nat) : Nat := (v >>> ((nI (8 * i)).toInt64 &&& 63) &&& lN 255).toBitVec.toNat
theorem lN_self (x : Int64) : x = lN x.toBitVec.toNat := by
  apply Int64.toBitVec_inj.mp
  rw [show (lN x.toBitVec.toNat).toBitVec = BitVec.ofNat 64 x.toBitVec.toNat from rfl, BitVec.ofNat_toNat]
  simp
theorem byS_eq (v : Int64) (i : Nat) : (v >>> ((nI (8 * i)).toInt64 &&& 63) &&& lN 255).toInt32 = nI (byS v i) := by
  unfold byS
  generalize v >>> ((nI (8 * i)).toInt64 &&& 63) &&& lN 255 = y
  rw [← lN_i, ← lN_self]
theorem byS_lt (v : Int64) (i : Nat) : byS v i < 256 := by
  unfold byS
  rw [Int64.toBitVec_and, BitVec.toNat_and]
  exact Nat.lt_of_le_of_lt Nat.and_le_right (by decide)
def appS (X : Tv) (v : Int64) (n : Nat) : Tv := fun k i => if k = 0 then X 0 0 + n else if X 0 0 ≤ i ∧ i < X 0 0 + n then byS v (i - X 0 0) else X k i
theorem XOk_app {X : Tv} (hX : XOk X) (v : Int64) {n : Nat} (hn : X 0 0 + n ≤ 200) : XOk (appS X v n) := by
  refine ⟨by show X 0 0 + n ≤ 200; exact hn, fun i => ?_⟩
  show (if X 0 0 ≤ i ∧ i < X 0 0 + n then byS v (i - X 0 0) else X 1 i) < 256
  split
  · exact byS_lt _ _
  · exact hX.2 i
def wrS (X : Tv) (n : Int32) : Int32 := if inS n (nI 1) (nI 8) = true then (if X 0 0 + n.toInt.toNat ≤ 200 then nI (X 0 0 + n.toInt.toNat) else -5) else -3
def appI (q : Nat) (X : Tv) (v : Int64) (j : Nat) (σ s1 : Sg) : Prop := same [q] [] [] false σ s1 ∧ ∀ i, i < 200 → s1.A q i = nI (appS X v j 1 i)
theorem appI_0 {q h : Nat} {X : Tv} {v : Int64} {σ : Sg} (hX : RepX h q X σ) : appI q X v 0 σ σ := by
  refine ⟨same_rf _ _ _ _ _, fun i hi => ?_⟩
  show σ.A q i = nI (if X 0 0 ≤ i ∧ i < X 0 0 + 0 then byS v (i - X 0 0) else X 1 i)
  rw [if_neg (by omega)]
  exact hX.2 i hi
theorem appI_s {q : Nat} {X : Tv} {v : Int64} {j : Nat} {σ s1 : Sg} (h : appI q X v j σ s1) : appI q X v (j + 1) σ (s1.sA q (upd (s1.A q) (X 0 0 + j) (nI (byS v j)))) := by
  refine ⟨same_sA h.1 (by simp) _, fun i hi => ?_⟩
  rw [sA_A, if_pos rfl]
  unfold upd
  show _ = nI (if X 0 0 ≤ i ∧ i < X 0 0 + (j + 1) then byS v (i - X 0 0) else X 1 i)
  by_cases he : i = X 0 0 + j
  · rw [if_pos he, if_pos (by omega), show i - X 0 0 = j by omega]
  · rw [if_neg he, h.2 i hi]
    show nI (if X 0 0 ≤ i ∧ i < X 0 0 + j then byS v (i - X 0 0) else X 1 i) = _
    by_cases h2 : X 0 0 ≤ i ∧ i < X 0 0 + j
    · rw [if_pos h2, if_pos (by omega)]
    · rw [if_neg h2, if_neg (by omega)]
theorem inS_t {v : Int32} {a b : Nat} (ha : a < 2 ^ 31) (hb : b < 2 ^ 31) (h : inS v (nI a) (nI b) = true) : ∃ n, a ≤ n ∧ n ≤ b ∧ v = nI n := by
  obtain ⟨h1, h2⟩ := of_decide_eq_true h
  rw [nI_toInt ha] at h1
  rw [nI_toInt hb] at h2
  obtain ⟨j, hj, rfl⟩ := nI_of (x := v) (fun z => by have := neg_toInt z; omega)
  rw [nI_toInt hj] at h1 h2
  exact ⟨j, by omega, by omega, rfl⟩
theorem inS_nI {n a b : Nat} (hn : n < 2 ^ 31) (ha : a < 2 ^ 31) (hb : b < 2 ^ 31) : inS (nI n) (nI a) (nI b) = decide (a ≤ n ∧ n ≤ b) := by
  unfold inS
  rw [nI_toInt hn, nI_toInt ha, nI_toInt hb]
  congr 1
  apply propext
  omega
theorem inS_lo {v : Int32} {a : Nat} {b : Int32} (h : v < nI a) (ha : a < 2 ^ 31) : inS v (nI a) b = false := decide_eq_false (fun z => by
  have := Int32.lt_iff_toInt_lt.mp h
  omega)
theorem inS_hi {v a : Int32} {b : Nat} (h : nI b < v) (hb : b < 2 ^ 31) : inS v a (nI b) = false := decide_eq_false (fun z => by
  have := Int32.lt_iff_toInt_lt.mp h
  omega)
theorem inS_mid {v : Int32} {a b : Nat} (h : ¬ v < nI a) (h2 : ¬ nI b < v) : inS v (nI a) (nI b) = true := decide_eq_true (by
  rw [Int32.lt_iff_toInt_lt] at h h2
  omega)
theorem pull_as {k : Nat} (hk : k ≤ 4) : 100 * pullT k 0 1 + pullT k 2 1 = asV k := by
  have key : ∀ k, k < 5 → 100 * pullT k 0 1 + pullT k 2 1 = asV k := by decide +kernel
  exact key k (by omega)
/-- the barges as the other one has them -/
def RepN (q o : Nat) (F : Tv) (σ : Sg) : Prop := (∀ b, b < 4 → σ.A q (o + b) = nI (F 0 b) ∧ σ.A q (o + (4 + b)) = nI (F 2 b) ∧ σ.A q (o + (8 + b)) = nI (F 1 b) ∧ σ.A q (o + (12 + b)) = nI (F 3 b) ∧ σ.A q (o + (16 + b)) = nI (F 4 b)) ∧ σ.A q (o + 20) = nI (F 5 0)
def goN (F : Tv) (n : Nat) : Nat := min 24 (F 5 0 + n)
def runS (T : Tv) (F : Tv) : Nat → Tv | 0 => F | n + 1 => passS T (runS T F n) (F 5 0 + n)
theorem runS_h (T F : Tv) : ∀ n, runS T F n 5 0 = F 5 0 + n
  | 0 => rfl
  | n + 1 => rfl
theorem runS_ok {T F : Tv} (hT : TOk T) (hF : FOk T F) : ∀ n, F 5 0 + n ≤ 24 → FOk T (runS T F n)
  | 0, _ => hF
  | n + 1, h => FOk_pass hT (runS_ok hT hF n (by omega)) (by omega)
def goR (F : Tv) (n : Int32) : Int32 := if inS n (nI 1) (nI 24) = true then nI (goN F n.toInt.toNat) else -3
def goF (T F : Tv) (n : Int32) : Tv := if inS n (nI 1) (nI 24) = true then runS T F (goN F n.toInt.toNat - F 5 0) else F
def cordR (T F : Tv) (b l : Int32) : Int32 := if hasB T b = true then (if isL l = true ∧ offS l.toInt.toNat (F 2 b.toInt.toNat) ≤ cordS T b.toInt.toNat then (if F 0 b.toInt.toNat = 160 ∨ 24 ≤ F 5 0 then -4 else nI (offS l.toInt.toNat (F 1 b.toInt.toNat))) else -3) else -2
def cordF (T F : Tv) (b l : Int32) : Tv := if hasB T b = true ∧ isL l = true ∧ offS l.toInt.toNat (F 2 b.toInt.toNat) ≤ cordS T b.toInt.toNat ∧ ¬ (F 0 b.toInt.toNat = 160 ∨ 24 ≤ F 5 0) then changeS F b.toInt.toNat l.toInt.toNat else F
