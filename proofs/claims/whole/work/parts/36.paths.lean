/-- a step from place p, layer l, in hour h, into layer m; kn says where the other one is in the way -/
def stP (T : Tv) (b : Nat) (kn : Nat → Nat → Nat → Bool) (h p l m : Nat) : Prop := h < 24 ∧ p ≠ 160 ∧ m < 6 ∧ offS l m ≤ cordS T b ∧ kn h (goS T b p m h) m = false
def okP (T : Tv) (b : Nat) (kn : Nat → Nat → Nat → Bool) : Nat → Nat → Nat → List Nat → Prop
  | _, _, _, [] => True
  | h, p, l, m :: ms => stP T b kn h p l m ∧ okP T b kn (h + 1) (goS T b p m h) m ms
def endP (T : Tv) (b : Nat) : Nat → Nat → List Nat → Nat
  | _, p, [] => p
  | h, p, m :: ms => endP T b (h + 1) (goS T b p m h) ms
def lastL : Nat → List Nat → Nat
  | l, [] => l
  | _, m :: ms => lastL m ms
def runL : Nat → List Nat → Nat
  | _, [] => 0
  | l, m :: ms => offS l m + runL m ms
def encA : Nat → List Nat → Nat
  | a, [] => a
  | a, m :: ms => encA (6 * a + m) ms
theorem okP_snoc (T : Tv) (b : Nat) (kn : Nat → Nat → Nat → Bool) : ∀ (ms : List Nat) (h p l m : Nat), okP T b kn h p l (ms ++ [m]) ↔ okP T b kn h p l ms ∧ stP T b kn (h + ms.length) (endP T b h p ms) (lastL l ms) m
  | [], h, p, l, m => by simp [okP, endP, lastL]
  | x :: ms, h, p, l, m => by
    have ih := okP_snoc T b kn ms (h + 1) (goS T b p x h) x m
    rw [List.cons_append, okP, okP, ih, endP, lastL, List.length_cons, show h + 1 + ms.length = h + (ms.length + 1) by omega]
    constructor
    · rintro ⟨a, b, c⟩; exact ⟨⟨a, b⟩, c⟩
    · rintro ⟨⟨a, b⟩, c⟩; exact ⟨a, b, c⟩
theorem endP_snoc (T : Tv) (b : Nat) : ∀ (ms : List Nat) (h p m : Nat), endP T b h p (ms ++ [m]) = goS T b (endP T b h p ms) m (h + ms.length)
  | [], h, p, m => rfl
  | x :: ms, h, p, m => by
    rw [List.cons_append, endP, endP, endP_snoc T b ms, List.length_cons, show h + 1 + ms.length = h + (ms.length + 1) by omega]
theorem lastL_snoc : ∀ (ms : List Nat) (l m : Nat), lastL l (ms ++ [m]) = m
  | [], l, m => rfl
  | x :: ms, l, m => by rw [List.cons_append, lastL, lastL_snoc ms]
theorem runL_snoc : ∀ (ms : List Nat) (l m : Nat), runL l (ms ++ [m]) = runL l ms + offS (lastL l ms) m
  | [], l, m => by simp [runL, lastL]
  | x :: ms, l, m => by rw [List.cons_append, runL, runL, runL_snoc ms, lastL, Nat.add_assoc]
theorem encA_snoc : ∀ (ms : List Nat) (a m : Nat), encA a (ms ++ [m]) = 6 * encA a ms + m
  | [], a, m => rfl
  | x :: ms, a, m => by rw [List.cons_append, encA, encA, encA_snoc ms]
theorem encA_eq : ∀ (ms : List Nat) (a : Nat), encA a ms = a * 6 ^ ms.length + encA 0 ms
  | [], a => by simp [encA]
  | x :: ms, a => by
    rw [encA, encA, encA_eq ms (6 * a + x), encA_eq ms (6 * 0 + x), List.length_cons, Nat.pow_succ, Nat.mul_zero, Nat.zero_add, Nat.add_mul]
    rw [show 6 * a * 6 ^ ms.length = a * (6 ^ ms.length * 6) by rw [Nat.mul_comm 6 a, Nat.mul_assoc, Nat.mul_comm 6]]
    omega
def sixL (ms : List Nat) : Prop := ∀ m ∈ ms, m < 6
theorem encA_lt : ∀ (ms : List Nat), sixL ms → encA 0 ms < 6 ^ ms.length
  | [], _ => Nat.zero_lt_one
  | x :: ms, h => by
    have h1 := encA_lt ms (fun m hm => h m (List.mem_cons_of_mem _ hm))
    have h2 := h x List.mem_cons_self
    rw [encA, encA_eq, List.length_cons, Nat.pow_succ, Nat.mul_zero, Nat.zero_add]
    have : x * 6 ^ ms.length ≤ 5 * 6 ^ ms.length := Nat.mul_le_mul_right _ (by omega)
    omega
theorem encA_inj : ∀ (ms ns : List Nat), sixL ms → sixL ns → ms.length = ns.length → encA 0 ms = encA 0 ns → ms = ns
  | [], [], _, _, _, _ => rfl
  | [], y :: ns, _, _, h, _ => by cases h
  | x :: ms, [], _, _, h, _ => by cases h
  | x :: ms, y :: ns, h1, h2, hl, he => by
    have hl' : ms.length = ns.length := Nat.succ.inj hl
    have a1 := encA_lt ms (fun m hm => h1 m (List.mem_cons_of_mem _ hm))
    have a2 := encA_lt ns (fun m hm => h2 m (List.mem_cons_of_mem _ hm))
    rw [encA, encA, encA_eq ms, encA_eq ns, hl', Nat.mul_zero, Nat.zero_add, Nat.zero_add] at he
    rw [hl'] at a1
    have hp : 0 < 6 ^ ns.length := Nat.pow_pos (by decide)
    generalize 6 ^ ns.length = P at he a1 a2 hp
    generalize hu : encA 0 ms = u at he a1
    generalize hv : encA 0 ns = v at he a2
    have hxy : x = y := by
      rcases Nat.lt_trichotomy x y with q | q | q
      · exfalso
        have : (x + 1) * P ≤ y * P := Nat.mul_le_mul_right _ q
        rw [Nat.add_mul, Nat.one_mul] at this
        omega
      · exact q
      · exfalso
        have : (y + 1) * P ≤ x * P := Nat.mul_le_mul_right _ q
        rw [Nat.add_mul, Nat.one_mul] at this
        omega
    subst hxy
    have huv : u = v := by omega
    rw [encA_inj ms ns (fun m hm => h1 m (List.mem_cons_of_mem _ hm)) (fun m hm => h2 m (List.mem_cons_of_mem _ hm)) hl' (by rw [hu, hv, huv])]
theorem okP_six {T : Tv} {b : Nat} {kn : Nat → Nat → Nat → Bool} : ∀ {ms : List Nat} {h p l : Nat}, okP T b kn h p l ms → sixL ms
  | [], _, _, _, _ => fun m hm => by cases hm
  | x :: ms, h, p, l, hk => fun m hm => by
    rcases List.mem_cons.mp hm with rfl | hm
    · exact hk.1.2.2.1
    · exact okP_six hk.2 m hm
theorem okP_len {T : Tv} {b : Nat} {kn : Nat → Nat → Nat → Bool} : ∀ {ms : List Nat} {h p l : Nat}, okP T b kn h p l ms → h ≤ 24 → h + ms.length ≤ 24
  | [], _, _, _, _, hh => hh
  | x :: ms, h, p, l, hk, _ => by
    have := okP_len hk.2 hk.1.1
    rw [List.length_cons]
    omega
theorem offS_le6 {l m : Nat} (hl : l < 6) (hm : m < 6) : offS l m ≤ 5 := by unfold offS; split <;> omega
theorem runL_le {T : Tv} {b : Nat} {kn : Nat → Nat → Nat → Bool} : ∀ {ms : List Nat} {h p l : Nat}, okP T b kn h p l ms → l < 6 → runL l ms ≤ 5 * ms.length
  | [], _, _, _, _, _ => Nat.zero_le _
  | x :: ms, h, p, l, hk, hl => by
    have h1 := runL_le hk.2 hk.1.2.2.1
    have h2 := offS_le6 hl hk.1.2.2.1
    rw [runL, List.length_cons]
    omega
theorem lastL_lt {T : Tv} {b : Nat} {kn : Nat → Nat → Nat → Bool} : ∀ {ms : List Nat} {h p l : Nat}, okP T b kn h p l ms → l < 6 → lastL l ms < 6
  | [], _, _, _, _, hl => hl
  | x :: ms, h, p, l, hk, _ => by show lastL x ms < 6; exact lastL_lt hk.2 hk.1.2.2.1
theorem endP_valid {T : Tv} (hT : TOk T) {b : Nat} : ∀ {ms : List Nat} {h p : Nat}, validP T p → validP T (endP T b h p ms)
  | [], _, _, hp => hp
  | x :: ms, h, p, hp => by show validP T (endP T b (h + 1) (goS T b p x h) ms); exact endP_valid hT (validP_go hT hp b x h)
/-- a whole passage -/
def Cmp (T : Tv) (b : Nat) (kn : Nat → Nat → Nat → Bool) (h p l : Nat) (ms : List Nat) : Prop := okP T b kn h p l ms ∧ endP T b h p ms = 160
def KL (l : Nat) (ms : List Nat) : Nat := 1000 * ms.length + runL l ms
/-- the best one -/
def Bst (T : Tv) (b : Nat) (kn : Nat → Nat → Nat → Bool) (h p l : Nat) (ms : List Nat) : Prop := Cmp T b kn h p l ms ∧ ∀ ns, Cmp T b kn h p l ns → KL l ms < KL l ns ∨ (KL l ms = KL l ns ∧ encA 0 ms ≤ encA 0 ns)
theorem KL_len {T : Tv} {b : Nat} {kn : Nat → Nat → Nat → Bool} {h p l : Nat} {ms : List Nat} (hk : okP T b kn h p l ms) (hh : h ≤ 24) (hl : l < 6) : KL l ms / 1000 = ms.length ∧ KL l ms % 1000 = runL l ms ∧ KL l ms < 25000 ∧ runL l ms ≤ 120 := by
  have h1 := okP_len hk hh
  have h2 := runL_le hk hl
  unfold KL
  omega
theorem Bst_one {T : Tv} {b : Nat} {kn : Nat → Nat → Nat → Bool} {h p l : Nat} (hh : h ≤ 24) (hl : l < 6) {ms ns : List Nat} (h1 : Bst T b kn h p l ms) (h2 : Bst T b kn h p l ns) : ms = ns := by
  have a1 := h1.2 ns h2.1
  have a2 := h2.2 ms h1.1
  have b1 := KL_len h1.1.1 hh hl
  have b2 := KL_len h2.1.1 hh hl
  have hK : KL l ms = KL l ns := by omega
  have hE : encA 0 ms = encA 0 ns := by omega
  exact encA_inj ms ns (okP_six h1.1.1) (okP_six h2.1.1) (by rw [← b1.1, ← b2.1, hK]) hE
/-- what is left, by the hours left -/
def thrV (T : Tv) (b : Nat) (kn : Nat → Nat → Nat → Bool) (V : Nat → Nat → Nat) (h p l m : Nat) : Nat := if cordS T b < offS l m ∨ kn h (goS T b p m h) m = true then 1000000 else if 1000000 ≤ V (goS T b p m h) m then 1000000 else V (goS T b p m h) m + 1000 + offS l m
def minV (f : Nat → Nat) : Nat → Nat
  | 0 => 1000000
  | m + 1 => if f m < minV f m then f m else minV f m
def leftV (T : Tv) (b : Nat) (kn : Nat → Nat → Nat → Bool) : Nat → Nat → Nat → Nat
  | 0, p, _ => if p = 160 then 0 else 1000000
  | f + 1, p, l => if p = 160 then 0 else minV (thrV T b kn (leftV T b kn f) (24 - (f + 1)) p l) 6
theorem minV_le (f : Nat → Nat) : ∀ (n m : Nat), m < n → minV f n ≤ f m
  | 0, m, h => absurd h (Nat.not_lt_zero m)
  | n + 1, m, h => by
    rw [minV]
    by_cases e : m = n
    · subst e; split <;> omega
    · have := minV_le f n m (by omega)
      split <;> omega
theorem minV_top (f : Nat → Nat) : ∀ n, minV f n ≤ 1000000
  | 0 => Nat.le_refl _
  | n + 1 => by
    have := minV_top f n
    rw [minV]; split <;> omega
theorem minV_ex (f : Nat → Nat) : ∀ n, minV f n < 1000000 → ∃ m, m < n ∧ f m = minV f n
  | 0, h => by rw [minV] at h; omega
  | n + 1, h => by
    rw [minV] at h ⊢
    split at h
    · rename_i q; rw [if_pos q]; exact ⟨n, by omega, rfl⟩
    · rename_i q; rw [if_neg q]
      obtain ⟨m, h1, h2⟩ := minV_ex f n h
      exact ⟨m, by omega, h2⟩
theorem thrV_eq {T : Tv} {b : Nat} {kn : Nat → Nat → Nat → Bool} {V : Nat → Nat → Nat} {h p l m : Nat} (h1 : offS l m ≤ cordS T b) (h2 : kn h (goS T b p m h) m = false) (h3 : V (goS T b p m h) m < 1000000) : thrV T b kn V h p l m = V (goS T b p m h) m + 1000 + offS l m := by
  unfold thrV
  rw [if_neg (by rw [h2]; simp; exact h1), if_neg (by omega)]
theorem thrV_lt {T : Tv} {b : Nat} {kn : Nat → Nat → Nat → Bool} {V : Nat → Nat → Nat} {h p l m : Nat} (hz : thrV T b kn V h p l m < 1000000) : offS l m ≤ cordS T b ∧ kn h (goS T b p m h) m = false ∧ V (goS T b p m h) m < 1000000 ∧ thrV T b kn V h p l m = V (goS T b p m h) m + 1000 + offS l m := by
  unfold thrV at hz ⊢
  by_cases c1 : cordS T b < offS l m ∨ kn h (goS T b p m h) m = true
  · rw [if_pos c1] at hz; omega
  · rw [if_neg c1] at hz ⊢
    by_cases c2 : 1000000 ≤ V (goS T b p m h) m
    · rw [if_pos c2] at hz; omega
    · rw [if_neg c2]
      refine ⟨by omega, ?_, by omega, rfl⟩
      cases e : kn h (goS T b p m h) m
      · rfl
      · exact absurd (Or.inr e) c1
theorem leftV_le {T : Tv} {b : Nat} {kn : Nat → Nat → Nat → Bool} : ∀ (f : Nat) {p l : Nat} {ms : List Nat}, f ≤ 24 → l < 6 → Cmp T b kn (24 - f) p l ms → leftV T b kn f p l ≤ KL l ms
  | 0, p, l, [], _, _, hc => by
    have : p = 160 := hc.2
    rw [leftV, if_pos this]; exact Nat.zero_le _
  | 0, p, l, m :: ms, _, _, hc => by have := hc.1.1.1; omega
  | f + 1, p, l, [], _, _, hc => by
    have : p = 160 := hc.2
    rw [leftV, if_pos this]; exact Nat.zero_le _
  | f + 1, p, l, m :: ms, hf, hl, hc => by
    obtain ⟨⟨⟨s1, s2, s3, s4, s5⟩, hk⟩, he⟩ := hc
    have e24 : 24 - (f + 1) + 1 = 24 - f := by omega
    rw [e24] at hk
    have he' : endP T b (24 - f) (goS T b p m (24 - (f + 1))) ms = 160 := by rw [← e24]; exact he
    have ih := leftV_le f (by omega) s3 ⟨hk, he'⟩
    have hK := KL_len hk (by omega) s3
    rw [leftV, if_neg s2]
    have h1 := minV_le (thrV T b kn (leftV T b kn f) (24 - (f + 1)) p l) 6 m s3
    rw [thrV_eq s4 s5 (by omega)] at h1
    unfold KL at ih ⊢
    rw [runL, List.length_cons]
    omega
theorem leftV_top {T : Tv} {b : Nat} {kn : Nat → Nat → Nat → Bool} : ∀ (f p l : Nat), leftV T b kn f p l ≤ 1000000
  | 0, p, l => by rw [leftV]; split <;> omega
  | f + 1, p, l => by rw [leftV]; split; omega; exact minV_top _ _
theorem leftV_ex {T : Tv} {b : Nat} {kn : Nat → Nat → Nat → Bool} : ∀ (f : Nat) {p l : Nat}, f ≤ 24 → leftV T b kn f p l < 1000000 → ∃ ms, Cmp T b kn (24 - f) p l ms ∧ KL l ms = leftV T b kn f p l
  | 0, p, l, _, h => by
    rw [leftV] at h ⊢
    by_cases hp : p = 160
    · rw [if_pos hp]; exact ⟨[], ⟨trivial, hp⟩, rfl⟩
    · rw [if_neg hp] at h; omega
  | f + 1, p, l, hf, h => by
    rw [leftV] at h ⊢
    by_cases hp : p = 160
    · rw [if_pos hp]; exact ⟨[], ⟨trivial, hp⟩, rfl⟩
    · rw [if_neg hp] at h ⊢
      obtain ⟨m, hm, he⟩ := minV_ex _ _ h
      rw [← he] at h ⊢
      obtain ⟨c1, c2, c3, c4⟩ := thrV_lt h
      obtain ⟨ms, ⟨k1, k2⟩, k3⟩ := leftV_ex f (by omega) c3
      have e24 : 24 - (f + 1) + 1 = 24 - f := by omega
      refine ⟨m :: ms, ⟨⟨⟨by omega, hp, hm, c1, c2⟩, by rw [e24]; exact k1⟩, by show endP T b (24 - (f + 1) + 1) _ ms = 160; rw [e24]; exact k2⟩, ?_⟩
      rw [c4, ← k3]
      unfold KL
      rw [runL, List.length_cons]
      omega
/-- the first layer by which what is left is reached, again and again -/
def grdP (T : Tv) (b : Nat) (kn : Nat → Nat → Nat → Bool) : Nat → Nat → Nat → List Nat → Prop
  | _, p, _, [] => p = 160
  | 0, _, _, _ :: _ => False
  | f + 1, p, l, m :: ms => p ≠ 160 ∧ m < 6 ∧ thrV T b kn (leftV T b kn f) (24 - (f + 1)) p l m = leftV T b kn (f + 1) p l ∧ (∀ k, k < m → thrV T b kn (leftV T b kn f) (24 - (f + 1)) p l k ≠ leftV T b kn (f + 1) p l) ∧ grdP T b kn f (goS T b p m (24 - (f + 1))) m ms
theorem grd_cmp {T : Tv} {b : Nat} {kn : Nat → Nat → Nat → Bool} : ∀ (f : Nat) {p l : Nat} {ms : List Nat}, f ≤ 24 → leftV T b kn f p l < 1000000 → grdP T b kn f p l ms → Cmp T b kn (24 - f) p l ms ∧ KL l ms = leftV T b kn f p l
  | 0, p, l, [], _, _, hg => ⟨⟨trivial, hg⟩, by rw [leftV, if_pos (show p = 160 from hg)]; rfl⟩
  | 0, p, l, m :: ms, _, _, hg => absurd hg id
  | f + 1, p, l, [], _, _, hg => ⟨⟨trivial, hg⟩, by rw [leftV, if_pos (show p = 160 from hg)]; rfl⟩
  | f + 1, p, l, m :: ms, hf, hz, hg => by
    obtain ⟨g1, g2, g3, g4, g5⟩ := hg
    rw [← g3] at hz
    obtain ⟨c1, c2, c3, c4⟩ := thrV_lt hz
    obtain ⟨⟨k1, k2⟩, k3⟩ := grd_cmp f (by omega) c3 g5
    have e24 : 24 - (f + 1) + 1 = 24 - f := by omega
    refine ⟨⟨⟨⟨by omega, g1, g2, c1, c2⟩, by rw [e24]; exact k1⟩, by show endP T b (24 - (f + 1) + 1) _ ms = 160; rw [e24]; exact k2⟩, ?_⟩
    rw [← g3, c4, ← k3]
    unfold KL
    rw [runL, List.length_cons]
    omega
theorem grd_min {T : Tv} {b : Nat} {kn : Nat → Nat → Nat → Bool} : ∀ (f : Nat) {p l : Nat} {ms ns : List Nat}, f ≤ 24 → l < 6 → leftV T b kn f p l < 1000000 → grdP T b kn f p l ms → Cmp T b kn (24 - f) p l ns → KL l ns = leftV T b kn f p l → encA 0 ms ≤ encA 0 ns
  | _, p, l, [], ns, _, _, _, _, _, _ => Nat.zero_le _
  | 0, p, l, m :: ms, ns, _, _, _, hg, _, _ => absurd hg id
  | f + 1, p, l, m :: ms, ns, hf, hl, hz, hg, hc, hK => by
    have hg0 := hg
    obtain ⟨g1, g2, g3, g4, g5⟩ := hg
    cases ns with
    | nil => exact absurd hc.2 g1
    | cons k ns =>
      have hc0 := hc
      obtain ⟨⟨⟨s1, s2, s3, s4, s5⟩, hk⟩, he⟩ := hc
      have e24 : 24 - (f + 1) + 1 = 24 - f := by omega
      rw [e24] at hk
      have he' : endP T b (24 - f) (goS T b p k (24 - (f + 1))) ns = 160 := by rw [← e24]; exact he
      have hle := leftV_le f (by omega) s3 ⟨hk, he'⟩
      have hKn := KL_len hk (by omega) s3
      have hth := thrV_eq (V := leftV T b kn f) (h := 24 - (f + 1)) (p := p) s4 s5 (by omega)
      have hmin : leftV T b kn (f + 1) p l ≤ thrV T b kn (leftV T b kn f) (24 - (f + 1)) p l k := by
        rw [leftV, if_neg g1]; exact minV_le _ 6 k s3
      have hKe : KL l (k :: ns) = KL k ns + 1000 + offS l k := by unfold KL; rw [runL, List.length_cons]; omega
      have hthk : thrV T b kn (leftV T b kn f) (24 - (f + 1)) p l k = leftV T b kn (f + 1) p l := by omega
      have hKn2 : KL k ns = leftV T b kn f (goS T b p k (24 - (f + 1))) k := by omega
      obtain ⟨hcm, hKm⟩ := grd_cmp (f + 1) hf hz hg0
      have hlen : (m :: ms).length = (k :: ns).length := by
        have b1 := (KL_len hcm.1 (by omega) hl).1
        have b2 := (KL_len hc0.1 (by omega) hl).1
        rw [← b1, ← b2, hKm, hK]
      have hlen' : ms.length = ns.length := Nat.succ.inj hlen
      rcases Nat.lt_trichotomy m k with q | q | q
      · have a1 := encA_lt ms (okP_six hcm.1.2)
        rw [encA, encA, encA_eq ms, encA_eq ns, hlen', Nat.mul_zero, Nat.zero_add, Nat.zero_add]
        rw [hlen'] at a1
        have : (m + 1) * 6 ^ ns.length ≤ k * 6 ^ ns.length := Nat.mul_le_mul_right _ q
        rw [Nat.add_mul, Nat.one_mul] at this
        omega
      · subst q
        have ih := grd_min f (by omega) g2 (by rw [← hKn2]; omega) g5 ⟨hk, he'⟩ hKn2
        rw [encA, encA, encA_eq ms, encA_eq ns, hlen']
        omega
      · exact absurd hthk (g4 k q)
theorem grd_best {T : Tv} {b : Nat} {kn : Nat → Nat → Nat → Bool} {f p l : Nat} {ms : List Nat} (hf : f ≤ 24) (hl : l < 6) (hz : leftV T b kn f p l < 1000000) (hg : grdP T b kn f p l ms) : Bst T b kn (24 - f) p l ms := by
  obtain ⟨h1, h2⟩ := grd_cmp f hf hz hg
  refine ⟨h1, fun ns hn => ?_⟩
  have h3 := leftV_le f hf hl hn
  by_cases e : KL l ms = KL l ns
  · exact Or.inr ⟨e, grd_min f hf hl hz hg hn (by rw [← e, h2])⟩
  · exact Or.inl (by omega)
theorem no_left {T : Tv} {b : Nat} {kn : Nat → Nat → Nat → Bool} {f p l : Nat} (hf : f ≤ 24) (hl : l < 6) (hz : ¬ leftV T b kn f p l < 1000000) : ∀ ms, ¬ Cmp T b kn (24 - f) p l ms := fun ms hc => by
  have h1 := leftV_le f hf hl hc
  have h2 := KL_len hc.1 (by omega) hl
  omega
