theorem nI_min {a b : Nat} (ha : a < 2 ^ 31) (hb : b < 2 ^ 31) : (if nI b < nI a then nI b else nI a) = nI (min a b) := by
  by_cases h : b < a
  · rw [if_pos ((nI_ltI hb ha).mpr h), Nat.min_eq_right (by omega)]
  · rw [if_neg (fun z => h ((nI_ltI hb ha).mp z)), Nat.min_eq_left (by omega)]
theorem nI_max {a b : Nat} (ha : a < 2 ^ 31) (hb : b < 2 ^ 31) : (if nI a < nI b then nI b else nI a) = nI (max a b) := by
  by_cases h : a < b
  · rw [if_pos ((nI_ltI ha hb).mpr h), Nat.max_eq_right (by omega)]
  · rw [if_neg (fun z => h ((nI_ltI ha hb).mp z)), Nat.max_eq_left (by omega)]
theorem lN_max {a b : Nat} (ha : a < 2 ^ 63) (hb : b < 2 ^ 63) : (if lN b < lN a then lN a else lN b) = lN (max a b) := by
  by_cases h : b < a
  · rw [if_pos ((pk_lLT hb ha).mpr h), Nat.max_eq_left (by omega)]
  · rw [if_neg (fun z => h ((pk_lLT hb ha).mp z)), Nat.max_eq_right (by omega)]
theorem lN_ne0 {a : Nat} (h0 : 0 < a) (ha : a < 2 ^ 63) : ¬ lN a = 0 := fun z => by
  have := (pk_lEQ (b := 0) ha (by decide)).mp z
  omega
section RULES3
variable {g : Gp} {x : Cx} {cc : ByteArray} {own : String} {nL fr lo pc : Nat} {lv lv' : List (Nat × Value)} {rest st : List Value} {ad : Nat → Nat} {σ : Sg}
theorem r_pick (ks : List Nat) (h : lv_pick lv ks = lv') (k : GJ g x nL pc lv' st ad σ) : GJ g x nL pc lv st ad σ :=
  fun H locs ls hW hS hl => k H locs ls hW hS (lv_sub hl ks h)
theorem r_lcmp_eq (K : Ok g x cc own nL fr lo) {a b : Int64} {off : Int} (tgt : Nat) (hu : True) (d1 : decode cc pc = .ok (.lcmp, 1)) (d2 : decode cc (pc + 1) = .ok (.ifCond .eq off, 3)) (ht : ((pc + 1 : Nat) : Int) + off = (tgt : Int)) (kt : a = b → GJ g x nL tgt lv rest ad σ) (kf : a ≠ b → GJ g x nL (pc + 4) lv rest ad σ) : GJ g x nL pc lv (.long b :: .long a :: rest) ad σ :=
  r_lcmp K d1 (fun h => r_if_eq K tgt d2 ht (fun z => absurd z (by decide)) (fun _ => kf (fun z => by rw [z] at h; exact Int64.lt_irrefl h))) (fun h => r_if_eq K tgt d2 ht (fun _ => kt (h)) (fun z => absurd (by decide) z)) (fun h => r_if_eq K tgt d2 ht (fun z => absurd z (by decide)) (fun _ => kf (fun z => by rw [z] at h; exact Int64.lt_irrefl h)))
theorem n_lcmp_eq (K : Ok g x cc own nL fr lo) {a b : Nat} {off : Int} (tgt : Nat) (hu : a < 2 ^ 63 ∧ b < 2 ^ 63) (d1 : decode cc pc = .ok (.lcmp, 1)) (d2 : decode cc (pc + 1) = .ok (.ifCond .eq off, 3)) (ht : ((pc + 1 : Nat) : Int) + off = (tgt : Int)) (kt : a = b → GJ g x nL tgt lv rest ad σ) (kf : a ≠ b → GJ g x nL (pc + 4) lv rest ad σ) : GJ g x nL pc lv (.long (lN b) :: .long (lN a) :: rest) ad σ :=
  r_lcmp_eq K tgt trivial d1 d2 ht (fun h => kt ((pk_lEQ hu.1 hu.2).mp h)) (fun h => kf (fun z => h (by rw [z])))
theorem r_lcmp_ne (K : Ok g x cc own nL fr lo) {a b : Int64} {off : Int} (tgt : Nat) (hu : True) (d1 : decode cc pc = .ok (.lcmp, 1)) (d2 : decode cc (pc + 1) = .ok (.ifCond .ne off, 3)) (ht : ((pc + 1 : Nat) : Int) + off = (tgt : Int)) (kt : a ≠ b → GJ g x nL tgt lv rest ad σ) (kf : a = b → GJ g x nL (pc + 4) lv rest ad σ) : GJ g x nL pc lv (.long b :: .long a :: rest) ad σ :=
  r_lcmp K d1 (fun h => r_if_ne K tgt d2 ht (fun _ => kt (fun z => by rw [z] at h; exact Int64.lt_irrefl h)) (fun z => absurd z (by decide))) (fun h => r_if_ne K tgt d2 ht (fun z => absurd rfl z) (fun _ => kf (h))) (fun h => r_if_ne K tgt d2 ht (fun _ => kt (fun z => by rw [z] at h; exact Int64.lt_irrefl h)) (fun z => absurd z (by decide)))
theorem n_lcmp_ne (K : Ok g x cc own nL fr lo) {a b : Nat} {off : Int} (tgt : Nat) (hu : a < 2 ^ 63 ∧ b < 2 ^ 63) (d1 : decode cc pc = .ok (.lcmp, 1)) (d2 : decode cc (pc + 1) = .ok (.ifCond .ne off, 3)) (ht : ((pc + 1 : Nat) : Int) + off = (tgt : Int)) (kt : a ≠ b → GJ g x nL tgt lv rest ad σ) (kf : a = b → GJ g x nL (pc + 4) lv rest ad σ) : GJ g x nL pc lv (.long (lN b) :: .long (lN a) :: rest) ad σ :=
  r_lcmp_ne K tgt trivial d1 d2 ht (fun h => kt (fun z => h (by rw [z]))) (fun h => kf ((pk_lEQ hu.1 hu.2).mp h))
theorem r_lcmp_lt (K : Ok g x cc own nL fr lo) {a b : Int64} {off : Int} (tgt : Nat) (hu : True) (d1 : decode cc pc = .ok (.lcmp, 1)) (d2 : decode cc (pc + 1) = .ok (.ifCond .lt off, 3)) (ht : ((pc + 1 : Nat) : Int) + off = (tgt : Int)) (kt : a < b → GJ g x nL tgt lv rest ad σ) (kf : b ≤ a → GJ g x nL (pc + 4) lv rest ad σ) : GJ g x nL pc lv (.long b :: .long a :: rest) ad σ :=
  r_lcmp K d1 (fun h => r_if_lt K tgt d2 ht (fun _ => kt (h)) (fun z => absurd (by decide) z)) (fun h => r_if_lt K tgt d2 ht (fun z => absurd z (by decide)) (fun _ => kf (by rw [h]; exact Int64.le_refl _))) (fun h => r_if_lt K tgt d2 ht (fun z => absurd z (by decide)) (fun _ => kf (Int64.le_of_lt h)))
theorem n_lcmp_lt (K : Ok g x cc own nL fr lo) {a b : Nat} {off : Int} (tgt : Nat) (hu : a < 2 ^ 63 ∧ b < 2 ^ 63) (d1 : decode cc pc = .ok (.lcmp, 1)) (d2 : decode cc (pc + 1) = .ok (.ifCond .lt off, 3)) (ht : ((pc + 1 : Nat) : Int) + off = (tgt : Int)) (kt : a < b → GJ g x nL tgt lv rest ad σ) (kf : b ≤ a → GJ g x nL (pc + 4) lv rest ad σ) : GJ g x nL pc lv (.long (lN b) :: .long (lN a) :: rest) ad σ :=
  r_lcmp_lt K tgt trivial d1 d2 ht (fun h => kt ((pk_lLT hu.1 hu.2).mp h)) (fun h => kf ((pk_lLE hu.2 hu.1).mp h))
theorem r_lcmp_ge (K : Ok g x cc own nL fr lo) {a b : Int64} {off : Int} (tgt : Nat) (hu : True) (d1 : decode cc pc = .ok (.lcmp, 1)) (d2 : decode cc (pc + 1) = .ok (.ifCond .ge off, 3)) (ht : ((pc + 1 : Nat) : Int) + off = (tgt : Int)) (kt : b ≤ a → GJ g x nL tgt lv rest ad σ) (kf : a < b → GJ g x nL (pc + 4) lv rest ad σ) : GJ g x nL pc lv (.long b :: .long a :: rest) ad σ :=
  r_lcmp K d1 (fun h => r_if_ge K tgt d2 ht (fun z => absurd z (by decide)) (fun _ => kf (h))) (fun h => r_if_ge K tgt d2 ht (fun _ => kt (by rw [h]; exact Int64.le_refl _)) (fun z => absurd (by decide) z)) (fun h => r_if_ge K tgt d2 ht (fun _ => kt (Int64.le_of_lt h)) (fun z => absurd (by decide) z))
theorem n_lcmp_ge (K : Ok g x cc own nL fr lo) {a b : Nat} {off : Int} (tgt : Nat) (hu : a < 2 ^ 63 ∧ b < 2 ^ 63) (d1 : decode cc pc = .ok (.lcmp, 1)) (d2 : decode cc (pc + 1) = .ok (.ifCond .ge off, 3)) (ht : ((pc + 1 : Nat) : Int) + off = (tgt : Int)) (kt : b ≤ a → GJ g x nL tgt lv rest ad σ) (kf : a < b → GJ g x nL (pc + 4) lv rest ad σ) : GJ g x nL pc lv (.long (lN b) :: .long (lN a) :: rest) ad σ :=
  r_lcmp_ge K tgt trivial d1 d2 ht (fun h => kt ((pk_lLE hu.2 hu.1).mp h)) (fun h => kf ((pk_lLT hu.1 hu.2).mp h))
theorem r_lcmp_gt (K : Ok g x cc own nL fr lo) {a b : Int64} {off : Int} (tgt : Nat) (hu : True) (d1 : decode cc pc = .ok (.lcmp, 1)) (d2 : decode cc (pc + 1) = .ok (.ifCond .gt off, 3)) (ht : ((pc + 1 : Nat) : Int) + off = (tgt : Int)) (kt : b < a → GJ g x nL tgt lv rest ad σ) (kf : a ≤ b → GJ g x nL (pc + 4) lv rest ad σ) : GJ g x nL pc lv (.long b :: .long a :: rest) ad σ :=
  r_lcmp K d1 (fun h => r_if_gt K tgt d2 ht (fun z => absurd z (by decide)) (fun _ => kf (Int64.le_of_lt h))) (fun h => r_if_gt K tgt d2 ht (fun z => absurd z (by decide)) (fun _ => kf (by rw [h]; exact Int64.le_refl _))) (fun h => r_if_gt K tgt d2 ht (fun _ => kt (h)) (fun z => absurd (by decide) z))
theorem n_lcmp_gt (K : Ok g x cc own nL fr lo) {a b : Nat} {off : Int} (tgt : Nat) (hu : a < 2 ^ 63 ∧ b < 2 ^ 63) (d1 : decode cc pc = .ok (.lcmp, 1)) (d2 : decode cc (pc + 1) = .ok (.ifCond .gt off, 3)) (ht : ((pc + 1 : Nat) : Int) + off = (tgt : Int)) (kt : b < a → GJ g x nL tgt lv rest ad σ) (kf : a ≤ b → GJ g x nL (pc + 4) lv rest ad σ) : GJ g x nL pc lv (.long (lN b) :: .long (lN a) :: rest) ad σ :=
  r_lcmp_gt K tgt trivial d1 d2 ht (fun h => kt ((pk_lLT hu.2 hu.1).mp h)) (fun h => kf ((pk_lLE hu.1 hu.2).mp h))
theorem r_lcmp_le (K : Ok g x cc own nL fr lo) {a b : Int64} {off : Int} (tgt : Nat) (hu : True) (d1 : decode cc pc = .ok (.lcmp, 1)) (d2 : decode cc (pc + 1) = .ok (.ifCond .le off, 3)) (ht : ((pc + 1 : Nat) : Int) + off = (tgt : Int)) (kt : a ≤ b → GJ g x nL tgt lv rest ad σ) (kf : b < a → GJ g x nL (pc + 4) lv rest ad σ) : GJ g x nL pc lv (.long b :: .long a :: rest) ad σ :=
  r_lcmp K d1 (fun h => r_if_le K tgt d2 ht (fun _ => kt (Int64.le_of_lt h)) (fun z => absurd (by decide) z)) (fun h => r_if_le K tgt d2 ht (fun _ => kt (by rw [h]; exact Int64.le_refl _)) (fun z => absurd (by decide) z)) (fun h => r_if_le K tgt d2 ht (fun z => absurd z (by decide)) (fun _ => kf (h)))
theorem n_lcmp_le (K : Ok g x cc own nL fr lo) {a b : Nat} {off : Int} (tgt : Nat) (hu : a < 2 ^ 63 ∧ b < 2 ^ 63) (d1 : decode cc pc = .ok (.lcmp, 1)) (d2 : decode cc (pc + 1) = .ok (.ifCond .le off, 3)) (ht : ((pc + 1 : Nat) : Int) + off = (tgt : Int)) (kt : a ≤ b → GJ g x nL tgt lv rest ad σ) (kf : b < a → GJ g x nL (pc + 4) lv rest ad σ) : GJ g x nL pc lv (.long (lN b) :: .long (lN a) :: rest) ad σ :=
  r_lcmp_le K tgt trivial d1 d2 ht (fun h => kt ((pk_lLE hu.1 hu.2).mp h)) (fun h => kf ((pk_lLT hu.2 hu.1).mp h))
end RULES3
