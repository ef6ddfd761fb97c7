theorem dv_le {X : Tv} {a : Nat} {j : Nat} (hj : j ≤ 2) (h : ∀ i, i < j → 48 ≤ X 1 (a + i) ∧ X 1 (a + i) ≤ 57) : dvS X a j ≤ 99 := by
  rcases (show j = 0 ∨ j = 1 ∨ j = 2 by omega) with rfl | rfl | rfl
  · rw [dvS]; omega
  · have := h 0 (by omega); rw [dvS, dvS]; omega
  · have h0 := h 0 (by omega); have h1 := h 1 (by omega); rw [dvS, dvS, dvS]; omega
theorem digs {X : Tv} {p : Nat} (hk : kdS X (tkS X p) = 1) {i : Nat} (hi : i < teS X p - tkS X p) : tkS X p + i < X 0 0 ∧ 48 ≤ X 1 (tkS X p + i) ∧ X 1 (tkS X p + i) ≤ 57 := by
  have e : teS X p = rnS X isDi (tkS X p) := by unfold teS teA; rw [if_neg (by omega), if_pos hk]
  rw [e] at hi
  obtain ⟨h1, h2⟩ := rnS_in (X := X) (c := isDi) (p := tkS X p) (q := tkS X p + i) (by omega) (by omega)
  exact ⟨h1, of_decide_eq_true h2⟩
theorem okN_t {X : Tv} {p lo hi : Nat} (h : okN X p lo hi = true) : isN X p = true ∧ lo ≤ nvS X p ∧ nvS X p ≤ hi := by
  unfold okN at h
  rw [Bool.and_eq_true] at h
  exact ⟨h.1, of_decide_eq_true h.2⟩
def needS (w : Nat) : Nat := if w ≤ 2 then 2 else if w = 3 then 0 else if w ≤ 5 then 5 else 1
/-- the numbers of a line are as they must be -/
def NOk (T : Tv) (w : Nat) (N : Nat → Nat) : Prop := (w ≤ 2 → T 10 0 < 8 ∧ N 1 ≤ 7 ∧ 1 ≤ N 2 ∧ N 2 ≤ 20) ∧ (w = 4 → N 1 ≤ 5 ∧ N 2 ≤ 23 ∧ N 2 ≤ N 3 ∧ N 3 ≤ 23 ∧ N 4 ≤ 7 ∧ N 5 ≤ 9) ∧ (w = 5 → N 1 ≤ 3 ∧ 1 ≤ N 2 ∧ N 2 ≤ 60 ∧ 1 ≤ N 3 ∧ N 3 ≤ 5 ∧ N 4 ≤ 4 ∧ N 5 ≤ 99) ∧ (w = 6 → N 1 ≤ 3) ∧ (w = 7 → N 1 ≤ 9) ∧ w ≤ 7
theorem l1_t {X : Tv} {p lo hi : Nat} {k : Bool × Nat} (h : (l1 X p lo hi k).1 = true) : okN X p lo hi = true ∧ l1 X p lo hi k = k := by
  unfold l1 at h ⊢
  by_cases q : okN X p lo hi = true
  · rw [if_pos q]; exact ⟨q, rfl⟩
  · rw [if_neg q] at h; cases h
theorem l2_t {X : Tv} {p : Nat} {k : Bool × Nat} (h : (l2 X p k).1 = true) : okK X p = true ∧ l2 X p k = k := by
  unfold l2 at h ⊢
  by_cases q : okK X p = true
  · rw [if_pos q]; exact ⟨q, rfl⟩
  · rw [if_neg q] at h; cases h
theorem lineR_ok {X T : Tv} {p : Nat} (h : (lineR X p (T 10 0)).1 = true) : NOk T (wordS X p) (numS X p) := by
  unfold lineR at h
  by_cases w2 : wordS X p ≤ 2
  · rw [if_pos w2] at h
    by_cases r8 : T 10 0 < 8
    · rw [if_pos r8] at h
      obtain ⟨a1, e1⟩ := l1_t h; rw [e1] at h
      obtain ⟨a2, e2⟩ := l1_t h
      have b1 := (okN_t a1).2; have b2 := (okN_t a2).2
      refine ⟨fun _ => ⟨r8, b1.2, b2.1, b2.2⟩, fun z => by omega, fun z => by omega, fun z => by omega, fun z => by omega, by omega⟩
    · rw [if_neg r8] at h; cases h
  · rw [if_neg w2] at h
    by_cases w3 : wordS X p = 3
    · exact ⟨fun z => by omega, fun z => by omega, fun z => by omega, fun z => by omega, fun z => by omega, by omega⟩
    · rw [if_neg w3] at h
      by_cases w4 : wordS X p = 4
      · rw [if_pos w4] at h
        obtain ⟨a1, e1⟩ := l1_t h; rw [e1] at h
        obtain ⟨a2, e2⟩ := l1_t h; rw [e2] at h
        obtain ⟨a3, e3⟩ := l1_t h; rw [e3] at h
        obtain ⟨a4, e4⟩ := l1_t h; rw [e4] at h
        obtain ⟨a5, e5⟩ := l1_t h
        have b1 := (okN_t a1).2; have b2 := (okN_t a2).2; have b3 := (okN_t a3).2; have b4 := (okN_t a4).2; have b5 := (okN_t a5).2
        have e : numS X p 4 = nvS X (teS X (teS X (teS X (teS X p)))) := by show (if wordS X p = 5 then _ else _) = _; rw [if_neg (by omega)]
        refine ⟨fun z => by omega, fun _ => ⟨b1.2, b2.2, b3.1, b3.2, by rw [e]; exact b4.2, b5.2⟩, fun z => by omega, fun z => by omega, fun z => by omega, by omega⟩
      · rw [if_neg w4] at h
        by_cases w5 : wordS X p = 5
        · rw [if_pos w5] at h
          obtain ⟨a1, e1⟩ := l1_t h; rw [e1] at h
          obtain ⟨a2, e2⟩ := l1_t h; rw [e2] at h
          obtain ⟨a3, e3⟩ := l1_t h; rw [e3] at h
          obtain ⟨a4, e4⟩ := l2_t h; rw [e4] at h
          obtain ⟨a5, e5⟩ := l1_t h
          have b1 := (okN_t a1).2; have b2 := (okN_t a2).2; have b3 := (okN_t a3).2; have b4 := of_decide_eq_true a4; have b5 := (okN_t a5).2
          have e : numS X p 4 = kiteS X (teS X (teS X (teS X (teS X p)))) := by show (if wordS X p = 5 then _ else _) = _; rw [if_pos w5]
          refine ⟨fun z => by omega, fun z => by omega, fun _ => ⟨b1.2, b2.1, b2.2, b3.1, b3.2, by rw [e]; omega, b5.2⟩, fun z => by omega, fun z => by omega, by omega⟩
        · rw [if_neg w5] at h
          by_cases w6 : wordS X p = 6
          · rw [if_pos w6] at h
            obtain ⟨a1, e1⟩ := l1_t h
            have b1 := (okN_t a1).2
            refine ⟨fun z => by omega, fun z => by omega, fun z => by omega, fun _ => b1.2, fun z => by omega, by omega⟩
          · rw [if_neg w6] at h
            by_cases w7 : wordS X p = 7
            · rw [if_pos w7] at h
              obtain ⟨a1, e1⟩ := l1_t h
              have b1 := (okN_t a1).2
              refine ⟨fun z => by omega, fun z => by omega, fun z => by omega, fun z => by omega, fun _ => b1.2, by omega⟩
            · rw [if_neg w7] at h; cases h
theorem teS5_le {X : Tv} {p : Nat} (h : p ≤ X 0 0) : teS X p ≤ X 0 0 ∧ teS X (teS X p) ≤ X 0 0 ∧ teS X (teS X (teS X p)) ≤ X 0 0 ∧ teS X (teS X (teS X (teS X p))) ≤ X 0 0 ∧ teS X (teS X (teS X (teS X (teS X p)))) ≤ X 0 0 ∧ teS X (teS X (teS X (teS X (teS X (teS X p))))) ≤ X 0 0 :=
  ⟨teS_le h, teS_le (teS_le h), teS_le (teS_le (teS_le h)), teS_le (teS_le (teS_le (teS_le h))), teS_le (teS_le (teS_le (teS_le (teS_le h)))), teS_le (teS_le (teS_le (teS_le (teS_le (teS_le h)))))⟩
theorem lineR_le {X : Tv} {p rc : Nat} (h : p ≤ X 0 0) : (lineR X p rc).2 ≤ X 0 0 := by
  obtain ⟨a1, a2, a3, a4, a5, a6⟩ := teS5_le h
  have b0 := tkS_le h; have b1 := tkS_le a1; have b2 := tkS_le a2; have b3 := tkS_le a3; have b4 := tkS_le a4; have b5 := tkS_le a5
  have k1 : ∀ {q lo hi : Nat} {k : Bool × Nat}, tkS X q ≤ X 0 0 → k.2 ≤ X 0 0 → (l1 X q lo hi k).2 ≤ X 0 0 := fun u v => by unfold l1; split; exact v; exact u
  have k2 : ∀ {q : Nat} {k : Bool × Nat}, tkS X q ≤ X 0 0 → k.2 ≤ X 0 0 → (l2 X q k).2 ≤ X 0 0 := fun u v => by unfold l2; split; exact v; exact u
  unfold lineR
  split
  · split
    · exact k1 b1 (k1 b2 a3)
    · exact b0
  · split
    · exact a1
    · split
      · exact k1 b1 (k1 b2 (k1 b3 (k1 b4 (k1 b5 a6))))
      · split
        · exact k1 b1 (k1 b2 (k1 b3 (k2 b4 (k1 b5 a6))))
        · split
          · exact k1 b1 a2
          · split
            · exact k1 b1 a2
            · exact b0
theorem tell_rc (T : Tv) (w : Nat) (N : Nat → Nat) : tellS T w N 10 0 = rcS w (T 10 0) := by
  unfold tellS rcS
  split
  · rw [if_pos rfl]
  · split
    · rw [if_pos rfl]
    · split
      · split <;> rfl
      · split
        · split <;> rfl
        · split
          · split <;> rename_i q
            · exact absurd q.1 (by decide)
            · rfl
          · split <;> rfl
theorem TOk_tell {T : Tv} {w : Nat} {N : Nat → Nat} (hT : TOk T) (hN : NOk T w N) : TOk (tellS T w N) := by
  obtain ⟨t1, t2, t3, t4, t5, t6, t7, t8⟩ := hT
  obtain ⟨n0, n4, n5, n6, n7, nw⟩ := hN
  rcases (show w ≤ 2 ∨ w = 3 ∨ w = 4 ∨ w = 5 ∨ w = 6 ∨ w = 7 by omega) with h | h | h | h | h | h
  · obtain ⟨a1, a2, a3, a4⟩ := n0 h
    have e : ∀ k i, tellS T w N k i = (if k = 10 then T 10 0 + 1 else if i = T 10 0 then (if k = 0 then N 1 else if k = 1 then N 2 else if k = 2 then w else T k i) else T k i) := fun k i => by unfold tellS; rw [if_pos h]
    refine ⟨fun k i => ?_, ?_, ?_, fun i => ⟨?_, ?_, ?_⟩, fun i hi => ?_, fun j => ⟨?_, ?_⟩, fun b => ⟨?_, ?_, ?_, ?_, ?_⟩, fun b hb => ?_⟩
    · rw [e]; have := t1 k i; split; omega; split; split; omega; split; omega; split; omega; exact this; exact this
    · rw [e]; simp; omega
    · rw [e]; simp; exact t3
    · rw [e]; simp; split; omega; exact (t4 i).1
    · rw [e]; simp; split; omega; exact (t4 i).2.1
    · rw [e]; simp; split; omega; exact (t4 i).2.2
    · rw [e] at hi ⊢; simp at hi ⊢; split; omega; exact t5 i (by omega)
    · rw [e]; simp; exact (t6 j).1
    · rw [e]; simp; exact (t6 j).2
    · rw [e]; simp; exact (t7 b).1
    · rw [e]; simp; exact (t7 b).2.1
    · rw [e]; simp; exact (t7 b).2.2.1
    · rw [e]; simp; exact (t7 b).2.2.2.1
    · rw [e]; simp; exact (t7 b).2.2.2.2
    · rw [e] at hb; rw [e, e]; simp at hb ⊢; exact t8 b hb
  · subst h
    have e : ∀ k i, tellS T 3 N k i = (if k = 10 then 0 else T k i) := fun k i => by unfold tellS; rw [if_neg (by decide), if_pos rfl]
    refine ⟨fun k i => ?_, ?_, ?_, fun i => ⟨?_, ?_, ?_⟩, fun i hi => ?_, fun j => ⟨?_, ?_⟩, fun b => ⟨?_, ?_, ?_, ?_, ?_⟩, fun b hb => ?_⟩
    · rw [e]; have := t1 k i; split; omega; exact this
    · rw [e]; simp
    · rw [e]; simp; exact t3
    · rw [e]; simp; exact (t4 i).1
    · rw [e]; simp; exact (t4 i).2.1
    · rw [e]; simp; exact (t4 i).2.2
    · rw [e] at hi; simp at hi
    · rw [e]; simp; exact (t6 j).1
    · rw [e]; simp; exact (t6 j).2
    · rw [e]; simp; exact (t7 b).1
    · rw [e]; simp; exact (t7 b).2.1
    · rw [e]; simp; exact (t7 b).2.2.1
    · rw [e]; simp; exact (t7 b).2.2.2.1
    · rw [e]; simp; exact (t7 b).2.2.2.2
    · rw [e] at hb; rw [e, e]; simp at hb ⊢; exact t8 b hb
  · subst h
    obtain ⟨a1, a2, a3, a4, a5, a6⟩ := n4 rfl
    have e : ∀ k i, tellS T 4 N k i = (if 24 * N 1 + N 2 ≤ i ∧ i ≤ 24 * N 1 + N 3 then (if k = 3 then N 4 else if k = 4 then N 5 else T k i) else T k i) := fun k i => by unfold tellS; rw [if_neg (by decide), if_neg (by decide), if_pos rfl]
    refine ⟨fun k i => ?_, ?_, ?_, fun i => ⟨?_, ?_, ?_⟩, fun i hi => ?_, fun j => ⟨?_, ?_⟩, fun b => ⟨?_, ?_, ?_, ?_, ?_⟩, fun b hb => ?_⟩
    · rw [e]; have := t1 k i; split; split; omega; split; omega; exact this; exact this
    · rw [e]; simp; exact t2
    · rw [e]; simp; exact t3
    · rw [e]; simp; exact (t4 i).1
    · rw [e]; simp; exact (t4 i).2.1
    · rw [e]; simp; exact (t4 i).2.2
    · rw [e] at hi ⊢; simp at hi ⊢; exact t5 i hi
    · rw [e]; simp; split; omega; exact (t6 j).1
    · rw [e]; simp; split; omega; exact (t6 j).2
    · rw [e]; simp; exact (t7 b).1
    · rw [e]; simp; exact (t7 b).2.1
    · rw [e]; simp; exact (t7 b).2.2.1
    · rw [e]; simp; exact (t7 b).2.2.2.1
    · rw [e]; simp; exact (t7 b).2.2.2.2
    · rw [e] at hb; rw [e, e]; simp at hb ⊢; exact t8 b hb
  · subst h
    obtain ⟨a1, a2, a3, a4, a5, a6, a7⟩ := n5 rfl
    have e : ∀ k i, tellS T 5 N k i = (if i = N 1 then (if k = 5 then 1 else if k = 6 then N 2 else if k = 7 then N 3 else if k = 8 then N 4 else if k = 9 then N 5 else T k i) else T k i) := fun k i => by unfold tellS; rw [if_neg (by decide), if_neg (by decide), if_neg (by decide), if_pos rfl]
    refine ⟨fun k i => ?_, ?_, ?_, fun i => ⟨?_, ?_, ?_⟩, fun i hi => ?_, fun j => ⟨?_, ?_⟩, fun b => ⟨?_, ?_, ?_, ?_, ?_⟩, fun b hb => ?_⟩
    · rw [e]; have := t1 k i; split; split; omega; split; omega; split; omega; split; omega; split; omega; exact this; exact this
    · rw [e]; simp; exact t2
    · rw [e]; simp; exact t3
    · rw [e]; simp; exact (t4 i).1
    · rw [e]; simp; exact (t4 i).2.1
    · rw [e]; simp; exact (t4 i).2.2
    · rw [e] at hi ⊢; simp at hi ⊢; exact t5 i hi
    · rw [e]; simp; exact (t6 j).1
    · rw [e]; simp; exact (t6 j).2
    · rw [e]; simp; split; omega; exact (t7 b).1
    · rw [e]; simp; split; omega; exact (t7 b).2.1
    · rw [e]; simp; split; omega; exact (t7 b).2.2.1
    · rw [e]; simp; split; omega; exact (t7 b).2.2.2.1
    · rw [e]; simp; split; omega; exact (t7 b).2.2.2.2
    · rw [e] at hb; rw [e, e]; simp at hb ⊢
      by_cases q : b = N 1
      · rw [if_pos q, if_pos q]; omega
      · simp only [if_neg q]; exact t8 b (hb q)
  · subst h
    have a1 := n6 rfl
    have e : ∀ k i, tellS T 6 N k i = (if k = 5 ∧ i = N 1 then 0 else T k i) := fun k i => by unfold tellS; rw [if_neg (by decide), if_neg (by decide), if_neg (by decide), if_neg (by decide), if_pos rfl]
    refine ⟨fun k i => ?_, ?_, ?_, fun i => ⟨?_, ?_, ?_⟩, fun i hi => ?_, fun j => ⟨?_, ?_⟩, fun b => ⟨?_, ?_, ?_, ?_, ?_⟩, fun b hb => ?_⟩
    · rw [e]; have := t1 k i; split; omega; exact this
    · rw [e]; simp; exact t2
    · rw [e]; simp; exact t3
    · rw [e]; simp; exact (t4 i).1
    · rw [e]; simp; exact (t4 i).2.1
    · rw [e]; simp; exact (t4 i).2.2
    · rw [e] at hi ⊢; simp at hi ⊢; exact t5 i hi
    · rw [e]; simp; exact (t6 j).1
    · rw [e]; simp; exact (t6 j).2
    · rw [e]; simp; split; omega; exact (t7 b).1
    · rw [e]; simp; exact (t7 b).2.1
    · rw [e]; simp; exact (t7 b).2.2.1
    · rw [e]; simp; exact (t7 b).2.2.2.1
    · rw [e]; simp; exact (t7 b).2.2.2.2
    · rw [e] at hb; rw [e, e]; simp at hb ⊢; exact t8 b (by split at hb; omega; exact hb)
  · subst h
    have a1 := n7 rfl
    have e : ∀ k i, tellS T 7 N k i = (if k = 11 then N 1 else T k i) := fun k i => by unfold tellS; rw [if_neg (by decide), if_neg (by decide), if_neg (by decide), if_neg (by decide), if_neg (by decide), if_pos rfl]
    refine ⟨fun k i => ?_, ?_, ?_, fun i => ⟨?_, ?_, ?_⟩, fun i hi => ?_, fun j => ⟨?_, ?_⟩, fun b => ⟨?_, ?_, ?_, ?_, ?_⟩, fun b hb => ?_⟩
    · rw [e]; have := t1 k i; split; omega; exact this
    · rw [e]; simp; exact t2
    · rw [e]; simp; exact a1
    · rw [e]; simp; exact (t4 i).1
    · rw [e]; simp; exact (t4 i).2.1
    · rw [e]; simp; exact (t4 i).2.2
    · rw [e] at hi ⊢; simp at hi ⊢; exact t5 i hi
    · rw [e]; simp; exact (t6 j).1
    · rw [e]; simp; exact (t6 j).2
    · rw [e]; simp; exact (t7 b).1
    · rw [e]; simp; exact (t7 b).2.1
    · rw [e]; simp; exact (t7 b).2.2.1
    · rw [e]; simp; exact (t7 b).2.2.2.1
    · rw [e]; simp; exact (t7 b).2.2.2.2
    · rw [e] at hb; rw [e, e]; simp at hb ⊢; exact t8 b hb
