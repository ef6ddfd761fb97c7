set_option maxHeartbeats 4000000 in
set_option maxRecDepth 10000 in
theorem law_loop {g : Gp} {x : Cx} {b L : Nat} {xs : Nat → Int32} (K : Ok g x cL_law RL 4 2048 84000) (hX : ScrX g x b L xs) (hend : ∀ (lv : List (Nat × Value)) (ad : Nat → Nat) (σ : Sg), GJ g x 4 1043 lv [] ad σ) :
    ∀ (n i : Nat) (ad : Nat → Nat) (σ : Sg), n = L - i → i ≤ L → Inv σ → GJ g x 4 18 [(0, .ref (b)), (1, .ref (ad 61)), (2, .ref (ad 71)), (3, .int (nI (i)))] [] ad σ := by
  have hL := hX.2.2.2
  intro n
  induction n using Nat.strongRecOn with
  | _ n ih =>
    intro i ad σ hn hiL hv
    have k : i + 5 ≤ L → ∀ (a2 : Nat → Nat) (s2 : Sg), Inv s2 → GJ g x 4 1037 [(0, .ref (b)), (1, .ref (a2 61)), (2, .ref (a2 71)), (3, .int (nI (i)))] [] a2 s2 := by
      intro hi a2 s2 h2
      refine r_iinc K (nI (i + 5)) rfl (nI_add _ 5) (lv' := [(3, .int (nI (i + 5))), (0, .ref (b)), (1, .ref (a2 61)), (2, .ref (a2 71))]) (by decide) rfl dL_law_1037 ?_
      refine r_goto K 18 dL_law_1040 (by decide) ?_
      refine r_pick [1, 2, 3, 0] (lv' := [(0, .ref (b)), (1, .ref (a2 61)), (2, .ref (a2 71)), (3, .int (nI (i + 5)))]) rfl ?_
      exact ih (L - (i + 5)) (by omega) (i + 5) a2 s2 rfl hi h2
    refine r_iload_n K 3 rfl rfl dL_law_18 ?_
    refine r_aload_n K 0 rfl rfl dL_law_19 ?_
    refine r_slen K hX dL_law_20 ?_
    refine r_iconst K (nI 5) (by decide) dL_law_21 ?_
    refine r_isub K dL_law_22 ?_
    refine r_icmp_gt K 1043 dL_law_23 (by decide) (fun _ => hend _ _ _) (fun hc => ?_)
    have hi : i + 5 ≤ L := by
      rw [Int32.lt_iff_toInt_lt, pk_sub_toInt (by omega) (by decide), nI_toInt (by omega)] at hc
      omega
    have k := k hi
    refine r_aload_n K 0 rfl rfl dL_law_26 ?_
    refine r_iload_n K 3 rfl rfl dL_law_27 ?_
    refine r_sld K hX (i := i) (by omega) dL_law_28 ?_
    refine r_bipush K (nI 31) (by decide) dL_law_29 ?_
    refine r_iand K dL_law_31 ?_
    generalize xs i &&& nI 31 = v
    by_cases q0 : v = nI 0
    · subst q0
      refine r_tableIn K 148 dL_law_32 (by decide) (by decide) rfl (by decide) ?_
      exact law_0 K hX hi hv k
    by_cases q1 : v = nI 1
    · subst q1
      refine r_tableIn K 211 dL_law_32 (by decide) (by decide) rfl (by decide) ?_
      exact law_1 K hX hi hv k
    by_cases q2 : v = nI 2
    · subst q2
      refine r_tableIn K 224 dL_law_32 (by decide) (by decide) rfl (by decide) ?_
      exact law_2 K hX hi hv k
    by_cases q3 : v = nI 3
    · subst q3
      refine r_tableIn K 237 dL_law_32 (by decide) (by decide) rfl (by decide) ?_
      exact law_3 K hX hi hv k
    by_cases q4 : v = nI 4
    · subst q4
      refine r_tableIn K 250 dL_law_32 (by decide) (by decide) rfl (by decide) ?_
      exact law_4 K hX hi hv k
    by_cases q5 : v = nI 5
    · subst q5
      refine r_tableIn K 283 dL_law_32 (by decide) (by decide) rfl (by decide) ?_
      exact law_5 K hX hi hv k
    by_cases q6 : v = nI 6
    · subst q6
      refine r_tableIn K 326 dL_law_32 (by decide) (by decide) rfl (by decide) ?_
      exact law_6 K hX hi hv k
    by_cases q7 : v = nI 7
    · subst q7
      refine r_tableIn K 359 dL_law_32 (by decide) (by decide) rfl (by decide) ?_
      exact law_7 K hX hi hv k
    by_cases q8 : v = nI 8
    · subst q8
      refine r_tableIn K 392 dL_law_32 (by decide) (by decide) rfl (by decide) ?_
      exact law_8 K hX hi hv k
    by_cases q9 : v = nI 9
    · subst q9
      refine r_tableIn K 445 dL_law_32 (by decide) (by decide) rfl (by decide) ?_
      exact law_9 K hX hi hv k
    by_cases q10 : v = nI 10
    · subst q10
      refine r_tableIn K 478 dL_law_32 (by decide) (by decide) rfl (by decide) ?_
      exact law_10 K hX hi hv k
    by_cases q11 : v = nI 11
    · subst q11
      refine r_tableIn K 501 dL_law_32 (by decide) (by decide) rfl (by decide) ?_
      exact law_11 K hX hi hv k
    by_cases q12 : v = nI 12
    · subst q12
      refine r_tableIn K 534 dL_law_32 (by decide) (by decide) rfl (by decide) ?_
      exact law_12 K hX hi hv k
    by_cases q13 : v = nI 13
    · subst q13
      refine r_tableIn K 557 dL_law_32 (by decide) (by decide) rfl (by decide) ?_
      exact law_13 K hX hi hv k
    by_cases q14 : v = nI 14
    · subst q14
      refine r_tableIn K 580 dL_law_32 (by decide) (by decide) rfl (by decide) ?_
      exact law_14 K hX hi hv k
    by_cases q15 : v = nI 15
    · subst q15
      refine r_tableIn K 603 dL_law_32 (by decide) (by decide) rfl (by decide) ?_
      exact law_15 K hX hi hv k
    by_cases q16 : v = nI 16
    · subst q16
      refine r_tableIn K 646 dL_law_32 (by decide) (by decide) rfl (by decide) ?_
      exact law_16 K hX hi hv k
    by_cases q17 : v = nI 17
    · subst q17
      refine r_tableIn K 689 dL_law_32 (by decide) (by decide) rfl (by decide) ?_
      exact law_17 K hX hi hv k
    by_cases q18 : v = nI 18
    · subst q18
      refine r_tableIn K 743 dL_law_32 (by decide) (by decide) rfl (by decide) ?_
      exact law_18 K hX hi hv k
    by_cases q19 : v = nI 19
    · subst q19
      refine r_tableIn K 797 dL_law_32 (by decide) (by decide) rfl (by decide) ?_
      exact law_19 K hX hi hv k
    by_cases q20 : v = nI 20
    · subst q20
      refine r_tableIn K 851 dL_law_32 (by decide) (by decide) rfl (by decide) ?_
      exact law_20 K hX hi hv k
    by_cases q21 : v = nI 21
    · subst q21
      refine r_tableIn K 905 dL_law_32 (by decide) (by decide) rfl (by decide) ?_
      exact law_21 K hX hi hv k
    by_cases q22 : v = nI 22
    · subst q22
      refine r_tableIn K 938 dL_law_32 (by decide) (by decide) rfl (by decide) ?_
      exact law_22 K hX hi hv k
    by_cases q23 : v = nI 23
    · subst q23
      refine r_tableIn K 981 dL_law_32 (by decide) (by decide) rfl (by decide) ?_
      exact law_23 K hX hi hv k
    by_cases q24 : v = nI 24
    · subst q24
      refine r_tableIn K 1014 dL_law_32 (by decide) (by decide) rfl (by decide) ?_
      exact law_24 K hX hi hv k
    refine r_tableOut K 1037 dL_law_32 (and31 (fun j hj => by rcases (show j = 0 ∨ j = 1 ∨ j = 2 ∨ j = 3 ∨ j = 4 ∨ j = 5 ∨ j = 6 ∨ j = 7 ∨ j = 8 ∨ j = 9 ∨ j = 10 ∨ j = 11 ∨ j = 12 ∨ j = 13 ∨ j = 14 ∨ j = 15 ∨ j = 16 ∨ j = 17 ∨ j = 18 ∨ j = 19 ∨ j = 20 ∨ j = 21 ∨ j = 22 ∨ j = 23 ∨ j = 24 by omega) with rfl | rfl | rfl | rfl | rfl | rfl | rfl | rfl | rfl | rfl | rfl | rfl | rfl | rfl | rfl | rfl | rfl | rfl | rfl | rfl | rfl | rfl | rfl | rfl | rfl <;> assumption)) (by decide) ?_
    exact k ad σ hv
