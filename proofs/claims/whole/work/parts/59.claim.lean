/-! THE CLAIM OUT OF ONE WALK OF THE LAW'S BODY. Your part is whole_start (and what it stands on); all else here is the same for every law, but numbers. -/
def R_law : String := "KiteBargesLaw"
def lw_P (b : Addr) (xs : List Int32) (args : Array Value) (s : State) : Prop := args = #[.ref b] ∧ s.IntsAt b xs ∧ xs.length ≤ 2560 ∧ (Jvm.Cond.and given_1 narrow_1).before args s = true
def lw_Q (_ : Array Value) (s : State) (o : Outcome) (t : State) : Prop := o = .returned (some (.int 1)) ∧ Framed s o t [] 600000 7302250
def lw_Z (below : List Frame) (a : Array Value) (s : State) : State → Prop := fun t => ∃ o, t.status = .running ∧ Ended t below o ∧ lw_Q a s o t
/-- the law's own end, with 1 on the stack, nothing written that was there before, its room as the claim has it -/
theorem lw_ret {p : Program} {l : Launch} {e : Env} {s : State} {m : MethodId} {below : List Frame} {meth : Method} {c : Code} {b : Nat} (hx : p.tables.exec = Jvm.exec) (hb : c.code = code) (hr : meth.sig.returnType = ret) (hlocks : meth.locks = false) {pc : Nat} {H : Heap} {ls : Array Slot} (hdg : decode code pc = .ok (.ireturn, 1)) : W p l e room_1 s m #[Value.ref b] below meth c H [] 600000 7302250 (lw_Z below #[Value.ref b] s) (F0 m pc ls [.int 1]) := by
  intro T hT X
  obtain ⟨fs, hret, hrun, hended, hW, hframe⟩ := X.leave (v := some (.int 1)) (hlocks := hlocks) (fun h => by rw [hr] at h; cases h)
  have hmeth' : T.vm.method? m = some meth := X.method'
  refine ⟨T.setFrames fs, ?_, .returned (some (.int 1)), hrun, hended, rfl, ⟨_, rfl⟩, hW, hframe⟩
  jvm_step X.here [X.here.top, hx, hb, hdg, hmeth', hr, ret, narrow_b1]
  (try refine ⟨rfl, ?_⟩); (try refine ⟨rfl, ?_⟩)
  first | (intro acts; rw [hret _ acts rfl rfl rfl]) | rw [hret _ _ rfl rfl rfl]
  exact Steps.refl _
/-- what holds at the law's entry: the machine, the code, the tables' words (any of lw_tbl by 'hts w (by decide +kernel)'), the script of L ints xs at the cell b, what the Statement gives of the start (any of its parts by flat_of_before) -/
def lw_At (p : Program) (s : State) (m : MethodId) (meth : Method) (c : Code) (b L : Nat) (xs : Nat → Int32) : Prop :=
  p.tables.exec = Jvm.exec ∧ c.code = code ∧ meth.sig.returnType = ret ∧ c.maxLocals = 4 ∧ s.vm.findClass R_law = some m.cls ∧ (∀ w ∈ lw_tbl, w.before #[Value.ref b] s = true) ∧ va_X b L xs s s.heap ∧ b < s.heap.size ∧ meth.locks = false ∧ (Jvm.Cond.and given_1 narrow_1).before #[Value.ref b] s = true
theorem law_end {g : Gp} {p : Program} {e : Env} {s : State} {m : MethodId} {below : List Frame} {meth : Method} {c : Code} {l : Launch} {b L : Nat} {xs : Nat → Int32} (C0 : lw_At p s m meth c b L xs) (hn : g.n0 = s.heap.size) {x : Cx} (hx : x = (p, l, e, room_1, s, m, #[Value.ref b], below, meth, c, 600000, 7302250, lw_Z below #[Value.ref b] s)) : ∀ (lv : List (Nat × Value)) (ad : Nat → Nat) (σ : Sg), GJ g x 4 1043 lv [] ad σ := by
  subst hx
  intro lv ad σ H locs ls hW hS hl
  obtain ⟨hx, hb, hr, hml, hown, hts, hX, hbl, hlocks, hgv⟩ := C0
  refine lv_iconst hx hb dL_law_1043 (v := 1) (by decide) ?_
  refine va_forget (fun q hq => ?_) ?_
  · have h := hS.2.2 q hq
    unfold AA at h
    rw [hn] at h
    exact h
  exact lw_ret hx hb hr hlocks dL_law_1044
/-- from the entry, for every script of at most 2560 ints, the law comes to its end with true -/
theorem whole_start {p : Program} {e : Env} {s : State} {m : MethodId} {below : List Frame} {meth : Method} {c : Code} (l : Launch) {b L : Nat} {xs : Nat → Int32} (hL : L ≤ 2560) (C0 : lw_At p s m meth c b L xs) : W p l e room_1 s m #[Value.ref b] below meth c s.heap [] 0 0 (lw_Z below #[Value.ref b] s) (entryFrame m ([Value.ref b] : List Value).toArray 4) := by
  obtain ⟨hx, hb, hr, hml, hown, hts, hX, hbl, hlocks, hgv⟩ := id C0
  obtain ⟨g, hn, hK, hN⟩ := st_K hts hgv
  have ht : ∀ w ∈ gtb, w.before #[Value.ref b] s = true := fun w hw => hts w (List.mem_filter.mp hw).1
  obtain ⟨x, hxe⟩ : ∃ x : Cx, x = (p, l, e, room_1, s, m, #[Value.ref b], below, meth, c, 600000, 7302250, lw_Z below #[Value.ref b] s) := ⟨_, rfl⟩
  have K : OkX g x cL_law RL 4 2048 84000 600000 7302250 meth.name := by
    subst hxe
    exact ⟨⟨hx, hb, hml, hown, ht, hK, Nat.le_refl _, Nat.le_refl _, Nat.le_refl _, Nat.le_refl _⟩, hN, Nat.le_of_eq hn, rfl, ⟨rfl, rfl⟩, rfl, rfl⟩
  have hSc : ScrX g x b L xs := by
    subst hxe
    exact ⟨hX, hbl, by unfold AA; rw [hn]; exact Nat.not_le.mpr hbl, hL⟩
  have hend := law_end (g := g) C0 hn hxe
  have main : GX g x 4 0 [(0, .ref b)] [] [] 0 0 := by
    refine gx_new K (ci := 6) (C := RX6) (T := TX6) (N := 7) (fs := [.null, .null, .null, .null, .null, .null, .null]) inX6 tyX6 tyX6_ok cl_RL_7 it_6 ini_6 rfl df_6 (Nat.le_of_ble_eq_true rfl) (Nat.le_of_ble_eq_true rfl) dL_law_0 (fun q0 => ?_)
    refine gx_dup K rfl dL_law_3 ?_
    refine gx_callI K (As := []) (rest := [.ref q0]) mi_X6_init ml_RL_9 (c_iX6) rfl rfl (Nat.le_of_ble_eq_true rfl) ⟨Nat.le_of_ble_eq_true rfl, Nat.le_of_ble_eq_true rfl⟩ (Nat.le_of_ble_eq_true rfl) (Nat.le_of_ble_eq_true rfl) dL_law_4 ?_
    rintro r H1 locs1 ls ⟨rfl, f, hf, hP, hD⟩ hS hl
    have k : GX g x 4 7 [(0, .ref b)] [.ref q0] (kbW g f) 57 8095 := by
      refine gx_astore K (lv' := [(1, .ref q0), (0, .ref b)]) 1 rfl (by decide) rfl dL_law_7 ?_
      refine gx_new K (ci := 7) (C := RX7) (T := TX7) (N := 28) (fs := [.int 0, .null, .null, .int 0, .int 0, .null, .int 0, .null, .int 0, .int 0, .long 0, .int 0, .int 0, .int 0, .int 0, .int 0, .null, .null, .null, .null, .null, .int 0, .int 0, .null, .null, .null, .null, .null]) inX7 tyX7 tyX7_ok cl_RL_10 it_7 ini_7 rfl df_7 (Nat.le_of_ble_eq_true rfl) (Nat.le_of_ble_eq_true rfl) dL_law_8 (fun q1 => ?_)
      refine gx_dup K rfl dL_law_11 ?_
      refine gx_callI K (As := []) (rest := [.ref q1]) mi_X7_init ml_RL_12 (c_iX7) rfl rfl (Nat.le_of_ble_eq_true rfl) ⟨Nat.le_of_ble_eq_true rfl, Nat.le_of_ble_eq_true rfl⟩ (Nat.le_of_ble_eq_true rfl) (Nat.le_of_ble_eq_true rfl) dL_law_12 ?_
      rintro r H1 locs1 ls ⟨rfl, Q, s2, hW, hsm, hRN⟩ hS hl
      have hv : Inv s2 := Inv_0 hsm hRN
      have e61 : adW f q1 Q 61 = q0 := hf
      have e71 : adW f q1 Q 71 = q1 := rfl
      have k2 : GJ g x 4 15 [(1, .ref q0), (0, .ref b)] [.ref q1] (adW f q1 Q) s2 := by
        refine r_astore_n K.1 (lv' := [(2, .ref q1), (1, .ref q0), (0, .ref b)]) 2 rfl (by decide) rfl dL_law_15 ?_
        refine r_iconst K.1 (nI 0) (by decide) dL_law_16 ?_
        refine r_istore_n K.1 (lv' := [(3, .int (nI 0)), (2, .ref q1), (1, .ref q0), (0, .ref b)]) 3 rfl (by decide) rfl dL_law_17 ?_
        refine r_pick [3, 2, 1, 0] (lv' := [(0, .ref b), (1, .ref q0), (2, .ref q1), (3, .int (nI 0))]) rfl ?_
        have h := law_loop K.1 hSc hend (L - 0) 0 (adW f q1 Q) s2 rfl (Nat.zero_le _) hv
        rw [e61, e71] at h
        exact h
      have hc : x.nc = 600000 := K.2.2.2.2.2.1
      have hc2 : x.ns = 7302250 := K.2.2.2.2.2.2
      refine W.widen (k := x.nc) (n := x.ns) (by rw [hc]; exact Nat.le_of_ble_eq_true rfl) (by rw [hc2]; exact Nat.le_of_ble_eq_true rfl) ?_
      exact k2 H1 locs1 ls hW hS hl
    exact k H1 locs1 ls hP hD hS hl
  have hl := lv_entry ([.ref b]) (n := 4) (Nat.le_of_ble_eq_true rfl)
  rw [lg_entry_eq]
  have hP : va_P g.D vwCl [] s.heap := fun k q h => by simp at h
  have hD : va_D (AA g) [] := ⟨fun i j p q h => by simp at h, fun k q h => by simp at h⟩
  subst hxe
  exact main s.heap [] _ hP hD va_S.rf hl
