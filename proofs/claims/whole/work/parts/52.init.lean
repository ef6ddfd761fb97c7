def NW (U : State) : Prop := va_Nw (.methodLinkNest "KiteBarges" 11 yX4_init "KiteBarges") U ∧ va_Nw (.methodLinkNest "KiteBarges" 18 yX5_init "KiteBarges") U ∧ va_Nw (.methodLinkNest "KiteBarges" 25 yX0_init "KiteBarges") U ∧ va_AO "KiteBarges$Fleet" U
theorem NW.go {s U : State} (h : NW s) (hW : s.WarmedH U.vm) : NW U := ⟨va_Nw.warmM hW h.1, va_Nw.warmM hW h.2.1, va_Nw.warmM hW h.2.2.1, va_AO.moved hW.alike h.2.2.2⟩
theorem NW.same {u U : State} (h : NW u) (hv : U.vm = u.vm) : NW U := ⟨va_Nw.same rfl hv.symm h.1, va_Nw.same rfl hv.symm h.2.1, va_Nw.same rfl hv.symm h.2.2.1, va_AO.moved (by rw [hv]; exact Vm.Alike.refl _) h.2.2.2⟩
def PX (g : Gp) (ws : va_W) (U : State) : Prop := KK g U ∧ NW U ∧ g.n0 ≤ U.heap.size ∧ va_P g.D vwCl ws U.heap ∧ va_D (AA g) ws
def QP (g : Gp) (P : Option Value → Heap → Prop) : Array Value → State → Outcome → State → Prop := fun _ st oc t => ∃ r : Option Value, oc = .returned r ∧ P r t.heap ∧ va_F (AA g) st t
def ConP (g : Gp) (l : Launch) (y : MethodName) (cc : ByteArray) (maxL : Nat) (ret : Option FieldType) (fr lo mc ms : Nat) (av : List Value) (ws : va_W) (P : Option Value → Heap → Prop) : Prop :=
  Met l y (wm y cc maxL ret) { frames := fr, cells := mc, slots := ms, locals := lo } (va_Pc av (PX g ws)) (QP g P) mc ms (AA g)
def RtP (g : Gp) (x : Cx) (ret : Option FieldType) (P : Option Value → Heap → Prop) : Prop := x.Q = MQ x.below (QP g P) x.args x.s x.nc x.ns (AA g) ∧ x.meth.sig.returnType = ret ∧ x.meth.locks = false
def OkX (g : Gp) (x : Cx) (cc : ByteArray) (own : String) (nL fr lo mc ms : Nat) (nm : String) : Prop := Ok g x cc own nL fr lo ∧ NW x.s ∧ g.n0 ≤ x.s.heap.size ∧ x.meth.name = nm ∧ (x.R.cells = mc ∧ x.R.slots = ms) ∧ x.nc = mc ∧ x.ns = ms
/-- the judgement over a world in the making -/
def GX (g : Gp) (x : Cx) (nL pc : Nat) (lv : List (Nat × Value)) (st : List Value) (ws : va_W) (nc ns : Nat) : Prop :=
  ∀ (H : Heap) (locs : List Loc) (ls : Array Slot), va_P g.D vwCl ws H → va_D (AA g) ws → va_S (AA g) x.s.heap H locs → lv_has ls nL lv → W x.p x.l x.e x.R x.s x.m x.args x.below x.meth x.c H locs nc ns x.Q (F0 x.m pc ls st)
theorem con_mkP {g : Gp} {l : Launch} {y : MethodName} {cc : ByteArray} {maxL : Nat} {ret : Option FieldType} {fr lo mc ms : Nat} {av : List Value} {ws : va_W} {P : Option Value → Heap → Prop} (hy : plainName y.cls = true) (hn : (lg_sl av).length ≤ maxL)
    (h : ∀ x : Cx, x.l = l → OkX g x cc y.cls maxL fr lo mc ms y.name → RtP g x ret P → GX g x maxL 0 (lv_args 0 av) [] ws 0 0) : ConP g l y cc maxL ret fr lo mc ms av ws P := by
  refine Met.ofW (cc := cc) (maxL := maxL) (ret := ret) hy rfl ?_
  intro p e s m args below meth c s₁ B hml hv
  obtain ⟨rfl, hK, hN, hsz, hP, hD⟩ := hv
  have hts : ∀ w ∈ gtb, w.before av.toArray s = true := fun w hw => atoms_spec (ws := wm y cc maxL ret) B.pre w (List.mem_cons_of_mem _ hw)
  have hown : s.vm.findClass y.cls = some m.cls := findClass_of_methodNamed B.named
  have hin : meth.name = y.name := (name_of_methodNamed B.named B.method).1
  have hl := lv_entry av (n := maxL) hn
  rw [lg_entry_eq]
  exact h (p, l, e, (headSpec (wm y cc maxL ret) { frames := fr, cells := mc, slots := ms, locals := lo }).room, s, m, av.toArray, below, meth, c, mc, ms, MQ below (QP g P) av.toArray s mc ms (AA g)) rfl ⟨⟨B.exec, B.bytes, hml, hown, hts, hK, Nat.le_refl _, Nat.le_refl _, Nat.le_refl _, Nat.le_refl _⟩, hN, hsz, hin, ⟨rfl, rfl⟩, rfl, rfl⟩ ⟨rfl, B.returns, B.notSynchronized⟩ s.heap [] _ hP hD va_S.rf hl
theorem run_goP {p : Program} {l : Launch} {e : Env} {R : Room} {s : State} {m : MethodId} {args : Array Value} {below : List Frame} {meth : Method} {c : Code} {H : Heap} {locs : List Loc} {cells slots mc ms : Nat} {Q : State → Prop} {g : Gp} {pc : Nat} {ls : Array Slot} {rest st0 : List Value} {a : Array Value} {P : Option Value → Heap → Prop}
    (hr : va_Run p l e R s m args below meth c H locs cells slots mc ms (F0 m pc ls st0) rest (QP g P a) (AA g)) (hS : va_S (AA g) s.heap H locs)
    (kk : ∀ (r : Option Value) (H1 : Heap) (locs1 : List Loc), P r H1 → va_S (AA g) s.heap H1 locs1 → W p l e R s m args below meth c H1 locs1 (cells + mc) (slots + ms) Q (F0 m (pc + 3) ls (r.toList ++ rest))) : W p l e R s m args below meth c H locs cells slots Q (F0 m pc ls st0) := by
  intro T hT X
  obtain ⟨v, st₀, t, T', L, h0, X', hL, e1, e2, ⟨r, hv, hp, hz, hk⟩, st⟩ := hr T hT X
  cases hv
  rw [h0] at hz hk
  obtain ⟨t2, a1, b1⟩ := kk v T'.heap (locs ++ L) (by rw [e1]; exact hp)
    ⟨Nat.le_trans hS.1 (by rw [e1]; exact hz), fun q h1 h2 => by rw [e1, hk q (Nat.lt_of_lt_of_le h1 hS.1) h2]; exact hS.2.1 q h1 h2, fun q hq => by
      rcases List.mem_append.mp hq with h | h
      · exact hS.2.2 q h
      · exact hL q h⟩ T' rfl X'
  exact ⟨t2, st t2 a1, b1⟩
theorem px_blind (g : Gp) (av : List Value) (ws : va_W) : FrameBlind (va_Pc av (PX g ws)) := fun a U q mk h => ⟨h.1, KK.same h.2.1 rfl rfl, NW.same h.2.2.1 rfl, h.2.2.2⟩
theorem ap_get {α : Type} (A L : List α) (k : Nat) : (A ++ L)[A.length + k]? = L[k]? := by
  rw [List.getElem?_append_right (Nat.le_add_right _ _), Nat.add_sub_cancel_left]
theorem ap_set {α : Type} (A L : List α) (k : Nat) (y : α) : (A ++ L).set (A.length + k) y = A ++ L.set k y := by
  rw [List.set_append_right _ _ (Nat.le_add_right _ _), Nat.add_sub_cancel_left]
section GXR
variable {g : Gp} {x : Cx} {cc : ByteArray} {own : String} {nL fr lo mc ms pc nc ns : Nat} {nm : String} {lv lv' : List (Nat × Value)} {rest : List Value} {ws ws' : va_W}
theorem gx_cv (h : ws = ws') (k : GX g x nL pc lv rest ws' nc ns) : GX g x nL pc lv rest ws nc ns := by rw [h]; exact k
theorem gx_lv (h : lv = lv') (k : GX g x nL pc lv' rest ws nc ns) : GX g x nL pc lv rest ws nc ns := by rw [h]; exact k
theorem gx_aload (K : OkX g x cc own nL fr lo mc ms nm) {q : Fin 4} {v : Nat} (i : Nat) (hi : (q : Nat) = i) (h : lvg lv i = some (.ref v)) (d : decode cc pc = .ok (.aload_n q, 1)) (k : GX g x nL (pc + 1) lv (.ref v :: rest) ws nc ns) : GX g x nL pc lv (rest) ws nc ns :=
  fun H locs ls h1 h2 hS hl => lv_aload_n K.1.1 K.1.2.1 d hi (lvg_at hl h) (k H locs ls h1 h2 hS hl)
theorem gx_iload (K : OkX g x cc own nL fr lo mc ms nm) {q : Fin 4} {v : Int32} (i : Nat) (hi : (q : Nat) = i) (h : lvg lv i = some (.int v)) (d : decode cc pc = .ok (.iload_n q, 1)) (k : GX g x nL (pc + 1) lv (.int v :: rest) ws nc ns) : GX g x nL pc lv (rest) ws nc ns :=
  fun H locs ls h1 h2 hS hl => lv_iload_n K.1.1 K.1.2.1 d hi (lvg_at hl h) (k H locs ls h1 h2 hS hl)
theorem gx_astore (K : OkX g x cc own nL fr lo mc ms nm) {q : Fin 4} {v : Nat} (i : Nat) (hi : (q : Nat) = i) (hn : i < nL) (hl' : (i, Value.ref v) :: lv.filter (fun q => !(q.1 == i) && !(q.1 + 1 == i && q.2.category == 2)) = lv') (d : decode cc pc = .ok (.astore_n q, 1)) (k : GX g x nL (pc + 1) lv' rest ws nc ns) : GX g x nL pc lv (.ref v :: rest) ws nc ns :=
  fun H locs ls h1 h2 hS hl => lv_astore_n K.1.1 K.1.2.1 d hi hl hn hl' (fun ls2 h3 => k H locs ls2 h1 h2 hS h3)
theorem gx_istore (K : OkX g x cc own nL fr lo mc ms nm) {q : Fin 4} {v : Int32} (i : Nat) (hi : (q : Nat) = i) (hn : i < nL) (hl' : (i, Value.int v) :: lv.filter (fun q => !(q.1 == i) && !(q.1 + 1 == i && q.2.category == 2)) = lv') (d : decode cc pc = .ok (.istore_n q, 1)) (k : GX g x nL (pc + 1) lv' rest ws nc ns) : GX g x nL pc lv (.int v :: rest) ws nc ns :=
  fun H locs ls h1 h2 hS hl => lv_istore_n K.1.1 K.1.2.1 d hi hl hn hl' (fun ls2 h3 => k H locs ls2 h1 h2 hS h3)
theorem gx_iconst (K : OkX g x cc own nL fr lo mc ms nm) {n : Int} (v : Int32) (hv : Int32.ofInt n = v) (d : decode cc pc = .ok (.iconst n, 1)) (k : GX g x nL (pc + 1) lv (.int v :: rest) ws nc ns) : GX g x nL pc lv (rest) ws nc ns :=
  fun H locs ls h1 h2 hS hl => lv_iconst K.1.1 K.1.2.1 d hv (k H locs ls h1 h2 hS hl)
theorem gx_bipush (K : OkX g x cc own nL fr lo mc ms nm) {n : Int} (v : Int32) (hv : (Int8.ofInt n).toInt32 = v) (d : decode cc pc = .ok (.bipush n, 2)) (k : GX g x nL (pc + 2) lv (.int v :: rest) ws nc ns) : GX g x nL pc lv (rest) ws nc ns :=
  fun H locs ls h1 h2 hS hl => lv_bipush K.1.1 K.1.2.1 d hv (k H locs ls h1 h2 hS hl)
theorem gx_sipush (K : OkX g x cc own nL fr lo mc ms nm) {n : Int} (v : Int32) (hv : (Int16.ofInt n).toInt32 = v) (d : decode cc pc = .ok (.sipush n, 3)) (k : GX g x nL (pc + 3) lv (.int v :: rest) ws nc ns) : GX g x nL pc lv (rest) ws nc ns :=
  fun H locs ls h1 h2 hS hl => lv_sipush K.1.1 K.1.2.1 d hv (k H locs ls h1 h2 hS hl)
theorem gx_dup (K : OkX g x cc own nL fr lo mc ms nm) {v : Value} (hv : v.category = 1) (d : decode cc pc = .ok (.dup, 1)) (k : GX g x nL (pc + 1) lv (v :: v :: rest) ws nc ns) : GX g x nL pc lv (v :: rest) ws nc ns :=
  fun H locs ls h1 h2 hS hl => lv_dup K.1.1 K.1.2.1 d hv (k H locs ls h1 h2 hS hl)
theorem gx_goto (K : OkX g x cc own nL fr lo mc ms nm) {off : Int} (tgt : Nat) (d : decode cc pc = .ok (.goto off, 3)) (ht : (pc : Int) + off = (tgt : Int)) (k : GX g x nL tgt lv rest ws nc ns) : GX g x nL pc lv rest ws nc ns :=
  fun H locs ls h1 h2 hS hl => lv_goto K.1.1 K.1.2.1 d ht (k H locs ls h1 h2 hS hl)
theorem gx_icmp_ge (K : OkX g x cc own nL fr lo mc ms nm) {a b : Int32} {off : Int} (tgt : Nat) (d : decode cc pc = .ok (.if_icmp .ge off, 3)) (ht : (pc : Int) + off = (tgt : Int)) (kt : b ≤ a → GX g x nL tgt lv rest ws nc ns) (kf : ¬ (b ≤ a) → GX g x nL (pc + 3) lv rest ws nc ns) : GX g x nL pc lv (.int b :: .int a :: rest) ws nc ns :=
  fun H locs ls h1 h2 hS hl => lv_icmp_ge K.1.1 K.1.2.1 d ht (fun h => kt h H locs ls h1 h2 hS hl) (fun h => kf h H locs ls h1 h2 hS hl)
theorem gx_iinc (K : OkX g x cc own nL fr lo mc ms nm) {i : Nat} {n : Int} {a : Int32} (v : Int32) (h : lvg lv i = some (.int a)) (hv : a + Int32.ofInt n = v) (hi : i < nL) (hl' : (i, Value.int v) :: lv.filter (fun q => !(q.1 == i) && !(q.1 + 1 == i && q.2.category == 2)) = lv') (d : decode cc pc = .ok (.iinc i n, 3)) (k : GX g x nL (pc + 3) lv' rest ws nc ns) : GX g x nL pc lv rest ws nc ns := by
  intro H locs ls h1 h2 hS hl
  obtain ⟨j, hj⟩ := lvg_mem h
  exact lv_iinc K.1.1 K.1.2.1 d hl hj hv hi hl' (fun ls2 h3 => k H locs ls2 h1 h2 hS h3)
theorem gx_newI (K : OkX g x cc own nL fr lo mc ms nm) (N : Nat) (hn : ¬ nI N < 0) (hN : (nI N).toNatClampNeg = N) (hb : N * componentBytes .int ≤ 536870912) (h1 : nc + 1 ≤ mc) (h2 : ns + N ≤ ms) (d : decode cc pc = .ok (.newarray .int, 2)) (k : ∀ q, GX g x nL (pc + 2) lv (.ref q :: rest) (ws ++ [(q, .inl (g.cI, N, .inl (fun _ => 0)))]) (nc + 1) (ns + N)) : GX g x nL pc lv (.int (nI N) :: rest) ws nc ns := by
  intro H locs ls hP hD hS hl
  obtain ⟨hK, -, hsz, -, ⟨hc1, hc2⟩, -⟩ := K
  refine va_newa (ty := .int) (a0 := (N, .inl (fun _ => 0))) hK.1 hK.2.1 (hK.2.2.2.2.1 _ (gmem 81 rfl rfl)) rfl hK.2.2.2.2.2.1.1 hP hD hS (fun q hq => Nat.le_trans hsz hq) (fun cA => rfl) hn hN hb (by rw [hc1]; exact h1) (by rw [hc2]; exact h2) d (fun q cA H1 hK1 hP1 hD1 hS1 => ?_)
  have e1 : cA = g.cI := Option.some.inj (((hK1.2 4 (cA, .int) rfl).2).symm.trans ((hK.2.2.2.2.2.1.1.2 0 _ rfl).2))
  subst e1
  exact k q H1 locs ls hP1 hD1 hS1 hl
theorem gx_newJ (K : OkX g x cc own nL fr lo mc ms nm) (N : Nat) (hn : ¬ nI N < 0) (hN : (nI N).toNatClampNeg = N) (hb : N * componentBytes .long ≤ 536870912) (h1 : nc + 1 ≤ mc) (h2 : ns + N ≤ ms) (d : decode cc pc = .ok (.newarray .long, 2)) (k : ∀ q, GX g x nL (pc + 2) lv (.ref q :: rest) (ws ++ [(q, .inl (g.cJ, N, .inr (.inl (fun _ => 0))))]) (nc + 1) (ns + N)) : GX g x nL pc lv (.int (nI N) :: rest) ws nc ns := by
  intro H locs ls hP hD hS hl
  obtain ⟨hK, -, hsz, -, ⟨hc1, hc2⟩, -⟩ := K
  refine va_newa (ty := .long) (a0 := (N, .inr (.inl (fun _ => 0)))) hK.1 hK.2.1 (hK.2.2.2.2.1 _ (gmem 178 rfl rfl)) rfl hK.2.2.2.2.2.1.1 hP hD hS (fun q hq => Nat.le_trans hsz hq) (fun cA => rfl) hn hN hb (by rw [hc1]; exact h1) (by rw [hc2]; exact h2) d (fun q cA H1 hK1 hP1 hD1 hS1 => ?_)
  have e1 : cA = g.cJ := Option.some.inj (((hK1.2 4 (cA, .long) rfl).2).symm.trans ((hK.2.2.2.2.2.1.1.2 1 _ rfl).2))
  subst e1
  exact k q H1 locs ls hP1 hD1 hS1 hl
theorem gx_newZ (K : OkX g x cc own nL fr lo mc ms nm) (N : Nat) (hn : ¬ nI N < 0) (hN : (nI N).toNatClampNeg = N) (hb : N * componentBytes .boolean ≤ 536870912) (h1 : nc + 1 ≤ mc) (h2 : ns + N ≤ ms) (d : decode cc pc = .ok (.newarray .boolean, 2)) (k : ∀ q, GX g x nL (pc + 2) lv (.ref q :: rest) (ws ++ [(q, .inl (g.cZ, N, .inl (fun _ => 0)))]) (nc + 1) (ns + N)) : GX g x nL pc lv (.int (nI N) :: rest) ws nc ns := by
  intro H locs ls hP hD hS hl
  obtain ⟨hK, -, hsz, -, ⟨hc1, hc2⟩, -⟩ := K
  refine va_newa (ty := .boolean) (a0 := (N, .inl (fun _ => 0))) hK.1 hK.2.1 (hK.2.2.2.2.1 _ (gmem 82 rfl rfl)) rfl hK.2.2.2.2.2.1.1 hP hD hS (fun q hq => Nat.le_trans hsz hq) (fun cA => rfl) hn hN hb (by rw [hc1]; exact h1) (by rw [hc2]; exact h2) d (fun q cA H1 hK1 hP1 hD1 hS1 => ?_)
  have e1 : cA = g.cZ := Option.some.inj (((hK1.2 4 (cA, .boolean) rfl).2).symm.trans ((hK.2.2.2.2.2.1.1.2 2 _ rfl).2))
  subst e1
  exact k q H1 locs ls hP1 hD1 hS1 hl
theorem gx_newq (K : OkX g x cc "KiteBarges" nL fr lo mc ms nm) {index : Nat} (N : Nat) (hl0 : Cond.classLink "KiteBarges" index "KiteBarges$Fleet" ∈ gtb) (hn : ¬ nI N < 0) (hN : (nI N).toNatClampNeg = N) (hb : N * 4 ≤ 536870912) (h1 : nc + 1 ≤ mc) (h2 : ns + N ≤ ms) (d : decode cc pc = .ok (.anewarray index, 3)) (k : ∀ q, GX g x nL (pc + 3) lv (.ref q :: rest) (ws ++ [(q, .inl (g.cF, N, .inr (.inr (.inr (.inr (fun _ => none))))))]) (nc + 1) (ns + N)) : GX g x nL pc lv (.int (nI N) :: rest) ws nc ns := by
  intro H locs ls hP hD hS hl
  obtain ⟨hK, hW, hsz, -, ⟨hc1, hc2⟩, -⟩ := K
  refine va_newq (C := "KiteBarges$Fleet") hK.1 hK.2.1 hK.2.2.2.1 (hK.2.2.2.2.1 _ hl0) hW.2.2.2 hK.2.2.2.2.2.1.1 hP hD hS (fun q hq => Nat.le_trans hsz hq) hn hN hb (by rw [hc1]; exact h1) (by rw [hc2]; exact h2) d (fun q cA H1 hK1 hP1 hD1 hS1 => ?_)
  have e1 : cA = g.cF := by
    obtain ⟨k1, c1, -, -, -, z1⟩ := (hK1.2 4 (cA, .object "KiteBarges$Fleet") rfl).2
    obtain ⟨k2, c2, -, -, -, z2⟩ := (hK.2.2.2.2.2.1.1.2 3 _ rfl).2
    exact Option.some.inj (z1.symm.trans z2)
  subst e1
  exact k q H1 locs ls hP1 hD1 hS1 hl
theorem gx_objInit (K : OkX g x cc own nL fr lo mc ms nm) {a index : Nat} (hl0 : Cond.methodLink own index Lib.objectInit ∈ gtb) (hf : 1 ≤ fr) (hlo : 12 ≤ lo) (d : decode cc pc = .ok (.invokespecial index, 3)) (k : GX g x nL (pc + 3) lv [] ws nc ns) : GX g x nL pc lv [.ref a] ws nc ns := by
  intro H locs ls hP hD hS hl
  obtain ⟨⟨hx, hb, hml, hown, hts, hK, hf1, hf2, hc1, hc2⟩, -⟩ := K
  refine W.objInit hx hb hown (hts _ hl0) (hts _ (gmem 22 rfl rfl)) (hts _ (gmem 23 rfl rfl)) rfl (by rw [hml]; exact hl.1) rfl d (Nat.le_trans hf hf1) (Nat.le_trans hlo hf2) ?_
  exact k H locs ls hP hD hS hl
theorem gx_vret (K : OkX g x cc own nL fr lo mc ms nm) {P : Option Value → Heap → Prop} (hr : RtP g x none P) (hp : ∀ H, va_P g.D vwCl ws H → va_D (AA g) ws → P none H) (h1 : nc ≤ mc) (h2 : ns ≤ ms) (d : decode cc pc = .ok (.return_, 1)) : GX g x nL pc lv [] ws nc ns := by
  intro H locs ls hP hD hS hl
  obtain ⟨⟨hx, hb, -⟩, -, -, -, -, e1, e2⟩ := K
  refine W.widen (k := x.nc) (n := x.ns) (by rw [e1]; exact h1) (by rw [e2]; exact h2) ?_
  rw [hr.1]
  exact W.vret hx hb hr.2.1 (fun t ht hw => ⟨_, rfl, by rw [ht]; exact hp H hP hD, hS.F ht⟩) hS.2.2 d hr.2.2
def MI (y : MethodName) (cc : ByteArray) (maxL : Nat) (n : Nat) : Prop := Cond.code y cc maxL none ∈ gtb ∧ Cond.instanceMethod y ∈ gtb ∧ Cond.initialized y.cls ∈ gtb ∧ y.name = "<init>" ∧ (y.cls ≠ "java/lang/invoke/MethodHandle" ∧ y.cls ≠ "java/lang/invoke/VarHandle" ∧ (parseMethodDescriptor y.desc).map (fun d => d.parameters.length) = some n)
theorem gx_callI (K : OkX g x cc own nL fr lo mc ms nm) {y : MethodName} {cb : ByteArray} {maxL fr' lo' mc' ms' n index b : Nat} {As st : List Value} {P : Option Value → Heap → Prop} (hM : MI y cb maxL n) (hl0 : Cond.methodLink own index y ∈ gtb) (hC : ConP g x.l y cb maxL none fr' lo' mc' ms' (.ref b :: As) ws P)
    (hn : As.length = n) (hst : st = As.reverse ++ .ref b :: rest) (hr : (rest.map fun v => v.category).sum ≤ 8) (hR : fr' + 1 ≤ fr ∧ 8 + (maxL + 11) + lo' ≤ lo) (h1 : nc + mc' ≤ mc) (h2 : ns + ms' ≤ ms) (d : decode cc pc = .ok (.invokespecial index, 3))
    (k : ∀ (r : Option Value) (H1 : Heap) (locs1 : List Loc) (ls : Array Slot), P r H1 → va_S (AA g) x.s.heap H1 locs1 → lv_has ls nL lv → W x.p x.l x.e x.R x.s x.m x.args x.below x.meth x.c H1 locs1 (nc + mc') (ns + ms') x.Q (F0 x.m (pc + 3) ls (r.toList ++ rest))) : GX g x nL pc lv st ws nc ns := by
  intro H locs ls hP hD hS hl
  obtain ⟨⟨hx, hb, hml, hown, hts, hK, hf1, hf2, -, -⟩, hN, hsz, -, ⟨hc1, hc2⟩, -⟩ := K
  obtain ⟨m1, m2, m3, m4, m5⟩ := hM
  exact run_goP (va_runI (As := As) (rest := rest) (n := n) ⟨hx, hb, hml, hown, hts⟩ hC ⟨callB_of n hts (wm_good m1) rfl rfl rfl (hts _ m3) (hts _ hl0) m5 ⟨Nat.le_trans hR.1 hf1, Nat.le_trans hR.2 hf2⟩, m4, hts _ m2⟩ ⟨px_blind g _ ws, fun U hU hw => ⟨rfl, KK.go hK hw (fun a ha hn => by rw [hU]; exact hS.2.1 a ha hn), NW.go hN hw, by rw [hU]; exact Nat.le_trans hsz hS.1, by rw [hU]; exact hP, hD⟩⟩ rfl hn hl.1 hst (lv_room hr) d ⟨by rw [hc1]; exact h1, by rw [hc2]; exact h2⟩) hS (fun r H1 locs1 hp hs => k r H1 locs1 ls hp hs hl)
theorem gx_callIN (K : OkX g x cc own nL fr lo mc ms nm) {y : MethodName} {cb : ByteArray} {maxL fr' lo' mc' ms' n index b : Nat} {As st : List Value} {P : Option Value → Heap → Prop} {host : String} (hM : MI y cb maxL n) (hl0 : va_Nw (.methodLinkNest own index y host) x.s) (hC : ConP g x.l y cb maxL none fr' lo' mc' ms' (.ref b :: As) ws P)
    (hn : As.length = n) (hst : st = As.reverse ++ .ref b :: rest) (hr : (rest.map fun v => v.category).sum ≤ 8) (hR : fr' + 1 ≤ fr ∧ 8 + (maxL + 11) + lo' ≤ lo) (h1 : nc + mc' ≤ mc) (h2 : ns + ms' ≤ ms) (d : decode cc pc = .ok (.invokespecial index, 3))
    (k : ∀ (r : Option Value) (H1 : Heap) (locs1 : List Loc) (ls : Array Slot), P r H1 → va_S (AA g) x.s.heap H1 locs1 → lv_has ls nL lv → W x.p x.l x.e x.R x.s x.m x.args x.below x.meth x.c H1 locs1 (nc + mc') (ns + ms') x.Q (F0 x.m (pc + 3) ls (r.toList ++ rest))) : GX g x nL pc lv st ws nc ns := by
  intro H locs ls hP hD hS hl
  obtain ⟨⟨hx, hb, hml, hown, hts, hK, hf1, hf2, -, -⟩, hN, hsz, -, ⟨hc1, hc2⟩, -⟩ := K
  obtain ⟨m1, m2, m3, m4, m5⟩ := hM
  exact run_goP (va_runIN (As := As) (rest := rest) (n := n) ⟨hx, hb, hml, hown, hts⟩ hC ⟨va_cnB n hts (wm_good m1) rfl rfl rfl hl0 (hts _ m3) m5 ⟨Nat.le_trans hR.1 hf1, Nat.le_trans hR.2 hf2⟩, m4, hts _ m2⟩ ⟨px_blind g _ ws, fun U hU hw => ⟨rfl, KK.go hK hw (fun a ha hn => by rw [hU]; exact hS.2.1 a ha hn), NW.go hN hw, by rw [hU]; exact Nat.le_trans hsz hS.1, by rw [hU]; exact hP, hD⟩⟩ rfl hn hl.1 hst (lv_room hr) d ⟨by rw [hc1]; exact h1, by rw [hc2]; exact h2⟩) hS (fun r H1 locs1 hp hs => k r H1 locs1 ls hp hs hl)
theorem gx_callS (K : OkX g x cc own nL fr lo mc ms nm) {y : MethodName} {cb : ByteArray} {maxL fr' lo' mc' ms' n index : Nat} {ret : Option FieldType} {As st : List Value} {P : Option Value → Heap → Prop} (hM : MS y cb maxL ret n) (hl0 : Cond.methodLink own index y ∈ gtb) (hC : ConP g x.l y cb maxL ret fr' lo' mc' ms' As ws P)
    (hn : As.length = n) (hst : st = As.reverse ++ rest) (hr : (rest.map fun v => v.category).sum ≤ 8) (hR : fr' + 1 ≤ fr ∧ 8 + (maxL + 11) + lo' ≤ lo) (h1 : nc + mc' ≤ mc) (h2 : ns + ms' ≤ ms) (d : decode cc pc = .ok (.invokestatic index, 3))
    (k : ∀ (r : Option Value) (H1 : Heap) (locs1 : List Loc) (ls : Array Slot), P r H1 → va_S (AA g) x.s.heap H1 locs1 → lv_has ls nL lv → W x.p x.l x.e x.R x.s x.m x.args x.below x.meth x.c H1 locs1 (nc + mc') (ns + ms') x.Q (F0 x.m (pc + 3) ls (r.toList ++ rest))) : GX g x nL pc lv st ws nc ns := by
  intro H locs ls hP hD hS hl
  obtain ⟨⟨hx, hb, hml, hown, hts, hK, hf1, hf2, -, -⟩, hN, hsz, -, ⟨hc1, hc2⟩, -⟩ := K
  obtain ⟨m1, m2, m4, m5⟩ := hM
  exact run_goP (va_runS (As := As) (rest := rest) (n := n) ⟨hx, hb, hml, hown, hts⟩ hC ⟨callB_of n hts (wm_good m1) rfl rfl rfl (hts _ m4) (hts _ hl0) m5 ⟨Nat.le_trans hR.1 hf1, Nat.le_trans hR.2 hf2⟩, hts _ m2⟩ ⟨px_blind g _ ws, fun U hU hw => ⟨rfl, KK.go hK hw (fun a ha hn => by rw [hU]; exact hS.2.1 a ha hn), NW.go hN hw, by rw [hU]; exact Nat.le_trans hsz hS.1, by rw [hU]; exact hP, hD⟩⟩ rfl hn hl.1 hst (lv_room hr) d ⟨by rw [hc1]; exact h1, by rw [hc2]; exact h2⟩) hS (fun r H1 locs1 hp hs => k r H1 locs1 ls hp hs hl)
/-- a world given by addresses -/
def PW (g : Gp) (X : (Nat → Nat) → va_W) : Option Value → Heap → Prop := fun r H => r = none ∧ ∃ f : Nat → Nat, va_P g.D vwCl (X f) H ∧ va_D (AA g) (X f)
theorem gx_pw {X : (Nat → Nat) → va_W} (k : ∀ f, GX g x nL (pc + 3) lv rest (X f) nc ns) : ∀ (r : Option Value) (H1 : Heap) (locs1 : List Loc) (ls : Array Slot), PW g X r H1 → va_S (AA g) x.s.heap H1 locs1 → lv_has ls nL lv → W x.p x.l x.e x.R x.s x.m x.args x.below x.meth x.c H1 locs1 nc ns x.Q (F0 x.m (pc + 3) ls (r.toList ++ rest)) := by
  rintro r H1 locs1 ls ⟨rfl, f, hP, hD⟩ hS hl
  exact k f H1 locs1 ls hP hD hS hl
theorem gx_re {i a : Nat} {e e' : va_E} (hi : ws[i]? = some (a, e)) (he : ∀ H, va_at g.D vwCl (a, e) H → va_at g.D vwCl (a, e') H) (k : GX g x nL pc lv rest (ws.set i (a, e')) nc ns) : GX g x nL pc lv rest ws nc ns :=
  fun H locs ls h1 h2 hS hl => k H locs ls (h1.set h2 hi (he H (h1 i _ hi)) (fun _ _ => rfl)) (h2.set hi) hS hl
theorem gx_iast (K : OkX g x cc own nL fr lo mc ms nm) (q : Nat) {a n i : Nat} {v : Int32} {f : Nat → Int32} (hw : ws[q]? = some (a, .inl (g.cI, n, .inl f))) (hb : n < 2 ^ 31) (hi : i < n) (d : decode cc pc = .ok (.iastore, 1)) (k : GX g x nL (pc + 1) lv rest (ws.set q (a, .inl (g.cI, n, .inl (upd f i v)))) nc ns) : GX g x nL pc lv (.int v :: .int (nI i) :: .ref a :: rest) ws nc ns := by
  intro H locs ls hP hD hS h
  refine va_iast K.1.1 K.1.2.1 K.1.2.2.2.2.2.1.1 hP hD hS q 0 hw rfl (vp_in_nI hi hb) d (fun H1 locs1 hP1 hD1 hS1 => ?_)
  rw [nI_clamp (Nat.lt_trans hi hb)] at hP1 hD1
  exact k H1 locs1 ls hP1 hD1 hS1 h
theorem gx_alen (K : OkX g x cc own nL fr lo mc ms nm) (q : Nat) {a n : Nat} {f : Nat → Int32} (hw : ws[q]? = some (a, .inl (g.cI, n, .inl f))) (d : decode cc pc = .ok (.arraylength, 1)) (k : GX g x nL (pc + 1) lv (.int (nI n) :: rest) ws nc ns) : GX g x nL pc lv (.ref a :: rest) ws nc ns :=
  fun H locs ls hP hD hS h => va_alen (cA := g.cI) (x := (n, .inl f)) K.1.1 K.1.2.1 K.1.2.2.2.2.2.1.1 hP q 0 hw rfl rfl d (k H locs ls hP hD hS h)
end GXR
theorem set_get {α : Type} {l : List α} {i : Nat} {x y : α} (h : l[i]? = some x) : (l.set i y)[i]? = some y := List.getElem?_set_self (List.getElem?_eq_some_iff.mp h).1
theorem set_self {α : Type} {l : List α} {i : Nat} {x : α} (h : l[i]? = some x) : l.set i x = l := by
  obtain ⟨h1, h2⟩ := List.getElem?_eq_some_iff.mp h
  rw [← h2]
  exact List.set_getElem_self h1
theorem c_fillW {g : Gp} {lau : Launch} {ws : va_W} {a : Nat} (q : Nat) {n : Nat} {f : Nat → Int32} (hw : ws[q]? = some (a, .inl (g.cI, n, .inl f))) (hb : n < 2 ^ 31) (v : Int32) : ConP g lau yJ7_fill_53178 cJ7_fill_53178 4 none 0 0 0 0 [.ref a, .int v] ws (PW g (fun _ => ws.set q (a, .inl (g.cI, n, .inl (fillA f v n))))) := by
  refine con_mkP (by decide) (Nat.le_of_ble_eq_true rfl) (fun x hxl K hr => ?_)
  refine gx_lv (lv' := [(0, .ref a), (1, .int v)]) rfl ?_
  have lp : ∀ (m i : Nat), m = n - i → i ≤ n → GX g x 4 5 [(3, .int (nI n)), (2, .int (nI i)), (0, .ref a), (1, .int v)] [] (ws.set q (a, .inl (g.cI, n, .inl (fillA f v i)))) 0 0 := by
    intro m
    induction m using Nat.strongRecOn with
    | _ m ih =>
      intro i hm hi
      refine gx_iload K 2 rfl rfl dJ7_fill_53178_5 ?_
      refine gx_iload K 3 rfl rfl dJ7_fill_53178_6 ?_
      refine gx_icmp_ge K 20 dJ7_fill_53178_7 (by decide) (fun h => ?_) (fun h => ?_)
      · have h1 := (nI_leI hb (show i < 2 ^ 31 by omega)).mp h
        refine gx_vret K hr (fun H h1 h2 => ⟨rfl, fun _ => 0, ?_, ?_⟩) (Nat.le_refl _) (Nat.le_refl _) dJ7_fill_53178_20
        · rw [show i = n by omega] at h1; exact h1
        · rw [show i = n by omega] at h2; exact h2
      · have h1 : i < n := Nat.not_le.mp (fun z => h ((nI_leI hb (show i < 2 ^ 31 by omega)).mpr z))
        refine gx_aload K 0 rfl rfl dJ7_fill_53178_10 ?_
        refine gx_iload K 2 rfl rfl dJ7_fill_53178_11 ?_
        refine gx_iload K 1 rfl rfl dJ7_fill_53178_12 ?_
        refine gx_iast K q (n := n) (set_get hw) hb h1 dJ7_fill_53178_13 ?_
        refine gx_cv (ws' := ws.set q (a, .inl (g.cI, n, .inl (fillA f v (i + 1))))) (by rw [List.set_set, fillA_s]) ?_
        refine gx_iinc K (nI (i + 1)) rfl (nI_1 _) (lv' := [(2, .int (nI (i + 1))), (3, .int (nI n)), (0, .ref a), (1, .int v)]) (by decide) rfl dJ7_fill_53178_14 ?_
        refine gx_goto K 5 dJ7_fill_53178_17 (by decide) ?_
        intro H locs ls h1 h2 hS hl
        exact ih _ (by omega) (i + 1) rfl (by omega) H locs ls h1 h2 hS ⟨hl.1, hl.2.1, fun z hz => hl.2.2 z (by simp only [List.mem_cons, List.not_mem_nil, or_false] at hz ⊢; rcases hz with e | e | e | e <;> simp [e])⟩
  refine gx_iconst K (nI 0) (by decide) dJ7_fill_53178_0 ?_
  refine gx_istore K (lv' := [(2, .int (nI 0)), (0, .ref a), (1, .int v)]) 2 rfl (by decide) rfl dJ7_fill_53178_1 ?_
  refine gx_aload K 0 rfl rfl dJ7_fill_53178_2 ?_
  refine gx_alen K q hw dJ7_fill_53178_3 ?_
  refine gx_istore K (lv' := [(3, .int (nI n)), (2, .int (nI 0)), (0, .ref a), (1, .int v)]) 3 rfl (by decide) rfl dJ7_fill_53178_4 ?_
  refine gx_cv (ws' := ws.set q (a, .inl (g.cI, n, .inl (fillA f v 0)))) (by rw [fillA_0]; exact (set_self hw).symm) ?_
  exact lp _ 0 rfl (Nat.zero_le _)
