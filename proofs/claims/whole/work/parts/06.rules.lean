/-- the words that go with every call -/
def gtb : List Cond := lw_tbl.filter goodWord
theorem gmem {w : Cond} (i : Nat) (h : tables_1[i]? = some w) (hg : goodWord w = true) : w ∈ gtb := List.mem_filter.mpr ⟨List.mem_append_right _ (List.mem_of_getElem? h), hg⟩
theorem gsel {w : Cond} (i : Nat) (h : (k2_sels lw_privs)[i]? = some w) (hg : goodWord w = true) : w ∈ gtb := List.mem_filter.mpr ⟨List.mem_append_left _ (List.mem_of_getElem? h), hg⟩
def wm (y : MethodName) (cc : ByteArray) (n : Nat) (ret : Option FieldType) : List Cond := .code y cc n ret :: gtb
theorem gtb_good : ∀ w ∈ gtb, (w.onTables && w.keeps) = true ∨ ∃ ty, w = .arrayClass ty := fun w h => good_of_word (List.mem_filter.mp h).2
theorem wm_good {y : MethodName} {cc : ByteArray} {n : Nat} {ret : Option FieldType} (h : Cond.code y cc n ret ∈ gtb) : GoodIn gtb (wm y cc n ret) := by
  intro w hw
  rcases List.mem_cons.mp hw with h1 | h1
  · subst h1
    exact ⟨h, gtb_good _ h⟩
  · exact ⟨h1, gtb_good w h1⟩
def Cx : Type := Program × Launch × Env × Room × State × MethodId × Array Value × List Frame × Method × Code × Nat × Nat × (State → Prop)
def Cx.p (x : Cx) : Program := x.1
def Cx.l (x : Cx) : Launch := x.2.1
def Cx.e (x : Cx) : Env := x.2.2.1
def Cx.R (x : Cx) : Room := x.2.2.2.1
def Cx.s (x : Cx) : State := x.2.2.2.2.1
def Cx.m (x : Cx) : MethodId := x.2.2.2.2.2.1
def Cx.args (x : Cx) : Array Value := x.2.2.2.2.2.2.1
def Cx.below (x : Cx) : List Frame := x.2.2.2.2.2.2.2.1
def Cx.meth (x : Cx) : Method := x.2.2.2.2.2.2.2.2.1
def Cx.c (x : Cx) : Code := x.2.2.2.2.2.2.2.2.2.1
def Cx.nc (x : Cx) : Nat := x.2.2.2.2.2.2.2.2.2.2.1
def Cx.ns (x : Cx) : Nat := x.2.2.2.2.2.2.2.2.2.2.2.1
def Cx.Q (x : Cx) : State → Prop := x.2.2.2.2.2.2.2.2.2.2.2.2
def tmsL : List Int32 := [10, 7, 0, 0, 0, 0, 0, 7]
def sailL : List Int32 := [10, 7, 5, 0, 0, 0, 5, 7]
def stIx : List Nat := [70, 76, 78, 80, 82, 84, 86, 88, 90, 92, 94, 96, 98]
def stTx : List String := ["open", "trees", "lock", "dry", "wind", "barge", "sold", "still", "plain", "paired", "slow", "sail", "torn"]
def lenS : List Nat := [4, 5, 4, 3, 4, 5, 4, 5, 5, 6, 4, 4, 4]
def bytS : List (List Int32) := [[111, 112, 101, 110], [116, 114, 101, 101, 115], [108, 111, 99, 107], [100, 114, 121], [119, 105, 110, 100], [98, 97, 114, 103, 101], [115, 111, 108, 100], [115, 116, 105, 108, 108], [112, 108, 97, 105, 110], [112, 97, 105, 114, 101, 100], [115, 108, 111, 119], [115, 97, 105, 108], [116, 111, 114, 110]]
/-- what holds of a state's tables and of its old cells -/
def KK (g : Gp) (U : State) : Prop := va_K g.D vwCl g.tys U ∧ (va_Z "KiteBarges$River" "TIMES" "[I" (.ref g.t1) (AA g) U U.heap ∧ va_Z "KiteBarges$River" "SAIL_TIMES" "[I" (.ref g.t2) (AA g) U U.heap ∧ va_T .int g.t1 8 (fun j => .int (tmsL.getD j 0)) (AA g) U U.heap ∧ va_T .int g.t2 8 (fun j => .int (sailL.getD j 0)) (AA g) U U.heap) ∧ (vk_S 13 lenS bytS g.aK g.aV (AA g) U U.heap ∧ (∀ i, i < 13 → vk_R "KiteBarges$Text" (stIx.getD i 0) (stTx.getD i "") (g.aK i) U) ∧ va_Z "java/lang/String" "COMPACT_STRINGS" "Z" (.int 1) (AA g) U U.heap ∧ va_Zq "jdk/internal/util/Preconditions" "SIOOBE_FORMATTER" "Ljava/util/function/BiFunction;" (AA g) U U.heap) ∧ va_Nw (.methodLinkNest "KiteBarges$Fleet" 59 yX6_isKnot "KiteBarges") U ∧ va_Nw (.methodLinkNest "KiteBarges$Planner" 107 yX6_isKnot "KiteBarges") U
theorem KK.go {g : Gp} {s U : State} (h : KK g s) (hW : s.WarmedH U.vm) (hk : ∀ a : Nat, a < s.heap.size → ¬ AA g a → U.heap[a]? = s.heap[a]?) : KK g U := by
  obtain ⟨h1, ⟨h2, h3, h4, h5⟩, ⟨h6, h7, h8, h11⟩, h9, h10⟩ := h
  exact ⟨va_K.moved hW.alike h1, ⟨va_Z.moved hW.alike (h2.kept hk), va_Z.moved hW.alike (h3.kept hk), va_T.moved hW.alike (h4.kept hk), va_T.moved hW.alike (h5.kept hk)⟩, ⟨vk_S.moved hW.alike (h6.kept hk), fun i hi => vk_R.warm hW (h7 i hi), va_Z.moved hW.alike (h8.kept hk), va_Zq.moved hW.alike (h11.kept hk)⟩, va_Nw.warmM hW h9, va_Nw.warmM hW h10⟩
theorem KK.same {g : Gp} {u U : State} (h : KK g u) (hv : U.vm = u.vm) (hh : U.heap = u.heap) : KK g U := by
  obtain ⟨h1, ⟨h2, h3, h4, h5⟩, ⟨h6, h7, h8, h11⟩, h9, h10⟩ := h
  have ha : u.vm.Alike U.vm := by rw [hv]; exact Vm.Alike.refl _
  have hk : ∀ a : Nat, a < u.heap.size → ¬ AA g a → U.heap[a]? = u.heap[a]? := fun a _ _ => by rw [hh]
  exact ⟨va_K.moved ha h1, ⟨va_Z.moved ha (h2.kept hk), va_Z.moved ha (h3.kept hk), va_T.moved ha (h4.kept hk), va_T.moved ha (h5.kept hk)⟩, ⟨vk_S.moved ha (h6.kept hk), fun i hi => vk_R.same hv (h7 i hi), va_Z.moved ha (h8.kept hk), va_Zq.moved ha (h11.kept hk)⟩, va_Nw.same rfl hv.symm h9, va_Nw.same rfl hv.symm h10⟩
/-- what holds through a method's whole run -/
def Ok (g : Gp) (x : Cx) (cc : ByteArray) (own : String) (nL fr lo : Nat) : Prop :=
  x.p.tables.exec = Jvm.exec ∧ x.c.code = cc ∧ x.c.maxLocals = nL ∧ x.s.vm.findClass own = some x.m.cls ∧ (∀ w ∈ gtb, w.before x.args x.s = true) ∧ KK g x.s ∧ fr ≤ x.R.frames ∧ lo ≤ x.R.locals ∧ x.nc ≤ x.R.cells ∧ x.ns ≤ x.R.slots
/-- the judgement: from here the machine comes to its end -/
def GJ (g : Gp) (x : Cx) (nL pc : Nat) (lv : List (Nat × Value)) (st : List Value) (ad : Nat → Nat) (σ : Sg) : Prop :=
  ∀ (H : Heap) (locs : List Loc) (ls : Array Slot), Wd g ad σ H → va_S (AA g) x.s.heap H locs → lv_has ls nL lv → W x.p x.l x.e x.R x.s x.m x.args x.below x.meth x.c H locs x.nc x.ns x.Q (F0 x.m pc ls st)
def QQ (g : Gp) (post : Option Value → (Nat → Nat) → Sg → Prop) : Array Value → State → Outcome → State → Prop := fun _ st oc t => ∃ (r : Option Value) (ad : Nat → Nat) (σ : Sg), oc = .returned r ∧ post r ad σ ∧ Wd g ad σ t.heap ∧ va_F (AA g) st t
def Rt (g : Gp) (x : Cx) (ret : Option FieldType) (post : Option Value → (Nat → Nat) → Sg → Prop) : Prop := x.Q = MQ x.below (QQ g post) x.args x.s x.nc x.ns (AA g) ∧ x.meth.sig.returnType = ret ∧ x.meth.locks = false
/-- a method's contract: its start, its end -/
def Con (g : Gp) (l : Launch) (y : MethodName) (cc : ByteArray) (maxL : Nat) (ret : Option FieldType) (fr lo : Nat) (av : List Value) (ad : Nat → Nat) (σ : Sg) (post : Option Value → (Nat → Nat) → Sg → Prop) : Prop :=
  Met l y (wm y cc maxL ret) { frames := fr, cells := 0, slots := 0, locals := lo } (va_Pc av (fun U => KK g U ∧ Wd g ad σ U.heap)) (QQ g post) 0 0 (AA g)
/-- one value, nothing changed -/
def pu (v : Value) (ad : Nat → Nat) (σ : Sg) : Option Value → (Nat → Nat) → Sg → Prop := fun r a2 s2 => r = some v ∧ a2 = ad ∧ s2 = σ
theorem con_mk {g : Gp} {l : Launch} {y : MethodName} {cc : ByteArray} {maxL : Nat} {ret : Option FieldType} {fr lo : Nat} {av : List Value} {ad : Nat → Nat} {σ : Sg} {post : Option Value → (Nat → Nat) → Sg → Prop} (hy : plainName y.cls = true) (hn : (lg_sl av).length ≤ maxL)
    (h : ∀ x : Cx, x.l = l → Ok g x cc y.cls maxL fr lo → Rt g x ret post → GJ g x maxL 0 (lv_args 0 av) [] ad σ) : Con g l y cc maxL ret fr lo av ad σ post := by
  refine Met.ofW (cc := cc) (maxL := maxL) (ret := ret) hy rfl ?_
  intro p e s m args below meth c s₁ B hml hv
  obtain ⟨rfl, hK, hW⟩ := hv
  have hts : ∀ w ∈ gtb, w.before av.toArray s = true := fun w hw => atoms_spec (ws := wm y cc maxL ret) B.pre w (List.mem_cons_of_mem _ hw)
  have hown : s.vm.findClass y.cls = some m.cls := findClass_of_methodNamed B.named
  have hl := lv_entry av (n := maxL) hn
  rw [lg_entry_eq]
  exact h (p, l, e, (headSpec (wm y cc maxL ret) { frames := fr, cells := 0, slots := 0, locals := lo }).room, s, m, av.toArray, below, meth, c, 0, 0, MQ below (QQ g post) av.toArray s 0 0 (AA g)) rfl ⟨B.exec, B.bytes, hml, hown, hts, hK, Nat.le_refl _, Nat.le_refl _, Nat.le_refl _, Nat.le_refl _⟩ ⟨rfl, B.returns, B.notSynchronized⟩ s.heap [] _ hW va_S.rf hl
def lvg (lv : List (Nat × Value)) (i : Nat) : Option Value := match lv with
  | [] => none
  | q :: t => if q.1 = i then some q.2 else lvg t i
theorem lvg_at {ls : Array Slot} {nL : Nat} : ∀ {lv : List (Nat × Value)} {i : Nat} {v : Value}, lv_has ls nL lv → lvg lv i = some v → ls[i]? = some (.val v)
  | [], i, v, _, h => by cases h
  | q :: t, i, v, hl, h => by
    unfold lvg at h
    by_cases hq : q.1 = i
    · rw [if_pos hq] at h
      cases h
      rw [← hq]
      exact hl.2.2 q List.mem_cons_self
    · rw [if_neg hq] at h
      exact lvg_at ⟨hl.1, hl.2.1, fun z hz => hl.2.2 z (List.mem_cons_of_mem _ hz)⟩ h
/-- fewer locals -/
theorem r_sub {g : Gp} {x : Cx} {nL pc : Nat} {lv lv' : List (Nat × Value)} {st : List Value} {ad : Nat → Nat} {σ : Sg} (hs : ∀ q ∈ lv', q ∈ lv) (k : GJ g x nL pc lv' st ad σ) : GJ g x nL pc lv st ad σ :=
  fun H locs ls hW hS hl => k H locs ls hW hS ⟨hl.1, hl.2.1, fun q hq => hl.2.2 q (hs q hq)⟩
section RULES
variable {g : Gp} {x : Cx} {cc : ByteArray} {own : String} {nL fr lo pc : Nat} {lv lv' : List (Nat × Value)} {rest : List Value} {ad : Nat → Nat} {σ : Sg}
theorem r_topi {a b : Int32} (h : a = b) (k : GJ g x nL pc lv (.int b :: rest) ad σ) : GJ g x nL pc lv (.int a :: rest) ad σ := by rw [h]; exact k
theorem r_topl {a b : Int64} (h : a = b) (k : GJ g x nL pc lv (.long b :: rest) ad σ) : GJ g x nL pc lv (.long a :: rest) ad σ := by rw [h]; exact k
theorem r_top2 {a b : Int32} {v : Value} (h : a = b) (k : GJ g x nL pc lv (v :: .int b :: rest) ad σ) : GJ g x nL pc lv (v :: .int a :: rest) ad σ := by rw [h]; exact k
theorem r_top2l {a b : Int64} {v : Value} (h : a = b) (k : GJ g x nL pc lv (v :: .long b :: rest) ad σ) : GJ g x nL pc lv (v :: .long a :: rest) ad σ := by rw [h]; exact k
theorem r_st {st st' : List Value} (h : st = st') (k : GJ g x nL pc lv st' ad σ) : GJ g x nL pc lv st ad σ := by rw [h]; exact k
theorem r_lv {st : List Value} (h : lv = lv') (k : GJ g x nL pc lv' st ad σ) : GJ g x nL pc lv st ad σ := by rw [h]; exact k
theorem r_w {st : List Value} {σ2 : Sg} (h : σ = σ2) (k : GJ g x nL pc lv st ad σ2) : GJ g x nL pc lv st ad σ := by rw [h]; exact k
theorem r_iconst (K : Ok g x cc own nL fr lo) {n : Int} (v : Int32) (hv : Int32.ofInt n = v) (d : decode cc pc = .ok (.iconst n, 1)) (k : GJ g x nL (pc + 1) lv (.int v :: rest) ad σ) : GJ g x nL pc lv (rest) ad σ :=
  fun H locs ls hW hS hl => lv_iconst K.1 K.2.1 d hv (k H locs ls hW hS hl)
theorem r_bipush (K : Ok g x cc own nL fr lo) {n : Int} (v : Int32) (hv : (Int8.ofInt n).toInt32 = v) (d : decode cc pc = .ok (.bipush n, 2)) (k : GJ g x nL (pc + 2) lv (.int v :: rest) ad σ) : GJ g x nL pc lv (rest) ad σ :=
  fun H locs ls hW hS hl => lv_bipush K.1 K.2.1 d hv (k H locs ls hW hS hl)
theorem r_sipush (K : Ok g x cc own nL fr lo) {n : Int} (v : Int32) (hv : (Int16.ofInt n).toInt32 = v) (d : decode cc pc = .ok (.sipush n, 3)) (k : GJ g x nL (pc + 3) lv (.int v :: rest) ad σ) : GJ g x nL pc lv (rest) ad σ :=
  fun H locs ls hW hS hl => lv_sipush K.1 K.2.1 d hv (k H locs ls hW hS hl)
theorem r_lconst (K : Ok g x cc own nL fr lo) {n : Fin 2} (v : Int64) (hv : Int64.ofNat (n : Nat) = v) (d : decode cc pc = .ok (.lconst n, 1)) (k : GJ g x nL (pc + 1) lv (.long v :: rest) ad σ) : GJ g x nL pc lv (rest) ad σ :=
  fun H locs ls hW hS hl => lv_lconst K.1 K.2.1 d hv (k H locs ls hW hS hl)
theorem r_ldc (K : Ok g x cc own nL fr lo) {index : Nat} {v : Int32} (hc : Cond.constant own index v ∈ gtb) (d : decode cc pc = .ok (.ldc index, 2)) (k : GJ g x nL (pc + 2) lv (.int v :: rest) ad σ) : GJ g x nL pc lv (rest) ad σ :=
  fun H locs ls hW hS hl => lv_ldc K.1 K.2.1 K.2.2.2.1 (K.2.2.2.2.1 _ hc) d (k H locs ls hW hS hl)
theorem r_ldc2 (K : Ok g x cc own nL fr lo) {index : Nat} {v : Int64} (hc : Cond.constantLong own index v ∈ gtb) (d : decode cc pc = .ok (.ldc2_w index, 3)) (k : GJ g x nL (pc + 3) lv (.long v :: rest) ad σ) : GJ g x nL pc lv (rest) ad σ :=
  fun H locs ls hW hS hl => lv_ldc2 K.1 K.2.1 K.2.2.2.1 (K.2.2.2.2.1 _ hc) d (k H locs ls hW hS hl)
theorem r_iload_n (K : Ok g x cc own nL fr lo) {q : Fin 4} {v : Int32} (i : Nat) (hi : (q : Nat) = i) (h : lvg lv i = some (.int v)) (d : decode cc pc = .ok (.iload_n q, 1)) (k : GJ g x nL (pc + 1) lv (.int v :: rest) ad σ) : GJ g x nL pc lv (rest) ad σ :=
  fun H locs ls hW hS hl => lv_iload_n K.1 K.2.1 d hi (lvg_at hl h) (k H locs ls hW hS hl)
theorem r_iload (K : Ok g x cc own nL fr lo) {i : Nat} {v : Int32} (h : lvg lv i = some (.int v)) (d : decode cc pc = .ok (.iload i, 2)) (k : GJ g x nL (pc + 2) lv (.int v :: rest) ad σ) : GJ g x nL pc lv (rest) ad σ :=
  fun H locs ls hW hS hl => lv_iload K.1 K.2.1 d (lvg_at hl h) (k H locs ls hW hS hl)
theorem r_lload_n (K : Ok g x cc own nL fr lo) {q : Fin 4} {v : Int64} (i : Nat) (hi : (q : Nat) = i) (h : lvg lv i = some (.long v)) (d : decode cc pc = .ok (.lload_n q, 1)) (k : GJ g x nL (pc + 1) lv (.long v :: rest) ad σ) : GJ g x nL pc lv (rest) ad σ :=
  fun H locs ls hW hS hl => lv_lload_n K.1 K.2.1 d hi (lvg_at hl h) (k H locs ls hW hS hl)
theorem r_lload (K : Ok g x cc own nL fr lo) {i : Nat} {v : Int64} (h : lvg lv i = some (.long v)) (d : decode cc pc = .ok (.lload i, 2)) (k : GJ g x nL (pc + 2) lv (.long v :: rest) ad σ) : GJ g x nL pc lv (rest) ad σ :=
  fun H locs ls hW hS hl => lv_lload K.1 K.2.1 d (lvg_at hl h) (k H locs ls hW hS hl)
theorem r_aload_n (K : Ok g x cc own nL fr lo) {q : Fin 4} {v : Nat} (i : Nat) (hi : (q : Nat) = i) (h : lvg lv i = some (.ref v)) (d : decode cc pc = .ok (.aload_n q, 1)) (k : GJ g x nL (pc + 1) lv (.ref v :: rest) ad σ) : GJ g x nL pc lv (rest) ad σ :=
  fun H locs ls hW hS hl => lv_aload_n K.1 K.2.1 d hi (lvg_at hl h) (k H locs ls hW hS hl)
theorem r_aload (K : Ok g x cc own nL fr lo) {i : Nat} {v : Nat} (h : lvg lv i = some (.ref v)) (d : decode cc pc = .ok (.aload i, 2)) (k : GJ g x nL (pc + 2) lv (.ref v :: rest) ad σ) : GJ g x nL pc lv (rest) ad σ :=
  fun H locs ls hW hS hl => lv_aload K.1 K.2.1 d (lvg_at hl h) (k H locs ls hW hS hl)
theorem r_istore_n (K : Ok g x cc own nL fr lo) {q : Fin 4} {v : Int32} (i : Nat) (hi : (q : Nat) = i) (hn : i < nL) (hl' : (i, Value.int v) :: lv.filter (fun q => !(q.1 == i) && !(q.1 + 1 == i && q.2.category == 2)) = lv') (d : decode cc pc = .ok (.istore_n q, 1)) (k : GJ g x nL (pc + 1) lv' rest ad σ) : GJ g x nL pc lv (.int v :: rest) ad σ :=
  fun H locs ls hW hS hl => lv_istore_n K.1 K.2.1 d hi hl hn hl' (fun ls2 h2 => k H locs ls2 hW hS h2)
theorem r_istore (K : Ok g x cc own nL fr lo) {v : Int32} {i : Nat} (hn : i < nL) (hl' : (i, Value.int v) :: lv.filter (fun q => !(q.1 == i) && !(q.1 + 1 == i && q.2.category == 2)) = lv') (d : decode cc pc = .ok (.istore i, 2)) (k : GJ g x nL (pc + 2) lv' rest ad σ) : GJ g x nL pc lv (.int v :: rest) ad σ :=
  fun H locs ls hW hS hl => lv_istore K.1 K.2.1 d hl hn hl' (fun ls2 h2 => k H locs ls2 hW hS h2)
theorem r_lstore_n (K : Ok g x cc own nL fr lo) {q : Fin 4} {v : Int64} (i : Nat) (hi : (q : Nat) = i) (hn : i + 1 < nL) (hl' : (i, Value.long v) :: lv.filter (fun q => !(q.1 == i) && (!(q.1 == i + 1) && !(q.1 + 1 == i && q.2.category == 2))) = lv') (d : decode cc pc = .ok (.lstore_n q, 1)) (k : GJ g x nL (pc + 1) lv' rest ad σ) : GJ g x nL pc lv (.long v :: rest) ad σ :=
  fun H locs ls hW hS hl => lv_lstore_n K.1 K.2.1 d hi hl hn hl' (fun ls2 h2 => k H locs ls2 hW hS h2)
theorem r_lstore (K : Ok g x cc own nL fr lo) {v : Int64} {i : Nat} (hn : i + 1 < nL) (hl' : (i, Value.long v) :: lv.filter (fun q => !(q.1 == i) && (!(q.1 == i + 1) && !(q.1 + 1 == i && q.2.category == 2))) = lv') (d : decode cc pc = .ok (.lstore i, 2)) (k : GJ g x nL (pc + 2) lv' rest ad σ) : GJ g x nL pc lv (.long v :: rest) ad σ :=
  fun H locs ls hW hS hl => lv_lstore K.1 K.2.1 d hl hn hl' (fun ls2 h2 => k H locs ls2 hW hS h2)
theorem r_astore_n (K : Ok g x cc own nL fr lo) {q : Fin 4} {v : Nat} (i : Nat) (hi : (q : Nat) = i) (hn : i < nL) (hl' : (i, Value.ref v) :: lv.filter (fun q => !(q.1 == i) && !(q.1 + 1 == i && q.2.category == 2)) = lv') (d : decode cc pc = .ok (.astore_n q, 1)) (k : GJ g x nL (pc + 1) lv' rest ad σ) : GJ g x nL pc lv (.ref v :: rest) ad σ :=
  fun H locs ls hW hS hl => lv_astore_n K.1 K.2.1 d hi hl hn hl' (fun ls2 h2 => k H locs ls2 hW hS h2)
theorem r_astore (K : Ok g x cc own nL fr lo) {v : Nat} {i : Nat} (hn : i < nL) (hl' : (i, Value.ref v) :: lv.filter (fun q => !(q.1 == i) && !(q.1 + 1 == i && q.2.category == 2)) = lv') (d : decode cc pc = .ok (.astore i, 2)) (k : GJ g x nL (pc + 2) lv' rest ad σ) : GJ g x nL pc lv (.ref v :: rest) ad σ :=
  fun H locs ls hW hS hl => lv_astore K.1 K.2.1 d hl hn hl' (fun ls2 h2 => k H locs ls2 hW hS h2)
theorem lvg_mem : ∀ {lv : List (Nat × Value)} {i : Nat} {v : Value}, lvg lv i = some v → ∃ k : Nat, lv[k]? = some (i, v)
  | [], i, v, h => by cases h
  | q :: t, i, v, h => by
    unfold lvg at h
    by_cases hq : q.1 = i
    · rw [if_pos hq] at h
      cases h
      exact ⟨0, by rw [← hq]; rfl⟩
    · rw [if_neg hq] at h
      obtain ⟨k, hk⟩ := lvg_mem h
      exact ⟨k + 1, hk⟩
theorem r_iinc (K : Ok g x cc own nL fr lo) {i : Nat} {n : Int} {v : Int32} (w : Int32) (h : lvg lv i = some (.int v)) (hv : v + Int32.ofInt n = w) (hn : i < nL) (hl' : (i, Value.int w) :: lv.filter (fun q => !(q.1 == i) && !(q.1 + 1 == i && q.2.category == 2)) = lv') (d : decode cc pc = .ok (.iinc i n, 3)) (k : GJ g x nL (pc + 3) lv' rest ad σ) : GJ g x nL pc lv rest ad σ := by
  intro H locs ls hW hS hl
  obtain ⟨j, hj⟩ := lvg_mem h
  exact lv_iinc K.1 K.2.1 d hl hj hv hn hl' (fun ls2 h2 => k H locs ls2 hW hS h2)
theorem r_iadd (K : Ok g x cc own nL fr lo) {a b : Int32} (d : decode cc pc = .ok (.iadd, 1)) (k : GJ g x nL (pc + 1) lv (.int (a + b) :: rest) ad σ) : GJ g x nL pc lv (.int b :: .int a :: rest) ad σ :=
  fun H locs ls hW hS hl => lv_iadd K.1 K.2.1 d (k H locs ls hW hS hl)
theorem r_isub (K : Ok g x cc own nL fr lo) {a b : Int32} (d : decode cc pc = .ok (.isub, 1)) (k : GJ g x nL (pc + 1) lv (.int (a - b) :: rest) ad σ) : GJ g x nL pc lv (.int b :: .int a :: rest) ad σ :=
  fun H locs ls hW hS hl => lv_isub K.1 K.2.1 d (k H locs ls hW hS hl)
theorem r_imul (K : Ok g x cc own nL fr lo) {a b : Int32} (d : decode cc pc = .ok (.imul, 1)) (k : GJ g x nL (pc + 1) lv (.int (a * b) :: rest) ad σ) : GJ g x nL pc lv (.int b :: .int a :: rest) ad σ :=
  fun H locs ls hW hS hl => lv_imul K.1 K.2.1 d (k H locs ls hW hS hl)
theorem r_iand (K : Ok g x cc own nL fr lo) {a b : Int32} (d : decode cc pc = .ok (.iand, 1)) (k : GJ g x nL (pc + 1) lv (.int (a &&& b) :: rest) ad σ) : GJ g x nL pc lv (.int b :: .int a :: rest) ad σ :=
  fun H locs ls hW hS hl => lv_iand K.1 K.2.1 d (k H locs ls hW hS hl)
theorem r_ior (K : Ok g x cc own nL fr lo) {a b : Int32} (d : decode cc pc = .ok (.ior, 1)) (k : GJ g x nL (pc + 1) lv (.int (a ||| b) :: rest) ad σ) : GJ g x nL pc lv (.int b :: .int a :: rest) ad σ :=
  fun H locs ls hW hS hl => lv_ior K.1 K.2.1 d (k H locs ls hW hS hl)
theorem r_ladd (K : Ok g x cc own nL fr lo) {a b : Int64} (d : decode cc pc = .ok (.ladd, 1)) (k : GJ g x nL (pc + 1) lv (.long (a + b) :: rest) ad σ) : GJ g x nL pc lv (.long b :: .long a :: rest) ad σ :=
  fun H locs ls hW hS hl => lv_ladd K.1 K.2.1 d (k H locs ls hW hS hl)
theorem r_lsub (K : Ok g x cc own nL fr lo) {a b : Int64} (d : decode cc pc = .ok (.lsub, 1)) (k : GJ g x nL (pc + 1) lv (.long (a - b) :: rest) ad σ) : GJ g x nL pc lv (.long b :: .long a :: rest) ad σ :=
  fun H locs ls hW hS hl => lv_lsub K.1 K.2.1 d (k H locs ls hW hS hl)
theorem r_lmul (K : Ok g x cc own nL fr lo) {a b : Int64} (d : decode cc pc = .ok (.lmul, 1)) (k : GJ g x nL (pc + 1) lv (.long (a * b) :: rest) ad σ) : GJ g x nL pc lv (.long b :: .long a :: rest) ad σ :=
  fun H locs ls hW hS hl => lv_lmul K.1 K.2.1 d (k H locs ls hW hS hl)
theorem r_land (K : Ok g x cc own nL fr lo) {a b : Int64} (d : decode cc pc = .ok (.land, 1)) (k : GJ g x nL (pc + 1) lv (.long (a &&& b) :: rest) ad σ) : GJ g x nL pc lv (.long b :: .long a :: rest) ad σ :=
  fun H locs ls hW hS hl => lv_land K.1 K.2.1 d (k H locs ls hW hS hl)
theorem r_lor (K : Ok g x cc own nL fr lo) {a b : Int64} (d : decode cc pc = .ok (.lor, 1)) (k : GJ g x nL (pc + 1) lv (.long (a ||| b) :: rest) ad σ) : GJ g x nL pc lv (.long b :: .long a :: rest) ad σ :=
  fun H locs ls hW hS hl => lv_lor K.1 K.2.1 d (k H locs ls hW hS hl)
theorem r_ixor (K : Ok g x cc own nL fr lo) {a b : Int32} (d : decode cc pc = .ok (.ixor, 1)) (k : GJ g x nL (pc + 1) lv (.int (a ^^^ b) :: rest) ad σ) : GJ g x nL pc lv (.int b :: .int a :: rest) ad σ :=
  fun H locs ls hW hS hl => lv_ixor K.1 K.2.1 d (k H locs ls hW hS hl)
theorem r_ineg (K : Ok g x cc own nL fr lo) {a : Int32} (d : decode cc pc = .ok (.ineg, 1)) (k : GJ g x nL (pc + 1) lv (.int (-a) :: rest) ad σ) : GJ g x nL pc lv (.int a :: rest) ad σ :=
  fun H locs ls hW hS hl => lv_ineg K.1 K.2.1 d (k H locs ls hW hS hl)
theorem r_ishl (K : Ok g x cc own nL fr lo) {a b : Int32} (d : decode cc pc = .ok (.ishl, 1)) (k : GJ g x nL (pc + 1) lv (.int (a <<< (b &&& 31)) :: rest) ad σ) : GJ g x nL pc lv (.int b :: .int a :: rest) ad σ :=
  fun H locs ls hW hS hl => lv_ishl K.1 K.2.1 d (k H locs ls hW hS hl)
theorem r_ishr (K : Ok g x cc own nL fr lo) {a b : Int32} (d : decode cc pc = .ok (.ishr, 1)) (k : GJ g x nL (pc + 1) lv (.int (a >>> (b &&& 31)) :: rest) ad σ) : GJ g x nL pc lv (.int b :: .int a :: rest) ad σ :=
  fun H locs ls hW hS hl => lv_ishr K.1 K.2.1 d (k H locs ls hW hS hl)
theorem r_idiv (K : Ok g x cc own nL fr lo) {a b : Int32} (hne : ¬ b = 0) (d : decode cc pc = .ok (.idiv, 1)) (k : GJ g x nL (pc + 1) lv (.int (a / b) :: rest) ad σ) : GJ g x nL pc lv (.int b :: .int a :: rest) ad σ :=
  fun H locs ls hW hS hl => lv_idiv K.1 K.2.1 d hne (k H locs ls hW hS hl)
theorem r_irem (K : Ok g x cc own nL fr lo) {a b : Int32} (hne : ¬ b = 0) (d : decode cc pc = .ok (.irem, 1)) (k : GJ g x nL (pc + 1) lv (.int (a - a / b * b) :: rest) ad σ) : GJ g x nL pc lv (.int b :: .int a :: rest) ad σ :=
  fun H locs ls hW hS hl => lv_irem K.1 K.2.1 d hne (k H locs ls hW hS hl)
theorem r_ldiv (K : Ok g x cc own nL fr lo) {a b : Int64} (hne : ¬ b = 0) (d : decode cc pc = .ok (.ldiv, 1)) (k : GJ g x nL (pc + 1) lv (.long (a / b) :: rest) ad σ) : GJ g x nL pc lv (.long b :: .long a :: rest) ad σ :=
  fun H locs ls hW hS hl => lv_ldiv K.1 K.2.1 d hne (k H locs ls hW hS hl)
theorem r_lrem (K : Ok g x cc own nL fr lo) {a b : Int64} (hne : ¬ b = 0) (d : decode cc pc = .ok (.lrem, 1)) (k : GJ g x nL (pc + 1) lv (.long (a - a / b * b) :: rest) ad σ) : GJ g x nL pc lv (.long b :: .long a :: rest) ad σ :=
  fun H locs ls hW hS hl => lv_lrem K.1 K.2.1 d hne (k H locs ls hW hS hl)
theorem r_i2l (K : Ok g x cc own nL fr lo) {a : Int32} (d : decode cc pc = .ok (.i2l, 1)) (k : GJ g x nL (pc + 1) lv (.long a.toInt64 :: rest) ad σ) : GJ g x nL pc lv (.int a :: rest) ad σ :=
  fun H locs ls hW hS hl => lv_i2l K.1 K.2.1 d rfl (k H locs ls hW hS hl)
theorem r_l2i (K : Ok g x cc own nL fr lo) {a : Int64} (d : decode cc pc = .ok (.l2i, 1)) (k : GJ g x nL (pc + 1) lv (.int a.toInt32 :: rest) ad σ) : GJ g x nL pc lv (.long a :: rest) ad σ :=
  fun H locs ls hW hS hl => lv_l2i K.1 K.2.1 d rfl (k H locs ls hW hS hl)
theorem r_i2c (K : Ok g x cc own nL fr lo) {a : Int32} (d : decode cc pc = .ok (.i2c, 1)) (k : GJ g x nL (pc + 1) lv (.int (a.toUInt32 % 65536).toInt32 :: rest) ad σ) : GJ g x nL pc lv (.int a :: rest) ad σ :=
  fun H locs ls hW hS hl => lv_i2c K.1 K.2.1 d rfl (k H locs ls hW hS hl)
theorem r_lshr (K : Ok g x cc own nL fr lo) {a : Int64} {b : Int32} (d : decode cc pc = .ok (.lshr, 1)) (k : GJ g x nL (pc + 1) lv (.long (a >>> (b.toInt64 &&& 63)) :: rest) ad σ) : GJ g x nL pc lv (.int b :: .long a :: rest) ad σ :=
  fun H locs ls hW hS hl => lv_lshr K.1 K.2.1 d rfl (k H locs ls hW hS hl)
theorem r_lshl (K : Ok g x cc own nL fr lo) {a : Int64} {b : Int32} (d : decode cc pc = .ok (.lshl, 1)) (k : GJ g x nL (pc + 1) lv (.long (a <<< (b.toInt64 &&& 63)) :: rest) ad σ) : GJ g x nL pc lv (.int b :: .long a :: rest) ad σ :=
  fun H locs ls hW hS hl => lv_lshl K.1 K.2.1 d rfl (k H locs ls hW hS hl)
theorem r_dup (K : Ok g x cc own nL fr lo) {v : Value} (hv : v.category = 1) (d : decode cc pc = .ok (.dup, 1)) (k : GJ g x nL (pc + 1) lv (v :: v :: rest) ad σ) : GJ g x nL pc lv (v :: rest) ad σ :=
  fun H locs ls hW hS hl => lv_dup K.1 K.2.1 d hv (k H locs ls hW hS hl)
theorem r_pop (K : Ok g x cc own nL fr lo) {v : Value} (hv : v.category = 1) (d : decode cc pc = .ok (.pop, 1)) (k : GJ g x nL (pc + 1) lv (rest) ad σ) : GJ g x nL pc lv (v :: rest) ad σ :=
  fun H locs ls hW hS hl => lv_pop K.1 K.2.1 d hv (k H locs ls hW hS hl)
theorem r_dup_x1 (K : Ok g x cc own nL fr lo) {v w : Value} (hv : v.category = 1) (hw : w.category = 1) (d : decode cc pc = .ok (.dup_x1, 1)) (k : GJ g x nL (pc + 1) lv (v :: w :: v :: rest) ad σ) : GJ g x nL pc lv (v :: w :: rest) ad σ :=
  fun H locs ls hW hS hl => lv_dup_x1 K.1 K.2.1 d hv hw (k H locs ls hW hS hl)
theorem r_dup2_11 (K : Ok g x cc own nL fr lo) {v w : Value} (hv : v.category = 1) (hw : w.category = 1) (d : decode cc pc = .ok (.dup2, 1)) (k : GJ g x nL (pc + 1) lv (v :: w :: v :: w :: rest) ad σ) : GJ g x nL pc lv (v :: w :: rest) ad σ :=
  fun H locs ls hW hS hl => lv_dup2_11 K.1 K.2.1 d hv hw (k H locs ls hW hS hl)
theorem r_goto (K : Ok g x cc own nL fr lo) {off : Int} (tgt : Nat) (d : decode cc pc = .ok (.goto off, 3)) (ht : (pc : Int) + off = (tgt : Int)) (k : GJ g x nL tgt lv rest ad σ) : GJ g x nL pc lv rest ad σ :=
  fun H locs ls hW hS hl => lv_goto K.1 K.2.1 d ht (k H locs ls hW hS hl)
theorem r_icmp_eq (K : Ok g x cc own nL fr lo) {a b : Int32} {off : Int} (tgt : Nat) (d : decode cc pc = .ok (.if_icmp .eq off, 3)) (ht : (pc : Int) + off = (tgt : Int)) (kt : a = b → GJ g x nL tgt lv rest ad σ) (kf : ¬ (a = b) → GJ g x nL (pc + 3) lv rest ad σ) : GJ g x nL pc lv (.int b :: .int a :: rest) ad σ :=
  fun H locs ls hW hS hl => lv_icmp_eq K.1 K.2.1 d ht (fun h => kt h H locs ls hW hS hl) (fun h => kf h H locs ls hW hS hl)
theorem r_if_eq (K : Ok g x cc own nL fr lo) {a : Int32} {off : Int} (tgt : Nat) (d : decode cc pc = .ok (.ifCond .eq off, 3)) (ht : (pc : Int) + off = (tgt : Int)) (kt : a = 0 → GJ g x nL tgt lv rest ad σ) (kf : ¬ (a = 0) → GJ g x nL (pc + 3) lv rest ad σ) : GJ g x nL pc lv (.int a :: rest) ad σ :=
  fun H locs ls hW hS hl => lv_if_eq K.1 K.2.1 d ht (fun h => kt h H locs ls hW hS hl) (fun h => kf h H locs ls hW hS hl)
theorem n_icmp_eq (K : Ok g x cc own nL fr lo) {a b : Nat} {off : Int} (tgt : Nat) (h1 : a < 2 ^ 31) (h2 : b < 2 ^ 31) (d : decode cc pc = .ok (.if_icmp .eq off, 3)) (ht : (pc : Int) + off = (tgt : Int)) (kt : a = b → GJ g x nL tgt lv rest ad σ) (kf : a ≠ b → GJ g x nL (pc + 3) lv rest ad σ) : GJ g x nL pc lv (.int (nI b) :: .int (nI a) :: rest) ad σ :=
  r_icmp_eq K tgt d ht (fun h => kt ((nI_eq h1 h2).mp h)) (fun h => kf (fun z => h (by rw [z])))
theorem r_icmp_ne (K : Ok g x cc own nL fr lo) {a b : Int32} {off : Int} (tgt : Nat) (d : decode cc pc = .ok (.if_icmp .ne off, 3)) (ht : (pc : Int) + off = (tgt : Int)) (kt : a ≠ b → GJ g x nL tgt lv rest ad σ) (kf : a = b → GJ g x nL (pc + 3) lv rest ad σ) : GJ g x nL pc lv (.int b :: .int a :: rest) ad σ :=
  fun H locs ls hW hS hl => lv_icmp_ne K.1 K.2.1 d ht (fun h => kt h H locs ls hW hS hl) (fun h => kf h H locs ls hW hS hl)
theorem r_if_ne (K : Ok g x cc own nL fr lo) {a : Int32} {off : Int} (tgt : Nat) (d : decode cc pc = .ok (.ifCond .ne off, 3)) (ht : (pc : Int) + off = (tgt : Int)) (kt : a ≠ 0 → GJ g x nL tgt lv rest ad σ) (kf : a = 0 → GJ g x nL (pc + 3) lv rest ad σ) : GJ g x nL pc lv (.int a :: rest) ad σ :=
  fun H locs ls hW hS hl => lv_if_ne K.1 K.2.1 d ht (fun h => kt h H locs ls hW hS hl) (fun h => kf h H locs ls hW hS hl)
theorem n_icmp_ne (K : Ok g x cc own nL fr lo) {a b : Nat} {off : Int} (tgt : Nat) (h1 : a < 2 ^ 31) (h2 : b < 2 ^ 31) (d : decode cc pc = .ok (.if_icmp .ne off, 3)) (ht : (pc : Int) + off = (tgt : Int)) (kt : a ≠ b → GJ g x nL tgt lv rest ad σ) (kf : a = b → GJ g x nL (pc + 3) lv rest ad σ) : GJ g x nL pc lv (.int (nI b) :: .int (nI a) :: rest) ad σ :=
  r_icmp_ne K tgt d ht (fun h => kt (fun z => h (by rw [z]))) (fun h => kf ((nI_eq h1 h2).mp h))
theorem r_icmp_lt (K : Ok g x cc own nL fr lo) {a b : Int32} {off : Int} (tgt : Nat) (d : decode cc pc = .ok (.if_icmp .lt off, 3)) (ht : (pc : Int) + off = (tgt : Int)) (kt : a < b → GJ g x nL tgt lv rest ad σ) (kf : ¬ (a < b) → GJ g x nL (pc + 3) lv rest ad σ) : GJ g x nL pc lv (.int b :: .int a :: rest) ad σ :=
  fun H locs ls hW hS hl => lv_icmp_lt K.1 K.2.1 d ht (fun h => kt h H locs ls hW hS hl) (fun h => kf h H locs ls hW hS hl)
theorem r_if_lt (K : Ok g x cc own nL fr lo) {a : Int32} {off : Int} (tgt : Nat) (d : decode cc pc = .ok (.ifCond .lt off, 3)) (ht : (pc : Int) + off = (tgt : Int)) (kt : a < 0 → GJ g x nL tgt lv rest ad σ) (kf : ¬ (a < 0) → GJ g x nL (pc + 3) lv rest ad σ) : GJ g x nL pc lv (.int a :: rest) ad σ :=
  fun H locs ls hW hS hl => lv_if_lt K.1 K.2.1 d ht (fun h => kt h H locs ls hW hS hl) (fun h => kf h H locs ls hW hS hl)
theorem n_icmp_lt (K : Ok g x cc own nL fr lo) {a b : Nat} {off : Int} (tgt : Nat) (h1 : a < 2 ^ 31) (h2 : b < 2 ^ 31) (d : decode cc pc = .ok (.if_icmp .lt off, 3)) (ht : (pc : Int) + off = (tgt : Int)) (kt : a < b → GJ g x nL tgt lv rest ad σ) (kf : b ≤ a → GJ g x nL (pc + 3) lv rest ad σ) : GJ g x nL pc lv (.int (nI b) :: .int (nI a) :: rest) ad σ :=
  r_icmp_lt K tgt d ht (fun h => kt ((nI_ltI h1 h2).mp h)) (fun h => kf (Nat.not_lt.mp (fun z => h ((nI_ltI h1 h2).mpr z))))
theorem r_icmp_ge (K : Ok g x cc own nL fr lo) {a b : Int32} {off : Int} (tgt : Nat) (d : decode cc pc = .ok (.if_icmp .ge off, 3)) (ht : (pc : Int) + off = (tgt : Int)) (kt : b ≤ a → GJ g x nL tgt lv rest ad σ) (kf : ¬ (b ≤ a) → GJ g x nL (pc + 3) lv rest ad σ) : GJ g x nL pc lv (.int b :: .int a :: rest) ad σ :=
  fun H locs ls hW hS hl => lv_icmp_ge K.1 K.2.1 d ht (fun h => kt h H locs ls hW hS hl) (fun h => kf h H locs ls hW hS hl)
theorem r_if_ge (K : Ok g x cc own nL fr lo) {a : Int32} {off : Int} (tgt : Nat) (d : decode cc pc = .ok (.ifCond .ge off, 3)) (ht : (pc : Int) + off = (tgt : Int)) (kt : 0 ≤ a → GJ g x nL tgt lv rest ad σ) (kf : ¬ (0 ≤ a) → GJ g x nL (pc + 3) lv rest ad σ) : GJ g x nL pc lv (.int a :: rest) ad σ :=
  fun H locs ls hW hS hl => lv_if_ge K.1 K.2.1 d ht (fun h => kt h H locs ls hW hS hl) (fun h => kf h H locs ls hW hS hl)
theorem n_icmp_ge (K : Ok g x cc own nL fr lo) {a b : Nat} {off : Int} (tgt : Nat) (h1 : a < 2 ^ 31) (h2 : b < 2 ^ 31) (d : decode cc pc = .ok (.if_icmp .ge off, 3)) (ht : (pc : Int) + off = (tgt : Int)) (kt : b ≤ a → GJ g x nL tgt lv rest ad σ) (kf : a < b → GJ g x nL (pc + 3) lv rest ad σ) : GJ g x nL pc lv (.int (nI b) :: .int (nI a) :: rest) ad σ :=
  r_icmp_ge K tgt d ht (fun h => kt ((nI_leI h2 h1).mp h)) (fun h => kf (Nat.not_le.mp (fun z => h ((nI_leI h2 h1).mpr z))))
theorem r_icmp_gt (K : Ok g x cc own nL fr lo) {a b : Int32} {off : Int} (tgt : Nat) (d : decode cc pc = .ok (.if_icmp .gt off, 3)) (ht : (pc : Int) + off = (tgt : Int)) (kt : b < a → GJ g x nL tgt lv rest ad σ) (kf : ¬ (b < a) → GJ g x nL (pc + 3) lv rest ad σ) : GJ g x nL pc lv (.int b :: .int a :: rest) ad σ :=
  fun H locs ls hW hS hl => lv_icmp_gt K.1 K.2.1 d ht (fun h => kt h H locs ls hW hS hl) (fun h => kf h H locs ls hW hS hl)
theorem r_if_gt (K : Ok g x cc own nL fr lo) {a : Int32} {off : Int} (tgt : Nat) (d : decode cc pc = .ok (.ifCond .gt off, 3)) (ht : (pc : Int) + off = (tgt : Int)) (kt : 0 < a → GJ g x nL tgt lv rest ad σ) (kf : ¬ (0 < a) → GJ g x nL (pc + 3) lv rest ad σ) : GJ g x nL pc lv (.int a :: rest) ad σ :=
  fun H locs ls hW hS hl => lv_if_gt K.1 K.2.1 d ht (fun h => kt h H locs ls hW hS hl) (fun h => kf h H locs ls hW hS hl)
theorem n_icmp_gt (K : Ok g x cc own nL fr lo) {a b : Nat} {off : Int} (tgt : Nat) (h1 : a < 2 ^ 31) (h2 : b < 2 ^ 31) (d : decode cc pc = .ok (.if_icmp .gt off, 3)) (ht : (pc : Int) + off = (tgt : Int)) (kt : b < a → GJ g x nL tgt lv rest ad σ) (kf : a ≤ b → GJ g x nL (pc + 3) lv rest ad σ) : GJ g x nL pc lv (.int (nI b) :: .int (nI a) :: rest) ad σ :=
  r_icmp_gt K tgt d ht (fun h => kt ((nI_ltI h2 h1).mp h)) (fun h => kf (Nat.not_lt.mp (fun z => h ((nI_ltI h2 h1).mpr z))))
theorem r_icmp_le (K : Ok g x cc own nL fr lo) {a b : Int32} {off : Int} (tgt : Nat) (d : decode cc pc = .ok (.if_icmp .le off, 3)) (ht : (pc : Int) + off = (tgt : Int)) (kt : a ≤ b → GJ g x nL tgt lv rest ad σ) (kf : ¬ (a ≤ b) → GJ g x nL (pc + 3) lv rest ad σ) : GJ g x nL pc lv (.int b :: .int a :: rest) ad σ :=
  fun H locs ls hW hS hl => lv_icmp_le K.1 K.2.1 d ht (fun h => kt h H locs ls hW hS hl) (fun h => kf h H locs ls hW hS hl)
theorem r_if_le (K : Ok g x cc own nL fr lo) {a : Int32} {off : Int} (tgt : Nat) (d : decode cc pc = .ok (.ifCond .le off, 3)) (ht : (pc : Int) + off = (tgt : Int)) (kt : a ≤ 0 → GJ g x nL tgt lv rest ad σ) (kf : ¬ (a ≤ 0) → GJ g x nL (pc + 3) lv rest ad σ) : GJ g x nL pc lv (.int a :: rest) ad σ :=
  fun H locs ls hW hS hl => lv_if_le K.1 K.2.1 d ht (fun h => kt h H locs ls hW hS hl) (fun h => kf h H locs ls hW hS hl)
theorem n_icmp_le (K : Ok g x cc own nL fr lo) {a b : Nat} {off : Int} (tgt : Nat) (h1 : a < 2 ^ 31) (h2 : b < 2 ^ 31) (d : decode cc pc = .ok (.if_icmp .le off, 3)) (ht : (pc : Int) + off = (tgt : Int)) (kt : a ≤ b → GJ g x nL tgt lv rest ad σ) (kf : b < a → GJ g x nL (pc + 3) lv rest ad σ) : GJ g x nL pc lv (.int (nI b) :: .int (nI a) :: rest) ad σ :=
  r_icmp_le K tgt d ht (fun h => kt ((nI_leI h1 h2).mp h)) (fun h => kf (Nat.not_le.mp (fun z => h ((nI_leI h1 h2).mpr z))))
theorem n_if_eq (K : Ok g x cc own nL fr lo) {a : Nat} {off : Int} (tgt : Nat) (h1 : a < 2 ^ 31) (d : decode cc pc = .ok (.ifCond .eq off, 3)) (ht : (pc : Int) + off = (tgt : Int)) (kt : a = 0 → GJ g x nL tgt lv rest ad σ) (kf : a ≠ 0 → GJ g x nL (pc + 3) lv rest ad σ) : GJ g x nL pc lv (.int (nI a) :: rest) ad σ :=
  r_if_eq K tgt d ht (fun h => kt ((nI_eq h1 (by decide)).mp h)) (fun h => kf (fun z => h (by rw [z]; rfl)))
theorem n_if_ne (K : Ok g x cc own nL fr lo) {a : Nat} {off : Int} (tgt : Nat) (h1 : a < 2 ^ 31) (d : decode cc pc = .ok (.ifCond .ne off, 3)) (ht : (pc : Int) + off = (tgt : Int)) (kt : a ≠ 0 → GJ g x nL tgt lv rest ad σ) (kf : a = 0 → GJ g x nL (pc + 3) lv rest ad σ) : GJ g x nL pc lv (.int (nI a) :: rest) ad σ :=
  r_if_ne K tgt d ht (fun h => kt (fun z => h (by rw [z]; rfl))) (fun h => kf ((nI_eq h1 (by decide)).mp h))
def bI (b : Bool) : Int32 := if b then 1 else 0
theorem b_if_eq (K : Ok g x cc own nL fr lo) {b : Bool} {off : Int} (tgt : Nat) (d : decode cc pc = .ok (.ifCond .eq off, 3)) (ht : (pc : Int) + off = (tgt : Int)) (kt : b = false → GJ g x nL tgt lv rest ad σ) (kf : b = true → GJ g x nL (pc + 3) lv rest ad σ) : GJ g x nL pc lv (.int (bI b) :: rest) ad σ :=
  r_if_eq K tgt d ht (fun h => kt (by cases b; rfl; exact absurd h (by decide))) (fun h => kf (by cases b; exact absurd rfl h; rfl))
theorem b_if_ne (K : Ok g x cc own nL fr lo) {b : Bool} {off : Int} (tgt : Nat) (d : decode cc pc = .ok (.ifCond .ne off, 3)) (ht : (pc : Int) + off = (tgt : Int)) (kt : b = true → GJ g x nL tgt lv rest ad σ) (kf : b = false → GJ g x nL (pc + 3) lv rest ad σ) : GJ g x nL pc lv (.int (bI b) :: rest) ad σ :=
  r_if_ne K tgt d ht (fun h => kt (by cases b; exact absurd rfl h; rfl)) (fun h => kf (by cases b; rfl; exact absurd h (by decide)))
theorem r_tableIn (K : Ok g x cc own nL fr lo) {dflt lo' hi off : Int} {offs : Array Int} {len : Nat} {v : Int32} (tgt : Nat) (d : decode cc pc = .ok (.tableswitch dflt lo' hi offs, len)) (h1 : ¬ v.toInt < lo') (h2 : ¬ hi < v.toInt) (ho : offs[(v.toInt - lo').toNat]? = some off) (ht : (pc : Int) + off = (tgt : Int)) (k : GJ g x nL tgt lv rest ad σ) : GJ g x nL pc lv (.int v :: rest) ad σ :=
  fun H locs ls hW hS hl => lv_tableIn K.1 K.2.1 d h1 h2 ho ht (k H locs ls hW hS hl)
theorem r_tableOut (K : Ok g x cc own nL fr lo) {dflt lo' hi : Int} {offs : Array Int} {len : Nat} {v : Int32} (tgt : Nat) (d : decode cc pc = .ok (.tableswitch dflt lo' hi offs, len)) (h : v.toInt < lo' ∨ hi < v.toInt) (ht : (pc : Int) + dflt = (tgt : Int)) (k : GJ g x nL tgt lv rest ad σ) : GJ g x nL pc lv (.int v :: rest) ad σ :=
  fun H locs ls hW hS hl => lv_tableOut K.1 K.2.1 d h ht (k H locs ls hW hS hl)
theorem r_lcmp (K : Ok g x cc own nL fr lo) {a b : Int64} (d : decode cc pc = .ok (.lcmp, 1)) (hlt : a < b → GJ g x nL (pc + 1) lv (.int (-1) :: rest) ad σ) (heq : a = b → GJ g x nL (pc + 1) lv (.int 0 :: rest) ad σ) (hgt : b < a → GJ g x nL (pc + 1) lv (.int 1 :: rest) ad σ) : GJ g x nL pc lv (.long b :: .long a :: rest) ad σ := by
  intro H locs ls hW hS hl
  refine W.lcmp K.1 K.2.1 d ?_
  rcases Int.lt_trichotomy a.toInt b.toInt with h | h | h
  · have h0 : a < b := Int64.lt_iff_toInt_lt.mpr h
    have e1 : lg_cmp a b = -1 := by
      have n1 : ¬ b < a := fun z => by have := Int64.lt_iff_toInt_lt.mp z; omega
      have n2 : ¬ a = b := fun z => by rw [z] at h; omega
      simp [lg_cmp, n1, n2, h0]
    rw [e1]
    exact hlt h0 H locs ls hW hS hl
  · have h0 : a = b := Int64.toInt_inj.mp h
    have e1 : lg_cmp a b = 0 := by
      subst h0
      simp [lg_cmp]
    rw [e1]
    exact heq h0 H locs ls hW hS hl
  · have h0 : b < a := Int64.lt_iff_toInt_lt.mpr h
    have e1 : lg_cmp a b = 1 := by simp [lg_cmp, h0]
    rw [e1]
    exact hgt h0 H locs ls hW hS hl
end RULES
