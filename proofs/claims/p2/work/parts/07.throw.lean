-- how a method ends by a throw
def xt_E (A : Nat → Prop) (X : String) (st : State) (o : Outcome) (t : State) (mc ms : Nat) : Prop := ∃ (x : Addr) (ce : Cell) (L : List Loc), o = .threw x ∧ t.heap[x]? = some ce ∧ ce.vm = .none ∧ st.vm.findClass X = some ce.cls ∧ st.vm.assignable ce.cls ce.cls = true ∧ st.WarmedH t.vm ∧ st.sameButNew ({ t with vm := st.vm } : State) L mc ms ∧ ∀ q ∈ L, A q.base
def xt_Q (below : List Frame) (A : Nat → Prop) (X : String) (s : State) (mc ms : Nat) : State → Prop := fun t => ∃ o, t.status = .running ∧ Ended t below o ∧ xt_E A X s o t mc ms
def kc_T (l : Launch) (y : MethodName) (b : ByteArray) (n : Nat) (ret : Option FieldType) (rm : Room) (g : xg_G) (av : List Value) (ws : va_W) (X : String) : Prop :=
  ∀ sz : Nat, MetFree l y (headSpec (.code y b n ret :: xt_T) rm) (kc_P g av ws sz) (fun _ _ _ _ _ => True) (fun _ st o t => xt_E (va_A ws sz) X st o t rm.cells rm.slots)
theorem xt_kept {A : Nat → Prop} {st t : State} {L : List Loc} {mc ms : Nat} (h : st.sameButNew ({ t with vm := st.vm } : State) L mc ms) (hL : ∀ q ∈ L, A q.base) : va_F A st t := by
  obtain ⟨-, h2, -, -, -, h6⟩ := h
  refine ⟨h2, fun q hq hA => ?_⟩
  obtain ⟨c', e1, e2, e3, e4⟩ := h6 q _ (Array.getElem?_eq_getElem hq)
  have e5 : c'.slots = (st.heap[q]).slots := by
    refine Array.ext e3 (fun i h1 h3 => ?_)
    have h9 := e4 i (fun hm => hA (hL _ hm))
    rw [Array.getElem?_eq_getElem h1, Array.getElem?_eq_getElem h3] at h9
    exact Option.some.inj h9
  have e6 : c' = st.heap[q] := by rw [e2, e5]
  have e7 : t.heap[q]? = some c' := e1
  rw [e7, e6, Array.getElem?_eq_getElem hq]
theorem xt_plain {g : xg_G} {ws : va_W} {s : State} (hP : va_P g.1 vwCl ws s.heap) : ∀ (q : Nat) (cell : Cell), va_A ws s.heap.size q → s.heap[q]? = some cell → cell.vm.isStatics = false := by
  intro q cell hA hc
  rcases hA with ⟨k, en, hk⟩ | hA
  · have h := hP k (q, en) hk
    cases en with
    | inl a =>
      have h1 : s.heap[q]? = some (vp_cell a.1 a.2) := h
      rw [h1] at hc
      cases hc
      obtain ⟨c, n, f | f | f | f | f⟩ := a <;> rfl
    | inr o =>
      obtain ⟨r, -, ce, h1, -, h3, -⟩ := h
      have h4 : s.heap[q]? = some ce := h1
      rw [h4] at hc
      cases hc
      rw [h3]
      rfl
  · have := (Array.getElem?_eq_some_iff.mp hc).1
    omega
theorem kc_Tof {l : Launch} {y : MethodName} {b : ByteArray} {n : Nat} {ret : Option FieldType} {rm : Room} {g : xg_G} {av : List Value} {ws : va_W} {X : String} (hy : plainName y.cls = true) (hal : (lg_sl av).length ≤ n)
    (body : ∀ (p : Program) (e : Env) (s : State) (m : MethodId) (args : Array Value) (below : List Frame) (meth : Method) (c : Code) (A : Nat → Prop) (ls : Array Slot) (Q : State → Prop) (H : Heap) (locs : List Loc), (∀ t, xt_Q below A X s rm.cells rm.slots t → Q t) → xb_B g y b n ret av ws p s m args meth c A ls → va_P g.1 vwCl ws H → va_S A s.heap H locs → ((∀ (q : Nat) (cell : Cell), A q → s.heap[q]? = some cell → cell.vm.isStatics = false) ∧ c.exceptionTable.isEmpty = true) → W p l e rm s m args below meth c H locs 0 0 Q (F0 m 0 ls [])) : kc_T l y b n ret rm g av ws X := by
  intro sz
  refine MetFree.of_bodyS (code := b) (maxLocals := n) (ret := ret) hy ?_ ?_
  · intro args s m h hn
    obtain ⟨meth, c, h1, h2, h3, h4, h5, h6, -, -⟩ := Cond.code_spec hn (atoms_spec (ws := .code y b n ret :: xt_T) h _ List.mem_cons_self)
    exact ⟨meth, c, h1, h2, h3, h4, h5, h6⟩
  · intro p e s m args below meth c s₁ B hml hv _
    have hh0 : s₁.heap = s.heap := by rw [B.state]; rfl
    have hex := B.noHandlers (atoms_spec (ws := .code y b n ret :: xt_T) B.pre _ List.mem_cons_self)
    obtain ⟨ls, e1, hsz, hP, hB⟩ := xb_get hal B hml hv
    rw [e1]
    obtain ⟨t, a1, o, b1, b2, b3⟩ := body p e s m args below meth c _ ls (xt_Q below (va_A ws sz) X s rm.cells rm.slots) _ _ (fun _ h => h) hB hP va_S.rf ⟨by rw [← hsz]; exact xt_plain hP, hex⟩ s₁ hh0 (Stand.of_body B)
    exact ⟨t, o, a1, b1, b2, b3⟩
theorem xt_isRef {C n d : String} {A : Nat → Prop} {s : State} {args : Array Value} (h : va_Zq C n d A s s.heap) : (Cond.isRef (.static C n d)).before args s = true := by
  have key : ∀ v : Value, va_Z C n d v A s s.heap → (Term.static C n d).eval args s none [] s = some v := by
    intro v hv
    obtain ⟨cf, kf, fi, f, a, cell, h1, h2, h3, h4, h5, h6, h7, -⟩ := hv
    simp [Term.eval, State.fieldNamed?, h1, h2, h4, h5, h6, h7]
  rcases h with h | ⟨t, h⟩
  · simp [Cond.before, Cond.holds, Cond.value, key _ h]
  · simp [Cond.before, Cond.holds, Cond.value, key _ h]
abbrev xt_r1 : Cond := .isRef (.static "java/lang/Throwable" "UNASSIGNED_STACK" "[Ljava/lang/StackTraceElement;")
abbrev xt_r2 : Cond := .isRef (.static "java/lang/Throwable" "SUPPRESSED_SENTINEL" "Ljava/util/List;")
abbrev xt_r3 : Cond := .laysStatic "java/lang/Throwable" "UNASSIGNED_STACK" "[Ljava/lang/StackTraceElement;"
abbrev xt_r4 : Cond := .laysStatic "java/lang/Throwable" "SUPPRESSED_SENTINEL" "Ljava/util/List;"
def xt_K (a : Cond) : Prop := a ∈ xt_T ∨ (a = xt_r1 ∨ a = xt_r2 ∨ a = xt_r3 ∨ a = xt_r4) ∨ (∃ x ∈ xe_ds, a = .declares x) ∨ ∃ C ∈ xe_cs, a = .castable C C
section XT
variable {p : Program} {l : Launch} {e : Env} {R : Room} {s : State} {m : MethodId} {args : Array Value} {below : List Frame} {meth : Method} {c : Code} {H : Heap} {locs : List Loc} {cells slots : Nat} {Q : State → Prop}
variable {cc : ByteArray} {pc nL : Nat} {ls : Array Slot} {rest : List Value} {g : xg_G} {A : Nat → Prop} {mc ms : Nat}
/-- new X; dup; X(); athrow: out of the method -/
theorem xt_throw {own cls : String} {names : List String} {i1 ic : Nat} (hat : ∀ a ∈ Bundle.ownAtoms0 own ic cls names, xt_K a) (hfit : Bundle.fit cls = true) (hnames : ∀ n ∈ names, Bundle.fit n = true) (hcl : Cond.classLink own i1 cls ∈ xt_T) (hins : Cond.instantiable cls 6 ∈ xt_T) (hini : Cond.initialized cls ∈ xt_T)
    (htr : l.stackTraces = false) (hx : p.tables.exec = Jvm.exec) (hb : c.code = cc) (hlk : meth.locks = false) (hts : ∀ w ∈ xt_T, w.before args s = true) (hown : s.vm.findClass own = some m.cls) (hE : xe_E A s s.heap) (hst : (∀ (q : Nat) (cell : Cell), A q → s.heap[q]? = some cell → cell.vm.isStatics = false) ∧ c.exceptionTable.isEmpty = true) (hS : va_S A s.heap H locs) (hml : c.maxLocals = nL) (hsz : ls.size = nL) (hQ : ∀ t, xt_Q below A cls s mc ms t → Q t)
    (d1 : decode cc pc = .ok (.new i1, 3)) (d2 : decode cc (pc + 3) = .ok (.dup, 1)) (d3 : decode cc (pc + 4) = .ok (.invokespecial ic, 3)) (d4 : decode cc (pc + 7) = .ok (.athrow, 1)) (hc1 : cells + 1 ≤ R.cells) (hc2 : slots + 6 ≤ R.slots) (hmc : cells + 1 ≤ mc) (hms : slots + 6 ≤ ms) (hR1 : names.length + 3 < R.frames) (hR2 : 1 + (13 * (names.length + 1) + 41) ≤ R.locals) :
    W p l e R s m args below meth c H locs cells slots Q (F0 m pc ls []) := by
  refine W.newc hx hb hown (hts _ hcl) (hts _ hins) (hts _ hini) rfl d1 hc1 hc2 (fun cC kC h1 h2 h3 h4 => ?_)
  refine W.eq (g2 := F0 m (pc + 3) ls [.ref H.size]) rfl ?_
  refine lv_dup hx hb d2 rfl ?_
  refine W.widen (k := mc) (n := ms) hmc hms ?_
  intro T hT X
  have htr' : e.platform.stackTraces = false := by
    have h9 : e.platform.stackTraces = l.stackTraces := by rw [X.admits.platform]
    rw [h9]; exact htr
  have hatoms : ∀ a ∈ Bundle.ownAtoms0 own ic cls names, a.before args s = true := by
    intro a ha
    rcases hat a ha with h | (h | h | h | h) | ⟨x, hx9, h⟩ | ⟨C, hC9, h⟩
    · exact hts a h
    · rw [h]; exact xt_isRef hE.1
    · rw [h]; exact xt_isRef hE.2.1
    · rw [h]; exact hE.2.2.2.2.2.1.use
    · rw [h]; exact hE.2.2.2.2.2.2.1.use
    · rw [h]; exact va_Nw.use rfl (hE.2.2.2.2.2.2.2.1 x hx9)
    · rw [h]; exact (hE.2.2.2.2.2.2.2.2 C hC9).use
  have hout : ∀ x ∈ c.exceptionTable.toList, covers x (pc + 4 + 3) = false := by
    have h9 : c.exceptionTable = #[] := by simpa using hst.2
    rw [h9]; intro x hx9; cases hx9
  obtain ⟨U, hst1, hrun, hend, hW, hsame, ce, hce, hOC⟩ := X.ctorThrow0 hx htr' hown hfit hnames hatoms (fun x hx9 cell hc9 => hst.1 _ _ (hS.2.2 x hx9) hc9) h1 h2 (a := H.size) (by rw [hT]; simp) hS.1 (g := F0 m (pc + 4) ls [.ref H.size, .ref H.size]) (rest := []) rfl (hsz.trans hml.symm) rfl rfl rfl (by rw [hb]; exact d3) (by rw [hb]; exact d4) hout hR1 (by show 2 * 0 + 1 + _ ≤ _; omega) hlk
  exact ⟨U, hst1, hQ U ⟨_, hrun, hend, H.size, ce, locs, rfl, hce, hOC.vm, hOC.cls, hOC.self, hW, hsame, hS.2.2⟩⟩
end XT
-- the search through a table of handlers, its classes resolved now or before
theorem xt_row {Q : Handler → Pre} {E : CtlPost} {e : Env} {d : Bool} {acts : List Action} {S : State} {f : JFrame} {a : Addr} {z : ExceptionTableEntry} {t : List ExceptionTableEntry} {cT : ClassId} {cell : Cell} (hz : covers z f.pc = true) (h0 : z.catchType ≠ 0) (hl : S.vm.ClassLinks e.platform f.method.cls z.catchType cT) (hcell : S.heap[a]? = some cell) (hobj : ∀ k, cell.vm ≠ .statics k) (hk : ∃ k, S.vm.classes[cell.cls]? = some k) (hc : ∃ k, S.vm.classes[cT]? = some k) :
    wp (findHandler.go f a (z :: t)) Q E e d acts S ↔ (if S.vm.assignable cell.cls cT = true then Q (.found z.handlerPc) d acts (S.setVm (S.vm.noted f.method.cls z.catchType (.cls cT))) else wp (findHandler.go f a t) Q E e d acts (S.setVm (S.vm.noted f.method.cls z.catchType (.cls cT)))) := by
  simp only [covers] at hz
  obtain ⟨ha, ht⟩ := (resolveClass_links e.toSetting hl).op (op := VmOp.resolveClass f.method.cls z.catchType) rfl
  have hal : S.vm.Alike (S.vm.noted f.method.cls z.catchType (.cls cT)) := (Vm.Alike.refl S.vm).noted _ _ _
  obtain ⟨k1, hk1⟩ := hk
  obtain ⟨k2, hk2⟩ := hc
  obtain ⟨k3, hk3, -⟩ := hal.2.2 _ _ hk1
  obtain ⟨k4, hk4, -⟩ := hal.2.2 _ _ hk2
  cases hfit : S.vm.assignable cell.cls cT with
  | true =>
    have hfit' : (S.vm.noted f.method.cls z.catchType (.cls cT)).assignable cell.cls cT = true := by rw [hal.assignable]; exact hfit
    simp [findHandler.go, hz, h0, ha, ht, hcell, hobj, hk3, hk4, hfit', VmOp.dirties, VmOp.acts]
  | false =>
    have hfit' : (S.vm.noted f.method.cls z.catchType (.cls cT)).assignable cell.cls cT = false := by rw [hal.assignable]; exact hfit
    simp [findHandler.go, hz, h0, ha, ht, hcell, hobj, hk3, hk4, hfit', VmOp.dirties, VmOp.acts]
def xt_pass (pl : Platform) (s : State) (d : ClassId) (pc : Nat) (cl : ClassId) (z : ExceptionTableEntry) : Prop := covers z pc = true ∧ z.catchType ≠ 0 ∧ ∃ cT, s.vm.ClassLinks pl d z.catchType cT ∧ s.vm.assignable cl cT = false
theorem xt_find {e : Env} {s : State} {f : JFrame} {a : Addr} {cell : Cell} (hobj : ∀ k, cell.vm ≠ .statics k) (hk0 : ∃ k, s.vm.classes[cell.cls]? = some k) {z : ExceptionTableEntry} {rest : List ExceptionTableEntry} (hz : covers z f.pc = true) (h0 : z.catchType ≠ 0) {cT : ClassId} (hl : s.vm.ClassLinks e.platform f.method.cls z.catchType cT) (hfit : s.vm.assignable cell.cls cT = true) :
    ∀ (pre : List ExceptionTableEntry) (S : State), s.WarmedH S.vm → S.heap[a]? = some cell → (∀ y ∈ pre, xt_pass e.platform s f.method.cls f.pc cell.cls y) →
      ∃ vm', s.WarmedH vm' ∧ ∀ (Q : Handler → Pre) (E : CtlPost) (d : Bool) (acts : List Action), wp (findHandler.go f a (pre ++ z :: rest)) Q E e d acts S ↔ Q (.found z.handlerPc) d acts (S.setVm vm') := by
  have note : ∀ {y : ExceptionTableEntry} {cY : ClassId} {S : State}, s.WarmedH S.vm → s.vm.ClassLinks e.platform f.method.cls y.catchType cY → s.WarmedH (S.vm.noted f.method.cls y.catchType (.cls cY)) ∧ (∃ k, S.vm.classes[cell.cls]? = some k) ∧ ∃ k, S.vm.classes[cY]? = some k := by
    intro y cY S hW hly
    obtain ⟨dk, _, _, kt, hd, _, _, _, _, hkt, _, hopen⟩ := hly.here
    obtain ⟨kt', hkt', -⟩ := hW.alike.2.2 _ _ hkt
    obtain ⟨k0, hk0⟩ := hk0
    obtain ⟨k0', hk0', -⟩ := hW.alike.2.2 _ _ hk0
    exact ⟨hW.noted hd hopen (State.rightAt_cls hly), ⟨k0', hk0'⟩, ⟨kt', hkt'⟩⟩
  intro pre
  induction pre with
  | nil =>
    intro S hW hcell _
    obtain ⟨n1, n2, n3⟩ := note hW hl
    refine ⟨_, n1, fun Q E d acts => ?_⟩
    rw [List.nil_append, xt_row hz h0 (hW.classLinks hl) hcell hobj n2 n3, if_pos (by rw [hW.alike.assignable]; exact hfit)]
  | cons y ys ih =>
    intro S hW hcell hpass
    obtain ⟨q1, q2, cY, q3, q4⟩ := hpass y List.mem_cons_self
    obtain ⟨n1, n2, n3⟩ := note hW q3
    obtain ⟨vm', hW', hq⟩ := ih (S.setVm (S.vm.noted f.method.cls y.catchType (.cls cY))) n1 hcell (fun w hw => hpass w (List.mem_cons_of_mem _ hw))
    refine ⟨vm', hW', fun Q E d acts => ?_⟩
    rw [List.cons_append, xt_row q1 q2 (hW.classLinks q3) hcell hobj n2 n3, if_neg (by rw [hW.alike.assignable, q4]; decide)]
    exact hq Q E d acts
theorem xt_step {tb : Tables} {e : Env} {s target : State} {f : JFrame} {c : Code} {below : List Frame} {a : Addr} (h : At s f.method c below) {pc : Nat} {vm' : Vm}
    (hfind : ∀ (Q : Handler → Pre) (E : CtlPost) (d : Bool) (acts : List Action), wp (findHandler f a) Q E e d acts ((s.setTop f).pushFrame (.throwing a)) ↔ Q (.found pc) d acts (((s.setTop f).pushFrame (.throwing a)).setVm vm'))
    (hrest : Steps tb e below ((s.setVm vm').setTop { f with pc := pc, stack := [.ref a] }) target) : Steps tb e below ((s.setTop f).pushFrame (.throwing a)) target := by
  obtain ⟨hgo, hw⟩ := h.throwing a
  refine Steps.head hgo hw ?_
  have key : (stepThrowing e ((s.setTop f).pushFrame (.throwing a)) a (.java f :: s.frames.tail)).1 = (((s.setTop f).pushFrame (.throwing a)).setVm vm').setFrames (.java { f with pc := pc, stack := [.ref a] } :: s.frames.tail) := by
    simp only [stepThrowing, searchFrame, vmDo]
    generalize hr : Sem.go _ e false [] ((s.setTop f).pushFrame (.throwing a)) = res
    obtain ⟨as, rfl, ha⟩ := Sem.eq_ok_of hr (a := Handler.found pc) (s' := ((s.setTop f).pushFrame (.throwing a)).setVm vm') (acts' := []) (by simp [hfind _ _ _ _])
    rfl
  rw [stepThread_throwing (frames_entered h.top _), key]
  obtain ⟨g₀, hg⟩ := Option.isSome_iff_exists.mp h.top
  obtain ⟨r, hr⟩ := State.topJava?_eq_some.mp hg
  have hr' : (s.setVm vm').frames = .java g₀ :: r := hr
  rw [State.setTop_of_frames _ hr'] at hrest
  have e1 : ∀ (F G : List Frame) (u : State), ((u.setFrames F).setVm vm').setFrames G = (u.setVm vm').setFrames G := by
    intro F G u
    rw [show (u.setFrames F).setVm vm' = (u.setVm vm').setFrames F from rfl, State.setFrames_setFrames]
  rw [State.pushFrame, e1, State.setTop_of_frames _ hr, e1, hr]
  exact hrest
-- a call whose callee throws, caught by the caller's own table
section XTC
variable {p : Program} {l : Launch} {e : Env} {R : Room} {s : State} {m : MethodId} {args : Array Value} {below : List Frame} {meth : Method} {c : Code} {T : State} {H : Heap} {locs : List Loc} {cells slots : Nat} {Q : State → Prop}
variable {cc : ByteArray} {pc nL : Nat} {ls : Array Slot} {rest st0 : List Value} {g : xg_G} {A : Nat → Prop} {a : Nat} {ws wc wr : va_W} {y : MethodName} {b : ByteArray} {n idx : Nat} {ret : Option FieldType} {rm : Room} {own C X : String} {av As : List Value} {k1 k2 : Nat}
theorem xt_out (Z : Stand p l e R s m args below meth c T locs cells slots) (hts : ∀ w ∈ xt_T, w.before args s = true) (hcode : Cond.code y b n ret ∈ xt_T) (hini : Cond.initialized y.cls ∈ xt_T) (hM : kc_T l y b n ret rm g av wc X) (hp : kc_P g av wc T.heap.size av.toArray T)
    {f : JFrame} (hg : f.method = m) (hsize : f.locals.size = c.maxLocals) {ig : Instr} {len : Nat} (hdg : decode c.code f.pc = .ok (ig, len)) {mk : MethodId} (hn : s.methodNamed? y = some mk) (hrm : rm.frames + 1 ≤ R.frames ∧ 8 + (n + 11) + rm.locals ≤ R.locals) (hc : cells + rm.cells ≤ R.cells) (hs : slots + rm.slots ≤ R.slots) (hW : 2 * f.monitorRoom + (f.stack.map fun v => v.category).sum ≤ 8) :
    ∃ (x : Addr) (ce : Cell) (T' : State) (L : List Loc), Stand p l e R s m args below meth c T' (locs ++ L) (cells + rm.cells) (slots + rm.slots) ∧ (∀ q ∈ L, va_A wc T.heap.size q.base) ∧ T'.heap[x]? = some ce ∧ ce.vm = .none ∧ s.vm.findClass X = some ce.cls ∧ s.vm.assignable ce.cls ce.cls = true ∧ T.heap.size ≤ T'.heap.size ∧ (∀ q : Nat, q < T.heap.size → ¬ va_A wc T.heap.size q → T'.heap[q]? = T.heap[q]?) ∧
      Steps p.tables e below (doInvoke e (T.setTop f) [] mk av.toArray).1 ((T'.setTop f).pushFrame (.throwing x)) := by
  have hnT : T.methodNamed? y = some mk := Z.named hn
  have h2 : (Cond.code y b n ret).before av.toArray T = true := word_at Z.warmed (xt_good hcode) (hts _ hcode)
  have h3 : (Cond.initialized y.cls).before av.toArray T = true := word_at Z.warmed (xt_good hini) (hts _ hini)
  have hpre : (headSpec (.code y b n ret :: xt_T) rm).pre.before av.toArray T = true := atoms_intro (fun w hw => by
    rcases List.mem_cons.mp hw with rfl | hw
    · exact h2
    · exact word_at Z.warmed (xt_good hw) (hts _ hw))
  obtain ⟨methY, cY, hmY, hcY, -, hlY, -⟩ := Cond.code_spec hnT h2
  obtain ⟨kY, hkY, -⟩ := className_of_methodNamed hnT
  have hinitY : kY.init = .initialized := Cond.initialized_spec (findClass_of_methodNamed hnT) hkY h3
  have h : At T f.method c below := by rw [hg]; exact Z.here
  have happ : (headSpec (.code y b n ret :: xt_T) rm).appliesLoose y e.platform (T.calling f mk av.toArray) = true :=
    Spec.appliesLoose_calling (g := f) h hdg hnT hkY hinitY (Z.room_calling (g := f) (R' := (headSpec (.code y b n ret :: xt_T) rm).room) hsize hmY hcY hrm.1 (by rw [hlY]; have := hrm.2; show _ + _ + _ + rm.locals ≤ _; omega) hc hs) hpre
  obtain ⟨mid, hmid⟩ := h.above
  have hfr : (T.setTop f).frames = (.java f :: mid) ++ below := by rw [State.frames_setTop' f h.top, hmid]; rfl
  obtain ⟨o, s₂, hsteps, -, hend, hq⟩ := Jvm.Free.Steps.callFree (hM T.heap.size) p Z.admits Z.cas Z.clock (acts := []) hfr happ (kc_blind _ _ f mk hp) trivial
  rw [State.frames_setTop' f h.top, Z.tail] at hend
  obtain ⟨x, ce, L, rfl, q2, q3, q4, q5, q6, q7, q8⟩ := hq
  have hF := xt_kept q7 q8
  obtain ⟨T', Z', hWT, hsm, hs2⟩ := Z.outOfThrown hg (mk := mk) (a := av.toArray) hend q6 q7
  have hheap : s₂.heap = T'.heap := by rw [hs2, Stand.throwing_heap]
  have hal := Z.warmed.alike
  refine ⟨x, ce, T', L, Z', q8, by rw [← hheap]; exact q2, q3, ?_, ?_, by rw [← hheap]; exact hF.1, fun q h1 h2 => by rw [← hheap]; exact hF.2 q h1 h2, ?_⟩
  · have h9 : T.vm.findClass X = some ce.cls := q4
    rw [hal.findClass] at h9; exact h9
  · have h9 : T.vm.assignable ce.cls ce.cls = true := q5
    rw [hal.assignable] at h9; exact h9
  · rw [← hs2]; exact hsteps
theorem xc_VT (F : xf_F g p m c cc nL s args own A) (hP : va_P g.1 vwCl ws H) (hD : va_D A ws) (hS : va_S A s.heap H locs) (hM : kc_T l y b n ret rm g (.ref a :: As) wc X) (hT : GoodIn xt_T (wsV own idx C y (.code y b n ret :: xt_T))) {k : Nat} (hd : y.cls = C ∧ y.cls ≠ "java/lang/invoke/MethodHandle" ∧ y.cls ≠ "java/lang/invoke/VarHandle" ∧ (parseMethodDescriptor y.desc).map (fun d => d.parameters.length) = some k) (q0 : Nat) {ci : Nat} {fs : List Value} {q : vw_C} (hc : vwCl[ci]? = some q) (he : ws[q0]? = some (oc_o a ci fs)) (hq : q.1 = C) (isC isR : List Nat) (hpl : xf_P ws wc wr isC isR) (hrm : xf_R R rm n cells slots k1 k2) (hlen : As.length = k) (hsz : ls.size = nL) (hst : st0 = As.reverse ++ .ref a :: rest) (hW : (rest.map fun v => v.category).sum ≤ 8) (hdg : decode cc pc = .ok (.invokevirtual idx, 3))
    {pre : List (Nat × Nat × Nat × Nat)} {z : Nat × Nat × Nat × Nat} {post : List (Nat × Nat × Nat × Nat)} (htab : c.exceptionTable.toList.map (fun h => (h.startPc, h.endPc, h.handlerPc, h.catchType)) = pre ++ z :: post) (hpre : ∀ r ∈ pre, (r.1 ≤ pc ∧ pc < r.2.1) ∧ r.2.2.2 ≠ 0 ∧ ∃ nm, Cond.classLink own r.2.2.2 nm ∈ xt_T ∧ va_Nc X nm s) (hz : (z.1 ≤ pc ∧ pc < z.2.1) ∧ z.2.2.2 ≠ 0) (hzl : Cond.classLink own z.2.2.2 X ∈ xt_T)
    (kk : ∀ (x : Nat) (H1 : Heap) (locs1 : List Loc), va_P g.1 vwCl wr H1 → va_D A wr → va_S A s.heap H1 locs1 → W p l e R s m args below meth c H1 locs1 k1 k2 Q (F0 m z.2.2.1 ls [.ref x])) : W p l e R s m args below meth c H locs cells slots Q (F0 m pc ls st0) := by
  obtain ⟨⟨hx, hb, hml, hown, hts⟩, hE, hK, hA⟩ := F
  obtain ⟨hC, hR, hnC, hnR, hdis⟩ := hpl
  obtain ⟨hrm, h1, h2, h3, h4⟩ := hrm
  subst h1; subst h2; subst hst
  obtain ⟨hC0, hy⟩ := hd
  have ok : ∀ w ∈ wsV own idx C y (.code y b n ret :: xt_T), w ∈ xt_T := fun w h => (hT w h).1
  have hlink := hts _ (ok (.methodLink own idx y) (by simp [wsV]))
  have hinst := hts _ (ok (.instanceMethod y) (by simp [wsV]))
  have hsel := hts _ (ok (.selects C y y) (by simp [wsV]))
  have hini : Cond.initialized y.cls ∈ xt_T := ok (.initialized y.cls) (by rw [hC0]; simp [wsV])
  have hcode : Cond.code y b n ret ∈ xt_T := ok (.code y b n ret) (by simp [wsV])
  have hF := va_free (wc := wc) hD hS hA isC hC
  obtain ⟨-, ⟨cellB, hcB, hoB, hclB⟩, hPc⟩ := xc_preV (As := As) hE hK hP hD hS hA isC hC hnC q0 hc he hq
  intro T hT Z
  subst hT
  obtain ⟨mk, methM, hnamed, hmethM, hstM, habM⟩ := Cond.instanceMethod_spec hinst
  obtain ⟨methM', cM, hmethM', -, -, -, -, -, -, hsigM⟩ := Cond.code_spec hnamed (hts _ hcode)
  cases hmethM.symm.trans hmethM'
  obtain ⟨c2, r2, m2, u1, u2, u3, u4, kP, hkP, hkPi⟩ := Cond.selects_spec hsel
  cases hclB.symm.trans u1
  cases (State.methodFound?_of_named hnamed ⟨hy.1, hy.2.1⟩).symm.trans u2
  cases hnamed.symm.trans u3
  have hselP : selectMethod e.platform s.vm cellB.cls mk = .method mk := by rw [Launch.admits_selectMethod Z.admits]; exact u4
  have hk : As.length = methM.sig.parameters.length := by
    have h9 := hy.2.2
    rw [hsigM] at h9
    rw [hlen]; exact (Option.some.inj h9).symm
  obtain ⟨vm₁, Z₁, hstep₁⟩ := Z.invokevirtual hx hown hlink hnamed hmethM hstM hkP hkPi ⟨hy.1, hy.2.1⟩ (a := a) (cell := cellB) hcB (fun w h => by rw [h] at hoB; cases hoB) hselP hmethM habM hkP hkPi (g := F0 m pc ls (As.reverse ++ .ref a :: rest)) rfl (argsL := As) (rest := rest) hk rfl (by rw [hb]; exact hdg)
  obtain ⟨x, ce, T', L, Z', hL, q2, q3, q4, q5, q6, q7, hsteps⟩ := xt_out (g := g) (av := .ref a :: As) (wc := wc) Z₁ hts hcode hini hM (hPc _ rfl Z₁.warmed) (f := F0 m pc ls rest) rfl (hsz.trans hml.symm) (ig := .invokevirtual idx) (len := 3) (by rw [hb]; exact hdg) hnamed hrm h3 h4 (lv_room hW)
  have hpl : e.platform.magicAccessors = ({} : Platform).magicAccessors := by rw [Z.admits.platform]
  -- the table's rows
  obtain ⟨preE, restE, hsplit, hmp, hmr⟩ := List.map_eq_append_iff.mp htab
  obtain ⟨zE, postE, hsplit2, hmz, hmo⟩ := List.map_eq_cons_iff.mp hmr
  obtain ⟨cT, hcT, hcl⟩ := Cond.classLink_spec hown (hts _ hzl) e.platform hpl
  have hzE : zE.startPc = z.1 ∧ zE.endPc = z.2.1 ∧ zE.handlerPc = z.2.2.1 ∧ zE.catchType = z.2.2.2 := by rw [← hmz]; exact ⟨rfl, rfl, rfl, rfl⟩
  have hcTe : ce.cls = cT := Option.some.inj (q4.symm.trans hcT)
  have hk0 : ∃ k, s.vm.classes[ce.cls]? = some k := Vm.classAt_of_findClass q4
  obtain ⟨vm', hW', hfind⟩ := xt_find (e := e) (s := s) (f := F0 m pc ls rest) (a := x) (cell := ce) (fun k h => by rw [q3] at h; cases h) hk0 (z := zE) (rest := postE) (by simp [covers, hzE, hz]) (by rw [hzE.2.2.2]; exact hz.2) (cT := cT) (by rw [hzE.2.2.2]; exact hcl) (by rw [← hcTe]; exact q5) preE ((T'.setTop (F0 m pc ls rest)).pushFrame (.throwing x)) (by rw [Stand.throwing_vm]; exact Z'.warmed) (by rw [Stand.throwing_heap]; exact q2) (by
    intro w hw
    obtain ⟨r1, r2, nm, r3, r4⟩ := hpre _ (by rw [← hmp]; exact List.mem_map_of_mem hw)
    obtain ⟨c9, hc9, hcl9⟩ := Cond.classLink_spec hown (hts _ r3) e.platform hpl
    obtain ⟨c8, t8, g1, g2, g3⟩ := r4
    cases q4.symm.trans g1
    cases hc9.symm.trans g2
    exact ⟨by simpa [covers] using r1, r2, c9, hcl9, g3⟩)
  have Z9 : Stand p l e R s m args below meth c (T'.setVm vm') (locs ++ L) (cells + rm.cells) (slots + rm.slots) := Z'.noted hW'
  have hheap : ∀ q : Nat, q < T.heap.size → ¬ va_A wc T.heap.size q → T'.heap[q]? = T.heap[q]? := q7
  have hP9 : va_P g.1 vwCl wr T'.heap ∧ va_D A wr := by
    obtain ⟨j1, j2⟩ := va_join (wr := wr) (w1 := []) hP hD isC isR hC hR hnR hdis hheap hF (fun k q h => by cases h) ⟨fun i j p q h => (by cases h), fun k q h => (by cases h)⟩
    rw [List.append_nil] at j1 j2
    exact ⟨j1, j2⟩
  have hS9 : va_S A s.heap T'.heap (locs ++ L) := by
    refine ⟨Nat.le_trans hS.1 q6, fun q h1 h2 => ?_, fun q hq => ?_⟩
    · rw [q7 q (Nat.lt_of_lt_of_le h1 hS.1) (fun z => h2 (hF q z))]; exact hS.2.1 q h1 h2
    · rcases List.mem_append.mp hq with h | h
      · exact hS.2.2 q h
      · exact hF _ (hL q h)
  obtain ⟨t, a1, b1⟩ := kk x T'.heap (locs ++ L) hP9.1 hP9.2 hS9 (T'.setVm vm') rfl Z9
  refine ⟨t, ?_, b1⟩
  refine hstep₁ t (fun acts => ?_)
  rw [doInvoke_state]
  refine hsteps.trans (xt_step Z'.here (vm' := vm') (pc := z.2.2.1) (fun Q E d acts => ?_) a1)
  rw [W.findHandler_eq (meth := meth) (code := c) (by rw [Stand.throwing_vm]; exact Z'.method') Z'.code, hsplit, hsplit2, hfind, hzE.2.2.1]
end XTC
