-- what a method's start holds beside its cells: statics that nobody writes, a private link
/-- what 'laysStatic' says, of a cell that isn't in A -/
def xs_L (C n d : String) (A : Nat → Prop) (U : State) (H : Heap) : Prop := ∃ (c : ClassId) (k : Class) (i : Nat) (f : Field) (a : Nat) (cell : Cell), U.vm.findClass C = some c ∧ U.fieldFound? C n d = some (c, k, i, f) ∧ f.isStatic = true ∧ k.statics = some a ∧ H[a]? = some cell ∧ cell.vm.isStatics = true ∧ cell.cls = c ∧ f.slot < cell.slots.size ∧ k.staticTypes[f.slot]? = some f.type ∧ ¬ A a
theorem xs_L.moved {C n d : String} {A : Nat → Prop} {u U : State} {H : Heap} (hvm : u.vm.Alike U.vm) (h : xs_L C n d A u H) : xs_L C n d A U H := by
  obtain ⟨c, k, i, f, a, cell, h1, h2, h3, h4, h5, h6, h7, h8, h9, h10⟩ := h
  obtain ⟨k', hi', he⟩ := State.fieldFound?_setVm hvm h2
  exact ⟨c, k', i, f, a, cell, by rw [hvm.findClass]; exact h1, hi', h3, by rw [he]; exact h4, h5, h6, h7, h8, by rw [he]; exact h9, h10⟩
theorem xs_L.kept {C n d : String} {A : Nat → Prop} {U : State} {H H1 : Heap} (h : xs_L C n d A U H) (hq : ∀ a : Nat, a < H.size → ¬ A a → H1[a]? = H[a]?) : xs_L C n d A U H1 := by
  obtain ⟨c, k, i, f, a, cell, h1, h2, h3, h4, h5, h6, h7, h8, h9, h10⟩ := h
  exact ⟨c, k, i, f, a, cell, h1, h2, h3, h4, by rw [hq a (Array.getElem?_eq_some_iff.mp h5).1 h10]; exact h5, h6, h7, h8, h9, h10⟩
theorem xs_L.narrow {C n d : String} {A B : Nat → Prop} {U : State} {H : Heap} (h : xs_L C n d A U H) (hAB : ∀ q, B q → A q) : xs_L C n d B U H := by
  obtain ⟨c, k, i, f, a, cell, h1, h2, h3, h4, h5, h6, h7, h8, h9, h10⟩ := h
  exact ⟨c, k, i, f, a, cell, h1, h2, h3, h4, h5, h6, h7, h8, h9, fun z => h10 (hAB a z)⟩
theorem xs_L.of {C n d : String} {A : Nat → Prop} {args : Array Value} {s : State} (h : (Cond.laysStatic C n d).before args s = true) (hA : ∀ a : Nat, a < s.heap.size → ¬ A a) : xs_L C n d A s s.heap := by
  obtain ⟨c, k, i, f, a, cell, h1, h2, h3, h4, h5, h6, h7, h8, h9⟩ := Cond.laysStatic_spec h
  exact ⟨c, k, i, f, a, cell, h1, h2, h3, h4, h5, h6, h7, h8, h9, hA a (Array.getElem?_eq_some_iff.mp h5).1⟩
theorem xs_L.use {C n d : String} {A : Nat → Prop} {args : Array Value} {s : State} (h : xs_L C n d A s s.heap) : (Cond.laysStatic C n d).before args s = true := by
  obtain ⟨c, k, i, f, a, cell, h1, h2, h3, h4, h5, h6, h7, h8, h9, -⟩ := h
  simp [Cond.before, Cond.holds, Cond.value, h1, h2, h3, h4, h5, h6, h7, h8, h9]
def xs_C (C : String) (U : State) : Prop := ∃ c : ClassId, U.vm.findClass C = some c ∧ U.vm.assignable c c = true
theorem xs_C.moved {C : String} {u U : State} (hvm : u.vm.Alike U.vm) (h : xs_C C u) : xs_C C U := by
  obtain ⟨c, h1, h2⟩ := h
  exact ⟨c, by rw [hvm.findClass]; exact h1, by rw [hvm.assignable]; exact h2⟩
theorem xs_C.of {C : String} {args : Array Value} {s : State} (h : (Cond.castable C C).before args s = true) : xs_C C s := by
  obtain ⟨c, t, h1, h2, h3⟩ := Cond.castable_spec h
  cases h1.symm.trans h2
  exact ⟨c, h1, h3⟩
theorem xs_C.use {C : String} {args : Array Value} {s : State} (h : xs_C C s) : (Cond.castable C C).before args s = true := by
  obtain ⟨c, h1, h2⟩ := h
  simp [Cond.before, Cond.holds, Cond.value, h1, h2]
def xe_ds : List MethodName := [⟨"java/lang/RuntimeException", "<init>", "()V"⟩, ⟨"java/lang/Exception", "<init>", "()V"⟩, ⟨"java/lang/Throwable", "<init>", "()V"⟩]
def xe_cs : List String := ["java/lang/UnsupportedOperationException", "java/lang/IllegalArgumentException", "java/lang/IndexOutOfBoundsException", "java/lang/IllegalStateException"]
def xe_E (A : Nat → Prop) (U : State) (H : Heap) : Prop :=
  va_Zq "java/lang/Throwable" "UNASSIGNED_STACK" "[Ljava/lang/StackTraceElement;" A U H ∧ va_Zq "java/lang/Throwable" "SUPPRESSED_SENTINEL" "Ljava/util/List;" A U H ∧ va_Zq "StackedRows$Letters" "CAPITALS" "LStackedRows$Letters;" A U H ∧ va_Nw xn_neg U ∧ va_Nc "java/lang/UnsupportedOperationException" "java/lang/IllegalArgumentException" U ∧ xs_L "java/lang/Throwable" "UNASSIGNED_STACK" "[Ljava/lang/StackTraceElement;" A U H ∧ xs_L "java/lang/Throwable" "SUPPRESSED_SENTINEL" "Ljava/util/List;" A U H ∧ (∀ x ∈ xe_ds, va_Nw (.declares x) U) ∧ ∀ C ∈ xe_cs, xs_C C U
theorem xe_go {A B : Nat → Prop} {s U : State} {H : Heap} {locs : List Loc} (h : xe_E A s s.heap) (hS : va_S A s.heap H locs) (hBA : ∀ q, B q → A q) (hU : U.heap = H) (hW : s.WarmedH U.vm) : xe_E B U U.heap := by
  obtain ⟨h1, h2, h3, h4, h5, h6, h7, h8, h9⟩ := h
  rw [hU]
  exact ⟨((h1.kept hS.2.1).narrow hBA).moved hW.alike, ((h2.kept hS.2.1).narrow hBA).moved hW.alike, ((h3.kept hS.2.1).narrow hBA).moved hW.alike, va_Nw.warmM hW h4, h5.moved hW.alike, ((h6.kept hS.2.1).narrow hBA).moved hW.alike, ((h7.kept hS.2.1).narrow hBA).moved hW.alike, fun x hx => va_Nw.warmD hW (h8 x hx), fun C hC => (h9 C hC).moved hW.alike⟩
theorem xe_call {A : Nat → Prop} {U : State} {g : JFrame} {mk : MethodId} {a : Array Value} (h : xe_E A U U.heap) : xe_E A (U.calling g mk a) (U.calling g mk a).heap := by
  obtain ⟨h1, h2, h3, h4, h5, h6, h7, h8, h9⟩ := h
  exact ⟨h1.moved (u := U) (U := U.calling g mk a) (Vm.Alike.refl U.vm), h2.moved (u := U) (U := U.calling g mk a) (Vm.Alike.refl U.vm), h3.moved (u := U) (U := U.calling g mk a) (Vm.Alike.refl U.vm), va_Nw.same (U := U.calling g mk a) rfl rfl h4, h5.moved (u := U) (U := U.calling g mk a) (Vm.Alike.refl U.vm), h6.moved (u := U) (U := U.calling g mk a) (Vm.Alike.refl U.vm), h7.moved (u := U) (U := U.calling g mk a) (Vm.Alike.refl U.vm), fun x hx => va_Nw.same (U := U.calling g mk a) rfl rfl (h8 x hx), fun C hC => (h9 C hC).moved (u := U) (U := U.calling g mk a) (Vm.Alike.refl U.vm)⟩
-- contracts of one form
def kc_P (g : xg_G) (av : List Value) (ws : va_W) (sz : Nat) : Array Value → State → Prop := va_Pc av (fun U => U.heap.size = sz ∧ va_P g.1 vwCl ws U.heap ∧ va_K g.1 vwCl (xg_t g) U ∧ va_D (fun _ => True) ws ∧ xe_E (va_A ws sz) U U.heap)
def kc_B (g : xg_G) (A : Nat → Prop) {S : Type} (ws' : S → va_W) : S → State → Prop := fun u t => va_P g.1 vwCl (ws' u) t.heap ∧ va_D A (ws' u)
def kc_I (l : Launch) (y : MethodName) (b : ByteArray) (n : Nat) (rt : FieldType) (rm : Room) (g : xg_G) (av : List Value) (ws : va_W) {S : Type} (post : Int32 → S → Prop) (ws' : S → va_W) : Prop :=
  ∀ sz : Nat, Met l y (.code y b n (some rt) :: xt_T) rm (kc_P g av ws sz) (va_Qi post (kc_B g (va_A ws sz) ws') (va_A ws sz)) rm.cells rm.slots (va_A ws sz)
def kc_V (l : Launch) (y : MethodName) (b : ByteArray) (n : Nat) (rm : Room) (g : xg_G) (av : List Value) (ws : va_W) {S : Type} (post : S → Prop) (ws' : S → va_W) : Prop :=
  ∀ sz : Nat, Met l y (.code y b n none :: xt_T) rm (kc_P g av ws sz) (va_Qv post (kc_B g (va_A ws sz) ws') (va_A ws sz)) rm.cells rm.slots (va_A ws sz)
theorem kc_blind {g : xg_G} {av : List Value} {ws : va_W} {sz : Nat} : FrameBlind (kc_P g av ws sz) := by
  intro a U f mk q
  obtain ⟨q0, q1, qP, qK, qD, qE⟩ := q
  exact ⟨q0, q1, qP, va_K.moved (u := U) (U := U.calling f mk a) (Vm.Alike.refl U.vm) qK, qD, xe_call qE⟩
-- what a body may lean on
abbrev xb_B (g : xg_G) (y : MethodName) (b : ByteArray) (n : Nat) (ret : Option FieldType) (av : List Value) (ws : va_W) (p : Program) (s : State) (m : MethodId) (args : Array Value) (meth : Method) (c : Code) (A : Nat → Prop) (ls : Array Slot) : Prop :=
  p.tables.exec = Jvm.exec ∧ c.code = b ∧ meth.sig.returnType = ret ∧ meth.locks = false ∧ meth.name = y.name ∧ c.maxLocals = n ∧ s.vm.findClass y.cls = some m.cls ∧ (∀ w ∈ xt_T, w.before args s = true) ∧ (∀ q : Nat, s.heap.size ≤ q → A q) ∧ va_K g.1 vwCl (xg_t g) s ∧ va_D A ws ∧ xe_E A s s.heap ∧ lv_has ls n (lv_args 0 av)
theorem xw_mono {p : Program} {l : Launch} {e : Env} {R : Room} {s : State} {m : MethodId} {args : Array Value} {below : List Frame} {meth : Method} {c : Code} {H : Heap} {locs : List Loc} {cells slots : Nat} {Q Q' : State → Prop} {g : JFrame} (hQ : ∀ t, Q' t → Q t) (h : W p l e R s m args below meth c H locs cells slots Q' g) : W p l e R s m args below meth c H locs cells slots Q g := fun T hT X => by
  obtain ⟨t, h1, h2⟩ := h T hT X
  exact ⟨t, h1, hQ t h2⟩
theorem xb_get {l : Launch} {g : xg_G} {y : MethodName} {b : ByteArray} {n : Nat} {ret : Option FieldType} {av : List Value} {ws : va_W} {sz : Nat} {rm : Room} {w0 : Cond} (hal : (lg_sl av).length ≤ n)
    {p : Program} {e : Env} {s : State} {m : MethodId} {args : Array Value} {below : List Frame} {meth : Method} {c : Code} {s₁ : State} (B : BodyLoose p l y (headSpec (w0 :: xt_T) rm) b n ret e s m args below meth c s₁) (hml : c.maxLocals = n) (hv : kc_P g av ws sz args s) :
    ∃ ls : Array Slot, entryFrame m args n = F0 m 0 ls [] ∧ s.heap.size = sz ∧ va_P g.1 vwCl ws s.heap ∧ xb_B g y b n ret av ws p s m args meth c (va_A ws sz) ls := by
  obtain ⟨rfl, hsz, hP, hK, hD0, hE⟩ := hv
  have hts := atoms_spec (ws := w0 :: xt_T) B.pre
  exact ⟨_, lg_entry_eq m av n, hsz, hP, B.exec, B.bytes, B.returns, B.notSynchronized, (name_of_methodNamed B.named B.method).1, hml, findClass_of_methodNamed B.named, fun w h => hts w (List.mem_cons_of_mem _ h), fun q h => Or.inr (by rw [← hsz]; exact h), hK, hD0.self, hE, lv_entry av hal⟩
theorem kc_Iof {l : Launch} {y : MethodName} {b : ByteArray} {n : Nat} {rt : FieldType} {rm : Room} {g : xg_G} {av : List Value} {ws : va_W} {S : Type} {post : Int32 → S → Prop} {ws' : S → va_W} (hy : plainName y.cls = true) (hal : (lg_sl av).length ≤ n)
    (body : ∀ (p : Program) (e : Env) (s : State) (m : MethodId) (args : Array Value) (below : List Frame) (meth : Method) (c : Code) (A : Nat → Prop) (ls : Array Slot) (Q : State → Prop) (H : Heap) (locs : List Loc), (∀ t, MQ below (va_Qi post (kc_B g A ws') A) args s rm.cells rm.slots A t → Q t) → xb_B g y b n (some rt) av ws p s m args meth c A ls → va_P g.1 vwCl ws H → va_S A s.heap H locs → W p l e rm s m args below meth c H locs 0 0 Q (F0 m 0 ls [])) : kc_I l y b n rt rm g av ws post ws' := by
  intro sz
  refine Met.ofW (cc := b) (maxL := n) (ret := some rt) hy rfl ?_
  intro p e s m args below meth c s₁ B hml hv
  obtain ⟨ls, e1, -, hP, hB⟩ := xb_get hal B hml hv
  rw [e1]
  exact body p e s m args below meth c _ ls _ _ _ (fun _ h => h) hB hP va_S.rf
theorem kc_Vof {l : Launch} {y : MethodName} {b : ByteArray} {n : Nat} {rm : Room} {g : xg_G} {av : List Value} {ws : va_W} {S : Type} {post : S → Prop} {ws' : S → va_W} (hy : plainName y.cls = true) (hal : (lg_sl av).length ≤ n)
    (body : ∀ (p : Program) (e : Env) (s : State) (m : MethodId) (args : Array Value) (below : List Frame) (meth : Method) (c : Code) (A : Nat → Prop) (ls : Array Slot) (Q : State → Prop) (H : Heap) (locs : List Loc), (∀ t, MQ below (va_Qv post (kc_B g A ws') A) args s rm.cells rm.slots A t → Q t) → xb_B g y b n none av ws p s m args meth c A ls → va_P g.1 vwCl ws H → va_S A s.heap H locs → W p l e rm s m args below meth c H locs 0 0 Q (F0 m 0 ls [])) : kc_V l y b n rm g av ws post ws' := by
  intro sz
  refine Met.ofW (cc := b) (maxL := n) (ret := none) hy rfl ?_
  intro p e s m args below meth c s₁ B hml hv
  obtain ⟨ls, e1, -, hP, hB⟩ := xb_get hal B hml hv
  rw [e1]
  exact body p e s m args below meth c _ ls _ _ _ (fun _ h => h) hB hP va_S.rf
theorem xs_fm {α β : Type} {is : List α} {f : α → Option β} {l : List β} (h : is.map f = l.map some) : is.filterMap f = l := by
  induction is generalizing l with
  | nil => cases l with
    | nil => rfl
    | cons a t => simp at h
  | cons i t ih =>
    cases l with
    | nil => simp at h
    | cons a u =>
      simp only [List.map_cons, List.cons.injEq] at h
      rw [List.filterMap_cons, h.1]
      simp only [ih h.2]
section XR
variable {p : Program} {l : Launch} {e : Env} {R : Room} {s : State} {m : MethodId} {args : Array Value} {below : List Frame} {meth : Method} {c : Code} {H : Heap} {locs : List Loc} {cells slots : Nat} {Q : State → Prop}
variable {cc : ByteArray} {pc : Nat} {ls : Array Slot} {rest : List Value} {g : xg_G} {A : Nat → Prop} {a : Nat} {ws : va_W} {S : Type} {ws' : S → va_W} {mc ms : Nat}
-- ends
theorem xr_i {post : Int32 → S → Prop} {r : Int32} {rt : FieldType} (hx : p.tables.exec = Jvm.exec) (hb : c.code = cc) (hr : meth.sig.returnType = some rt) (hlocks : meth.locks = false) (hQ : ∀ t, MQ below (va_Qi post (kc_B g A ws') A) args s mc ms A t → Q t) (hP : va_P g.1 vwCl ws H) (hD : va_D A ws) (hS : va_S A s.heap H locs) (u : S) (hp : post r u) (is : List Nat) (hnd : va_nd is = true) (hs : is.map (fun i => ws[i]?) = (ws' u).map some) (hn : narrow rt (.int r) = .int r) (hc : cells ≤ mc) (hm : slots ≤ ms) (hdg : decode cc pc = .ok (.ireturn, 1)) :
    W p l e R s m args below meth c H locs cells slots Q (F0 m pc ls [.int r]) := by
  refine xw_mono hQ ?_
  refine W.widen (k := mc) (n := ms) hc hm ?_
  exact W.zret hx hb hr hn (fun t ht hW => ⟨⟨r, u, rfl, hp, by rw [ht]; exact hP.sub is (xs_fm hs), hD.sub is hnd hs⟩, hS.F ht⟩) hS.2.2 hdg hlocks
theorem xr_v {post : S → Prop} (hx : p.tables.exec = Jvm.exec) (hb : c.code = cc) (hr : meth.sig.returnType = none) (hlocks : meth.locks = false) (hQ : ∀ t, MQ below (va_Qv post (kc_B g A ws') A) args s mc ms A t → Q t) (hP : va_P g.1 vwCl ws H) (hD : va_D A ws) (hS : va_S A s.heap H locs) (u : S) (hp : post u) (is : List Nat) (hnd : va_nd is = true) (hs : is.map (fun i => ws[i]?) = (ws' u).map some) (hc : cells ≤ mc) (hm : slots ≤ ms) (hdg : decode cc pc = .ok (.return_, 1)) :
    W p l e R s m args below meth c H locs cells slots Q (F0 m pc ls []) := by
  refine xw_mono hQ ?_
  refine W.widen (k := mc) (n := ms) hc hm ?_
  exact W.vret hx hb hr (fun t ht hW => ⟨⟨u, rfl, hp, by rw [ht]; exact hP.sub is (xs_fm hs), hD.sub is hnd hs⟩, hS.F ht⟩) hS.2.2 hdg hlocks
-- the value on top by another name
theorem xi_eq {x v : Int32} (h : x = v) (k : W p l e R s m args below meth c H locs cells slots Q (F0 m pc ls (.int v :: rest))) : W p l e R s m args below meth c H locs cells slots Q (F0 m pc ls (.int x :: rest)) := by rw [h]; exact k
-- numbers that are naturals
theorem xi_iadd (hx : p.tables.exec = Jvm.exec) (hb : c.code = cc) {x y : Nat} (hdg : decode cc pc = .ok (.iadd, 1)) (k : W p l e R s m args below meth c H locs cells slots Q (F0 m (pc + 1) ls (.int (nI (x + y)) :: rest))) : W p l e R s m args below meth c H locs cells slots Q (F0 m pc ls (.int (nI y) :: .int (nI x) :: rest)) :=
  lv_iadd hx hb hdg (xi_eq (nI_add x y) k)
theorem xi_isub (hx : p.tables.exec = Jvm.exec) (hb : c.code = cc) {x y : Nat} (h : y ≤ x) (hdg : decode cc pc = .ok (.isub, 1)) (k : W p l e R s m args below meth c H locs cells slots Q (F0 m (pc + 1) ls (.int (nI (x - y)) :: rest))) : W p l e R s m args below meth c H locs cells slots Q (F0 m pc ls (.int (nI y) :: .int (nI x) :: rest)) :=
  lv_isub hx hb hdg (xi_eq (pk_sub h) k)
theorem xi_imul (hx : p.tables.exec = Jvm.exec) (hb : c.code = cc) {x y : Nat} (hdg : decode cc pc = .ok (.imul, 1)) (k : W p l e R s m args below meth c H locs cells slots Q (F0 m (pc + 1) ls (.int (nI (x * y)) :: rest))) : W p l e R s m args below meth c H locs cells slots Q (F0 m pc ls (.int (nI y) :: .int (nI x) :: rest)) :=
  lv_imul hx hb hdg (xi_eq (pk_mul x y) k)
theorem xi_idiv (hx : p.tables.exec = Jvm.exec) (hb : c.code = cc) {x y : Nat} (h : x < 2 ^ 31) (h0 : 0 < y) (hy : y < 2 ^ 31) (hdg : decode cc pc = .ok (.idiv, 1)) (k : W p l e R s m args below meth c H locs cells slots Q (F0 m (pc + 1) ls (.int (nI (x / y)) :: rest))) : W p l e R s m args below meth c H locs cells slots Q (F0 m pc ls (.int (nI y) :: .int (nI x) :: rest)) :=
  lv_idiv hx hb hdg (nI_ne0 h0 hy) (xi_eq (pk_div h h0 hy) k)
theorem xi_irem (hx : p.tables.exec = Jvm.exec) (hb : c.code = cc) {x y : Nat} (h : x < 2 ^ 31) (h0 : 0 < y) (hy : y < 2 ^ 31) (hdg : decode cc pc = .ok (.irem, 1)) (k : W p l e R s m args below meth c H locs cells slots Q (F0 m (pc + 1) ls (.int (nI (x % y)) :: rest))) : W p l e R s m args below meth c H locs cells slots Q (F0 m pc ls (.int (nI y) :: .int (nI x) :: rest)) :=
  lv_irem hx hb hdg (nI_ne0 h0 hy) (xi_eq (pk_rem h h0 hy) k)
theorem xi_remR (hx : p.tables.exec = Jvm.exec) (hb : c.code = cc) {x y : Int32} (h0 : ¬ y = 0) (hdg : decode cc pc = .ok (.irem, 1)) (k : ∀ z : Int32, W p l e R s m args below meth c H locs cells slots Q (F0 m (pc + 1) ls (.int z :: rest))) : W p l e R s m args below meth c H locs cells slots Q (F0 m pc ls (.int y :: .int x :: rest)) :=
  lv_irem hx hb hdg h0 (k _)
theorem xi_inc (x : Nat) : nI x + Int32.ofInt 1 = nI (x + 1) := nI_1 x
theorem xi_dec {x : Nat} (h : 0 < x) : nI x + Int32.ofInt (-1) = nI (x - 1) := sb_m1 h
-- branches on naturals
theorem xb_lt (hx : p.tables.exec = Jvm.exec) (hb : c.code = cc) {x y : Nat} (hx1 : x < 2 ^ 31) (hy1 : y < 2 ^ 31) {off : Int} {tgt : Nat} (hdg : decode cc pc = .ok (.if_icmp .lt off, 3)) (ht : (pc : Int) + off = (tgt : Int)) (kt : x < y → W p l e R s m args below meth c H locs cells slots Q (F0 m tgt ls rest)) (kf : y ≤ x → W p l e R s m args below meth c H locs cells slots Q (F0 m (pc + 3) ls rest)) : W p l e R s m args below meth c H locs cells slots Q (F0 m pc ls (.int (nI y) :: .int (nI x) :: rest)) :=
  lv_icmp_lt hx hb hdg ht (fun h => kt ((nI_ltI hx1 hy1).mp h)) (fun h => kf (Nat.not_lt.mp (fun h2 => h ((nI_ltI hx1 hy1).mpr h2))))
theorem xb_ge (hx : p.tables.exec = Jvm.exec) (hb : c.code = cc) {x y : Nat} (hx1 : x < 2 ^ 31) (hy1 : y < 2 ^ 31) {off : Int} {tgt : Nat} (hdg : decode cc pc = .ok (.if_icmp .ge off, 3)) (ht : (pc : Int) + off = (tgt : Int)) (kt : y ≤ x → W p l e R s m args below meth c H locs cells slots Q (F0 m tgt ls rest)) (kf : x < y → W p l e R s m args below meth c H locs cells slots Q (F0 m (pc + 3) ls rest)) : W p l e R s m args below meth c H locs cells slots Q (F0 m pc ls (.int (nI y) :: .int (nI x) :: rest)) :=
  lv_icmp_ge hx hb hdg ht (fun h => kt ((nI_leI hy1 hx1).mp h)) (fun h => kf (Nat.not_le.mp (fun h2 => h ((nI_leI hy1 hx1).mpr h2))))
theorem xb_gt (hx : p.tables.exec = Jvm.exec) (hb : c.code = cc) {x y : Nat} (hx1 : x < 2 ^ 31) (hy1 : y < 2 ^ 31) {off : Int} {tgt : Nat} (hdg : decode cc pc = .ok (.if_icmp .gt off, 3)) (ht : (pc : Int) + off = (tgt : Int)) (kt : y < x → W p l e R s m args below meth c H locs cells slots Q (F0 m tgt ls rest)) (kf : x ≤ y → W p l e R s m args below meth c H locs cells slots Q (F0 m (pc + 3) ls rest)) : W p l e R s m args below meth c H locs cells slots Q (F0 m pc ls (.int (nI y) :: .int (nI x) :: rest)) :=
  lv_icmp_gt hx hb hdg ht (fun h => kt ((nI_ltI hy1 hx1).mp h)) (fun h => kf (Nat.not_lt.mp (fun h2 => h ((nI_ltI hy1 hx1).mpr h2))))
theorem xb_le (hx : p.tables.exec = Jvm.exec) (hb : c.code = cc) {x y : Nat} (hx1 : x < 2 ^ 31) (hy1 : y < 2 ^ 31) {off : Int} {tgt : Nat} (hdg : decode cc pc = .ok (.if_icmp .le off, 3)) (ht : (pc : Int) + off = (tgt : Int)) (kt : x ≤ y → W p l e R s m args below meth c H locs cells slots Q (F0 m tgt ls rest)) (kf : y < x → W p l e R s m args below meth c H locs cells slots Q (F0 m (pc + 3) ls rest)) : W p l e R s m args below meth c H locs cells slots Q (F0 m pc ls (.int (nI y) :: .int (nI x) :: rest)) :=
  lv_icmp_le hx hb hdg ht (fun h => kt ((nI_leI hx1 hy1).mp h)) (fun h => kf (Nat.not_le.mp (fun h2 => h ((nI_leI hx1 hy1).mpr h2))))
theorem xb_eq (hx : p.tables.exec = Jvm.exec) (hb : c.code = cc) {x y : Nat} (hx1 : x < 2 ^ 31) (hy1 : y < 2 ^ 31) {off : Int} {tgt : Nat} (hdg : decode cc pc = .ok (.if_icmp .eq off, 3)) (ht : (pc : Int) + off = (tgt : Int)) (kt : x = y → W p l e R s m args below meth c H locs cells slots Q (F0 m tgt ls rest)) (kf : x ≠ y → W p l e R s m args below meth c H locs cells slots Q (F0 m (pc + 3) ls rest)) : W p l e R s m args below meth c H locs cells slots Q (F0 m pc ls (.int (nI y) :: .int (nI x) :: rest)) :=
  lv_icmp_eq hx hb hdg ht (fun h => kt ((nI_eq hx1 hy1).mp h)) (fun h => kf (fun h2 => h ((nI_eq hx1 hy1).mpr h2)))
theorem xb_ne (hx : p.tables.exec = Jvm.exec) (hb : c.code = cc) {x y : Nat} (hx1 : x < 2 ^ 31) (hy1 : y < 2 ^ 31) {off : Int} {tgt : Nat} (hdg : decode cc pc = .ok (.if_icmp .ne off, 3)) (ht : (pc : Int) + off = (tgt : Int)) (kt : x ≠ y → W p l e R s m args below meth c H locs cells slots Q (F0 m tgt ls rest)) (kf : x = y → W p l e R s m args below meth c H locs cells slots Q (F0 m (pc + 3) ls rest)) : W p l e R s m args below meth c H locs cells slots Q (F0 m pc ls (.int (nI y) :: .int (nI x) :: rest)) :=
  lv_icmp_ne hx hb hdg ht (fun h => kt (fun h2 => h (by rw [h2]))) (fun h => kf ((nI_eq hx1 hy1).mp h))
-- a branch against 0, of a natural
theorem xb_zle (hx : p.tables.exec = Jvm.exec) (hb : c.code = cc) {x : Nat} (hx1 : x < 2 ^ 31) {off : Int} {tgt : Nat} (hdg : decode cc pc = .ok (.ifCond .le off, 3)) (ht : (pc : Int) + off = (tgt : Int)) (kt : x = 0 → W p l e R s m args below meth c H locs cells slots Q (F0 m tgt ls rest)) (kf : 0 < x → W p l e R s m args below meth c H locs cells slots Q (F0 m (pc + 3) ls rest)) : W p l e R s m args below meth c H locs cells slots Q (F0 m pc ls (.int (nI x) :: rest)) := by
  rcases Nat.eq_zero_or_pos x with h | h
  · subst h
    exact lv_if_le hx hb hdg ht (fun _ => kt rfl) (fun h => absurd (by rw [nI_0]; exact Int32.le_refl 0) h)
  · exact lv_if_le hx hb hdg ht (fun h2 => absurd h2 (nI_nle h hx1)) (fun _ => kf h)
theorem xb_zge (hx : p.tables.exec = Jvm.exec) (hb : c.code = cc) {x : Nat} (hx1 : x < 2 ^ 31) {off : Int} {tgt : Nat} (hdg : decode cc pc = .ok (.ifCond .ge off, 3)) (ht : (pc : Int) + off = (tgt : Int)) (kt : W p l e R s m args below meth c H locs cells slots Q (F0 m tgt ls rest)) : W p l e R s m args below meth c H locs cells slots Q (F0 m pc ls (.int (nI x) :: rest)) :=
  lv_if_ge hx hb hdg ht (fun _ => kt) (fun h => absurd (nI_pos' hx1) h)
theorem xb_zlt (hx : p.tables.exec = Jvm.exec) (hb : c.code = cc) {x : Nat} (hx1 : x < 2 ^ 31) {off : Int} {tgt : Nat} (hdg : decode cc pc = .ok (.ifCond .lt off, 3)) (ht : (pc : Int) + off = (tgt : Int)) (kf : W p l e R s m args below meth c H locs cells slots Q (F0 m (pc + 3) ls rest)) : W p l e R s m args below meth c H locs cells slots Q (F0 m pc ls (.int (nI x) :: rest)) :=
  lv_if_lt hx hb hdg ht (fun h => absurd h (nI_pos hx1)) (fun _ => kf)
theorem xb_zne (hx : p.tables.exec = Jvm.exec) (hb : c.code = cc) {x : Nat} (hx1 : x < 2 ^ 31) {off : Int} {tgt : Nat} (hdg : decode cc pc = .ok (.ifCond .ne off, 3)) (ht : (pc : Int) + off = (tgt : Int)) (kt : 0 < x → W p l e R s m args below meth c H locs cells slots Q (F0 m tgt ls rest)) (kf : x = 0 → W p l e R s m args below meth c H locs cells slots Q (F0 m (pc + 3) ls rest)) : W p l e R s m args below meth c H locs cells slots Q (F0 m pc ls (.int (nI x) :: rest)) := by
  rcases Nat.eq_zero_or_pos x with h | h
  · subst h
    exact lv_if_ne hx hb hdg ht (fun h => absurd nI_0 h) (fun _ => kf rfl)
  · exact lv_if_ne hx hb hdg ht (fun _ => kt h) (fun h2 => absurd h2 (nI_ne0 h hx1))
theorem xb_zeq (hx : p.tables.exec = Jvm.exec) (hb : c.code = cc) {x : Nat} (hx1 : x < 2 ^ 31) {off : Int} {tgt : Nat} (hdg : decode cc pc = .ok (.ifCond .eq off, 3)) (ht : (pc : Int) + off = (tgt : Int)) (kt : x = 0 → W p l e R s m args below meth c H locs cells slots Q (F0 m tgt ls rest)) (kf : 0 < x → W p l e R s m args below meth c H locs cells slots Q (F0 m (pc + 3) ls rest)) : W p l e R s m args below meth c H locs cells slots Q (F0 m pc ls (.int (nI x) :: rest)) := by
  rcases Nat.eq_zero_or_pos x with h | h
  · subst h
    exact lv_if_eq hx hb hdg ht (fun _ => kt rfl) (fun h => absurd nI_0 h)
  · exact lv_if_eq hx hb hdg ht (fun h2 => absurd h2 (nI_ne0 h hx1)) (fun _ => kf h)
theorem xb_zgt (hx : p.tables.exec = Jvm.exec) (hb : c.code = cc) {x : Nat} (hx1 : x < 2 ^ 31) {off : Int} {tgt : Nat} (hdg : decode cc pc = .ok (.ifCond .gt off, 3)) (ht : (pc : Int) + off = (tgt : Int)) (kt : 0 < x → W p l e R s m args below meth c H locs cells slots Q (F0 m tgt ls rest)) (kf : x = 0 → W p l e R s m args below meth c H locs cells slots Q (F0 m (pc + 3) ls rest)) : W p l e R s m args below meth c H locs cells slots Q (F0 m pc ls (.int (nI x) :: rest)) := by
  rcases Nat.eq_zero_or_pos x with h | h
  · subst h
    exact lv_if_gt hx hb hdg ht (fun h => absurd h (by rw [nI_0]; decide)) (fun _ => kf rfl)
  · exact lv_if_gt hx hb hdg ht (fun _ => kt h) (fun h2 => absurd (Int32.not_le.mp (nI_nle h hx1)) h2)
-- branches of any int against a natural, or against 0: said of the integers
theorem xb_rlt (hx : p.tables.exec = Jvm.exec) (hb : c.code = cc) {x : Int32} {k : Nat} (hk : k < 2 ^ 31) {off : Int} {tgt : Nat} (hdg : decode cc pc = .ok (.if_icmp .lt off, 3)) (ht : (pc : Int) + off = (tgt : Int)) (kt : x.toInt < (k : Int) → W p l e R s m args below meth c H locs cells slots Q (F0 m tgt ls rest)) (kf : (k : Int) ≤ x.toInt → W p l e R s m args below meth c H locs cells slots Q (F0 m (pc + 3) ls rest)) : W p l e R s m args below meth c H locs cells slots Q (F0 m pc ls (.int (nI k) :: .int x :: rest)) :=
  lv_icmp_lt hx hb hdg ht (fun h => kt (by rw [← nI_toInt hk]; exact Int32.lt_iff_toInt_lt.mp h)) (fun h => kf (by rw [← nI_toInt hk]; exact Int32.le_iff_toInt_le.mp (Int32.not_lt.mp h)))
theorem xb_rle (hx : p.tables.exec = Jvm.exec) (hb : c.code = cc) {x : Int32} {k : Nat} (hk : k < 2 ^ 31) {off : Int} {tgt : Nat} (hdg : decode cc pc = .ok (.if_icmp .le off, 3)) (ht : (pc : Int) + off = (tgt : Int)) (kt : x.toInt ≤ (k : Int) → W p l e R s m args below meth c H locs cells slots Q (F0 m tgt ls rest)) (kf : (k : Int) < x.toInt → W p l e R s m args below meth c H locs cells slots Q (F0 m (pc + 3) ls rest)) : W p l e R s m args below meth c H locs cells slots Q (F0 m pc ls (.int (nI k) :: .int x :: rest)) :=
  lv_icmp_le hx hb hdg ht (fun h => kt (by rw [← nI_toInt hk]; exact Int32.le_iff_toInt_le.mp h)) (fun h => kf (by rw [← nI_toInt hk]; exact Int32.lt_iff_toInt_lt.mp (Int32.not_le.mp h)))
theorem xb_rgt (hx : p.tables.exec = Jvm.exec) (hb : c.code = cc) {x : Int32} {k : Nat} (hk : k < 2 ^ 31) {off : Int} {tgt : Nat} (hdg : decode cc pc = .ok (.if_icmp .gt off, 3)) (ht : (pc : Int) + off = (tgt : Int)) (kt : (k : Int) < x.toInt → W p l e R s m args below meth c H locs cells slots Q (F0 m tgt ls rest)) (kf : x.toInt ≤ (k : Int) → W p l e R s m args below meth c H locs cells slots Q (F0 m (pc + 3) ls rest)) : W p l e R s m args below meth c H locs cells slots Q (F0 m pc ls (.int (nI k) :: .int x :: rest)) :=
  lv_icmp_gt hx hb hdg ht (fun h => kt (by rw [← nI_toInt hk]; exact Int32.lt_iff_toInt_lt.mp h)) (fun h => kf (by rw [← nI_toInt hk]; exact Int32.le_iff_toInt_le.mp (Int32.not_lt.mp h)))
theorem xb_rge (hx : p.tables.exec = Jvm.exec) (hb : c.code = cc) {x : Int32} {k : Nat} (hk : k < 2 ^ 31) {off : Int} {tgt : Nat} (hdg : decode cc pc = .ok (.if_icmp .ge off, 3)) (ht : (pc : Int) + off = (tgt : Int)) (kt : (k : Int) ≤ x.toInt → W p l e R s m args below meth c H locs cells slots Q (F0 m tgt ls rest)) (kf : x.toInt < (k : Int) → W p l e R s m args below meth c H locs cells slots Q (F0 m (pc + 3) ls rest)) : W p l e R s m args below meth c H locs cells slots Q (F0 m pc ls (.int (nI k) :: .int x :: rest)) :=
  lv_icmp_ge hx hb hdg ht (fun h => kt (by rw [← nI_toInt hk]; exact Int32.le_iff_toInt_le.mp h)) (fun h => kf (by rw [← nI_toInt hk]; exact Int32.lt_iff_toInt_lt.mp (Int32.not_le.mp h)))
theorem xb_r0lt (hx : p.tables.exec = Jvm.exec) (hb : c.code = cc) {x : Int32} {off : Int} {tgt : Nat} (hdg : decode cc pc = .ok (.ifCond .lt off, 3)) (ht : (pc : Int) + off = (tgt : Int)) (kt : x.toInt < 0 → W p l e R s m args below meth c H locs cells slots Q (F0 m tgt ls rest)) (kf : 0 ≤ x.toInt → W p l e R s m args below meth c H locs cells slots Q (F0 m (pc + 3) ls rest)) : W p l e R s m args below meth c H locs cells slots Q (F0 m pc ls (.int x :: rest)) :=
  lv_if_lt hx hb hdg ht (fun h => kt (Int32.lt_iff_toInt_lt.mp h)) (fun h => kf (Int32.le_iff_toInt_le.mp (Int32.not_lt.mp h)))
theorem xb_r0ge (hx : p.tables.exec = Jvm.exec) (hb : c.code = cc) {x : Int32} {off : Int} {tgt : Nat} (hdg : decode cc pc = .ok (.ifCond .ge off, 3)) (ht : (pc : Int) + off = (tgt : Int)) (kt : 0 ≤ x.toInt → W p l e R s m args below meth c H locs cells slots Q (F0 m tgt ls rest)) (kf : x.toInt < 0 → W p l e R s m args below meth c H locs cells slots Q (F0 m (pc + 3) ls rest)) : W p l e R s m args below meth c H locs cells slots Q (F0 m pc ls (.int x :: rest)) :=
  lv_if_ge hx hb hdg ht (fun h => kt (Int32.le_iff_toInt_le.mp h)) (fun h => kf (Int32.lt_iff_toInt_lt.mp (Int32.not_le.mp h)))
-- arrays, by a natural index
theorem xa_ld (hx : p.tables.exec = Jvm.exec) (hb : c.code = cc) (hK : va_K g.1 vwCl (xg_t g) s) (hP : va_P g.1 vwCl ws H) (q0 : Nat) {n : Nat} {f : Nat → Int32} (ha : ws[q0]? = some (oc_i g a n f)) {j : Nat} (hj : j < n) (hn : n < 2 ^ 31) (hdg : decode cc pc = .ok (.iaload, 1)) (kk : W p l e R s m args below meth c H locs cells slots Q (F0 m (pc + 1) ls (.int (f j) :: rest))) : W p l e R s m args below meth c H locs cells slots Q (F0 m pc ls (.int (nI j) :: .ref a :: rest)) :=
  va_iald hx hb hK hP q0 0 ha rfl (vp_in_nI hj hn) hdg (by rw [nI_clamp (Nat.lt_trans hj hn)]; exact kk)
theorem xa_st (hx : p.tables.exec = Jvm.exec) (hb : c.code = cc) (hK : va_K g.1 vwCl (xg_t g) s) (hP : va_P g.1 vwCl ws H) (hD : va_D A ws) (hS : va_S A s.heap H locs) (q0 : Nat) {n : Nat} {f : Nat → Int32} (ha : ws[q0]? = some (oc_i g a n f)) {j : Nat} {x : Int32} (hj : j < n) (hn : n < 2 ^ 31) (hdg : decode cc pc = .ok (.iastore, 1)) (kk : ∀ (f1 : Nat → Int32) (H1 : Heap) (locs1 : List Loc), va_P g.1 vwCl (ws.set q0 (oc_i g a n f1)) H1 → va_D A (ws.set q0 (oc_i g a n f1)) → va_S A s.heap H1 locs1 → W p l e R s m args below meth c H1 locs1 cells slots Q (F0 m (pc + 1) ls rest)) : W p l e R s m args below meth c H locs cells slots Q (F0 m pc ls (.int x :: .int (nI j) :: .ref a :: rest)) :=
  va_iast hx hb hK hP hD hS q0 0 ha rfl (vp_in_nI hj hn) hdg (fun H1 locs1 h1 h2 h3 => kk _ H1 locs1 h1 h2 h3)
theorem xa_stL (hx : p.tables.exec = Jvm.exec) (hb : c.code = cc) (hK : va_K g.1 vwCl (xg_t g) s) (hP : va_P g.1 vwCl ws H) (hD : va_D A ws) (hS : va_S A s.heap H locs) (q0 : Nat) {n : Nat} {f : Nat → Int64} (ha : ws[q0]? = some (oc_l g a n f)) {j : Nat} {x : Int64} (hj : j < n) (hn : n < 2 ^ 31) (hdg : decode cc pc = .ok (.lastore, 1)) (kk : ∀ (f1 : Nat → Int64) (H1 : Heap) (locs1 : List Loc), f1 j = x → va_P g.1 vwCl (ws.set q0 (oc_l g a n f1)) H1 → va_D A (ws.set q0 (oc_l g a n f1)) → va_S A s.heap H1 locs1 → W p l e R s m args below meth c H1 locs1 cells slots Q (F0 m (pc + 1) ls rest)) : W p l e R s m args below meth c H locs cells slots Q (F0 m pc ls (.long x :: .int (nI j) :: .ref a :: rest)) :=
  va_last hx hb hK hP hD hS q0 1 ha rfl (vp_in_nI hj hn) hdg (fun H1 locs1 h1 h2 h3 => kk _ H1 locs1 (by rw [nI_clamp (Nat.lt_trans hj hn)]; simp [vp_updL]) h1 h2 h3)
theorem xa_ldL (hx : p.tables.exec = Jvm.exec) (hb : c.code = cc) (hK : va_K g.1 vwCl (xg_t g) s) (hP : va_P g.1 vwCl ws H) (q0 : Nat) {n : Nat} {f : Nat → Int64} (ha : ws[q0]? = some (oc_l g a n f)) {j : Nat} (hj : j < n) (hn : n < 2 ^ 31) (hdg : decode cc pc = .ok (.laload, 1)) (kk : W p l e R s m args below meth c H locs cells slots Q (F0 m (pc + 1) ls (.long (f j) :: rest))) : W p l e R s m args below meth c H locs cells slots Q (F0 m pc ls (.int (nI j) :: .ref a :: rest)) :=
  va_lald hx hb hK hP q0 1 ha rfl (vp_in_nI hj hn) hdg (by rw [nI_clamp (Nat.lt_trans hj hn)]; exact kk)
theorem xa_len (hx : p.tables.exec = Jvm.exec) (hb : c.code = cc) (hK : va_K g.1 vwCl (xg_t g) s) (hP : va_P g.1 vwCl ws H) (q0 : Nat) {n : Nat} {f : Nat → Int32} (ha : ws[q0]? = some (oc_i g a n f)) (hdg : decode cc pc = .ok (.arraylength, 1)) (kk : W p l e R s m args below meth c H locs cells slots Q (F0 m (pc + 1) ls (.int (nI n) :: rest))) : W p l e R s m args below meth c H locs cells slots Q (F0 m pc ls (.ref a :: rest)) :=
  va_alen hx hb hK hP q0 0 ha rfl rfl hdg kk
theorem xa_cls {cA : ClassId} {t0 : Nat} {ty : FieldType} {cB : ClassId} {tys : List (ClassId × FieldType)} (hK : va_K g.1 vwCl (tys ++ [(cA, ty)]) s) (hlen : tys.length = t0) (h1 : ∀ C, ty ≠ .object C) (h : va_RA s cB ty) : cA = cB := by
  have h2 := (hK.2 t0 (cA, ty) (by rw [← hlen]; simp)).2
  cases ty <;> first | exact Option.some.inj (h2.symm.trans h) | exact absurd rfl (h1 _)
theorem xa_newI (hx : p.tables.exec = Jvm.exec) (hb : c.code = cc) (harr : (Cond.arrayClass .int).before args s = true) (hK : va_K g.1 vwCl (xg_t g) s) (hP : va_P g.1 vwCl ws H) (hD : va_D A ws) (hS : va_S A s.heap H locs) (hA : ∀ q, s.heap.size ≤ q → A q) {n k1 k2 : Nat} (hn : n < 2 ^ 27) (hk1 : cells + 1 = k1) (hk2 : slots + n = k2) (hcells : k1 ≤ R.cells) (hslots : k2 ≤ R.slots) (hdg : decode cc pc = .ok (.newarray .int, 2))
    (kk : ∀ (q : Nat) (H1 : Heap), va_P g.1 vwCl (ws ++ [oc_i g q n (fun _ => 0)]) H1 → va_D A (ws ++ [oc_i g q n (fun _ => 0)]) → va_S A s.heap H1 locs → W p l e R s m args below meth c H1 locs k1 k2 Q (F0 m (pc + 2) ls (.ref q :: rest))) : W p l e R s m args below meth c H locs cells slots Q (F0 m pc ls (.int (nI n) :: rest)) := by
  subst hk1; subst hk2
  refine va_newa hx hb (atype := .int) harr (ty := .int) rfl hK hP hD hS hA (N' := n) (a0 := (n, .inl (fun _ => 0))) (fun cA => by rw [vp_cell_i]; rfl) (nI_pos (by omega)) (nI_clamp (by omega)) (by show n * 4 ≤ _; omega) hcells hslots hdg (fun q cA H1 hK1 h1 h2 h3 => ?_)
  have hc : cA = g.2.1 := xa_cls (tys := xg_t g) hK1 rfl (fun _ h => by cases h) (hK.2 0 _ rfl).2
  subst hc
  exact kk q H1 h1 h2 h3
theorem xa_newL (hx : p.tables.exec = Jvm.exec) (hb : c.code = cc) (harr : (Cond.arrayClass .long).before args s = true) (hK : va_K g.1 vwCl (xg_t g) s) (hP : va_P g.1 vwCl ws H) (hD : va_D A ws) (hS : va_S A s.heap H locs) (hA : ∀ q, s.heap.size ≤ q → A q) {n k1 k2 : Nat} (hn : n < 2 ^ 26) (hk1 : cells + 1 = k1) (hk2 : slots + n = k2) (hcells : k1 ≤ R.cells) (hslots : k2 ≤ R.slots) (hdg : decode cc pc = .ok (.newarray .long, 2))
    (kk : ∀ (q : Nat) (H1 : Heap), va_P g.1 vwCl (ws ++ [oc_l g q n (fun _ => 0)]) H1 → va_D A (ws ++ [oc_l g q n (fun _ => 0)]) → va_S A s.heap H1 locs → W p l e R s m args below meth c H1 locs k1 k2 Q (F0 m (pc + 2) ls (.ref q :: rest))) : W p l e R s m args below meth c H locs cells slots Q (F0 m pc ls (.int (nI n) :: rest)) := by
  subst hk1; subst hk2
  refine va_newa hx hb (atype := .long) harr (ty := .long) rfl hK hP hD hS hA (N' := n) (a0 := (n, .inr (.inl (fun _ => 0)))) (fun cA => by rw [vp_cell_l]; rfl) (nI_pos (by omega)) (nI_clamp (by omega)) (by show n * 8 ≤ _; omega) hcells hslots hdg (fun q cA H1 hK1 h1 h2 h3 => ?_)
  have hc : cA = g.2.2.1 := xa_cls (tys := xg_t g) hK1 rfl (fun _ h => by cases h) (hK.2 1 _ rfl).2
  subst hc
  exact kk q H1 h1 h2 h3
theorem xa_newZ (hx : p.tables.exec = Jvm.exec) (hb : c.code = cc) (harr : (Cond.arrayClass .boolean).before args s = true) (hK : va_K g.1 vwCl (xg_t g) s) (hP : va_P g.1 vwCl ws H) (hD : va_D A ws) (hS : va_S A s.heap H locs) (hA : ∀ q, s.heap.size ≤ q → A q) {n k1 k2 : Nat} (hn : n < 2 ^ 29) (hk1 : cells + 1 = k1) (hk2 : slots + n = k2) (hcells : k1 ≤ R.cells) (hslots : k2 ≤ R.slots) (hdg : decode cc pc = .ok (.newarray .boolean, 2))
    (kk : ∀ (q : Nat) (H1 : Heap), va_P g.1 vwCl (ws ++ [oc_z g q n (fun _ => 0)]) H1 → va_D A (ws ++ [oc_z g q n (fun _ => 0)]) → va_S A s.heap H1 locs → W p l e R s m args below meth c H1 locs k1 k2 Q (F0 m (pc + 2) ls (.ref q :: rest))) : W p l e R s m args below meth c H locs cells slots Q (F0 m pc ls (.int (nI n) :: rest)) := by
  subst hk1; subst hk2
  refine va_newa hx hb (atype := .boolean) harr (ty := .boolean) rfl hK hP hD hS hA (N' := n) (a0 := (n, .inl (fun _ => 0))) (fun cA => by rw [vp_cell_i]; rfl) (nI_pos (by omega)) (nI_clamp (by omega)) (by show n * 1 ≤ _; omega) hcells hslots hdg (fun q cA H1 hK1 h1 h2 h3 => ?_)
  have hc : cA = g.2.2.2 := xa_cls (tys := xg_t g) hK1 rfl (fun _ h => by cases h) (hK.2 2 _ rfl).2
  subst hc
  exact kk q H1 h1 h2 h3
-- forgetting cells of the world
theorem xw_sub {wr : va_W} {g0 : JFrame} (hP : va_P g.1 vwCl ws H) (hD : va_D A ws) (is : List Nat) (hnd : va_nd is = true) (hs : is.map (fun i => ws[i]?) = wr.map some) (kk : va_P g.1 vwCl wr H → va_D A wr → W p l e R s m args below meth c H locs cells slots Q g0) : W p l e R s m args below meth c H locs cells slots Q g0 :=
  kk (hP.sub is (xs_fm hs)) (hD.sub is hnd hs)
end XR
-- calls
section XC
variable {p : Program} {l : Launch} {e : Env} {R : Room} {s : State} {m : MethodId} {args : Array Value} {below : List Frame} {meth : Method} {c : Code} {H : Heap} {locs : List Loc} {cells slots : Nat} {Q : State → Prop}
variable {cc : ByteArray} {pc nL : Nat} {ls : Array Slot} {rest st0 : List Value} {g : xg_G} {A : Nat → Prop} {a : Nat} {ws wc wr : va_W} {S : Type} {ws' : S → va_W} {y : MethodName} {b : ByteArray} {n idx : Nat} {rt : FieldType} {rm : Room} {own C : String} {As : List Value} {k1 k2 : Nat}
theorem xc_pre (hE : xe_E A s s.heap) (hK : va_K g.1 vwCl (xg_t g) s) (hP : va_P g.1 vwCl ws H) (hD : va_D A ws) (hS : va_S A s.heap H locs) (hA : ∀ q, s.heap.size ≤ q → A q) {av : List Value} (isC : List Nat) (hC : isC.map (fun i => ws[i]?) = wc.map some) (hn : va_nd isC = true) : PreS s H (kc_P g av wc H.size) av :=
  ⟨kc_blind, fun U hU hW => ⟨rfl, by rw [hU], by rw [hU]; exact hP.sub isC (xs_fm hC), va_K.moved hW.alike hK, (hD.sub isC hn hC).weaken (fun _ _ _ _ => trivial), xe_go hE hS (va_free hD hS hA isC hC) hU hW⟩⟩
theorem xc_preV (hE : xe_E A s s.heap) (hK : va_K g.1 vwCl (xg_t g) s) (hP : va_P g.1 vwCl ws H) (hD : va_D A ws) (hS : va_S A s.heap H locs) (hA : ∀ q, s.heap.size ≤ q → A q) (isC : List Nat) (hC : isC.map (fun i => ws[i]?) = wc.map some) (hn : va_nd isC = true) (q0 : Nat) {ci : Nat} {fs : List Value} {q : vw_C} (hc : vwCl[ci]? = some q) (he : ws[q0]? = some (oc_o a ci fs)) (hq : q.1 = C) : PreV s H C a (kc_P g (.ref a :: As) wc H.size) As := by
  subst hq
  exact ⟨kc_blind, va_recv hK hP hc he, (xc_pre hE hK hP hD hS hA isC hC hn).2⟩
theorem xc_iG {post : Int32 → S → Prop} {av : Array Value} (hr : va_Run p l e R s m args below meth c H locs cells slots rm.cells rm.slots (F0 m pc ls st0) rest (va_Qi post (kc_B g (va_A wc H.size) ws') (va_A wc H.size) av) (va_A wc H.size)) (hP : va_P g.1 vwCl ws H) (hD : va_D A ws) (hS : va_S A s.heap H locs) (hA : ∀ q, s.heap.size ≤ q → A q) (isC isR : List Nat) (hC : isC.map (fun i => ws[i]?) = wc.map some) (hR : isR.map (fun i => ws[i]?) = wr.map some) (hn : va_nd isR = true) (hdis : ∀ i ∈ isR, i ∉ isC) (hk1 : cells + rm.cells = k1) (hk2 : slots + rm.slots = k2)
    (kk : ∀ (r : Int32) (u : S) (H1 : Heap) (locs1 : List Loc), post r u → va_P g.1 vwCl (wr ++ ws' u) H1 → va_D A (wr ++ ws' u) → va_S A s.heap H1 locs1 → W p l e R s m args below meth c H1 locs1 k1 k2 Q (F0 m (pc + 3) ls (.int r :: rest))) : W p l e R s m args below meth c H locs cells slots Q (F0 m pc ls st0) := by
  subst hk1; subst hk2
  have hF := va_free (wc := wc) hD hS hA isC hC
  refine va_calli hr hS (fun q _ h => hF q h) hF (fun r u t H1 locs1 ht hvm hp hB hz hk hS1 => ?_)
  obtain ⟨hP1, hD1⟩ := hB
  rw [ht] at hP1
  obtain ⟨hP2, hD2⟩ := va_join (wr := wr) (w1 := ws' u) hP hD isC isR hC hR hn hdis hk hF hP1 hD1
  exact kk r u H1 locs1 hp hP2 hD2 hS1
theorem xc_vG {post : S → Prop} {av : Array Value} (hr : va_Run p l e R s m args below meth c H locs cells slots rm.cells rm.slots (F0 m pc ls st0) rest (va_Qv post (kc_B g (va_A wc H.size) ws') (va_A wc H.size) av) (va_A wc H.size)) (hP : va_P g.1 vwCl ws H) (hD : va_D A ws) (hS : va_S A s.heap H locs) (hA : ∀ q, s.heap.size ≤ q → A q) (isC isR : List Nat) (hC : isC.map (fun i => ws[i]?) = wc.map some) (hR : isR.map (fun i => ws[i]?) = wr.map some) (hn : va_nd isR = true) (hdis : ∀ i ∈ isR, i ∉ isC) (hk1 : cells + rm.cells = k1) (hk2 : slots + rm.slots = k2)
    (kk : ∀ (u : S) (H1 : Heap) (locs1 : List Loc), post u → va_P g.1 vwCl (wr ++ ws' u) H1 → va_D A (wr ++ ws' u) → va_S A s.heap H1 locs1 → W p l e R s m args below meth c H1 locs1 k1 k2 Q (F0 m (pc + 3) ls rest)) : W p l e R s m args below meth c H locs cells slots Q (F0 m pc ls st0) := by
  subst hk1; subst hk2
  have hF := va_free (wc := wc) hD hS hA isC hC
  refine va_callv hr hS (fun q _ h => hF q h) hF (fun u t H1 locs1 ht hvm hp hB hz hk hS1 => ?_)
  obtain ⟨hP1, hD1⟩ := hB
  rw [ht] at hP1
  obtain ⟨hP2, hD2⟩ := va_join (wr := wr) (w1 := ws' u) hP hD isC isR hC hR hn hdis hk hF hP1 hD1
  exact kk u H1 locs1 hp hP2 hD2 hS1
-- what a site gives: the fixed things of the walk, and its room
abbrev xf_F (g : xg_G) (p : Program) (m : MethodId) (c : Code) (cc : ByteArray) (nL : Nat) (s : State) (args : Array Value) (own : String) (A : Nat → Prop) : Prop := CallFix p m c cc nL s args xt_T own ∧ xe_E A s s.heap ∧ va_K g.1 vwCl (xg_t g) s ∧ (∀ q, s.heap.size ≤ q → A q)
abbrev xf_R (R : Room) (rm : Room) (n cells slots k1 k2 : Nat) : Prop := (rm.frames + 1 ≤ R.frames ∧ 8 + (n + 11) + rm.locals ≤ R.locals) ∧ cells + rm.cells = k1 ∧ slots + rm.slots = k2 ∧ k1 ≤ R.cells ∧ k2 ≤ R.slots
abbrev xf_P (ws wc wr : va_W) (isC isR : List Nat) : Prop := isC.map (fun i => ws[i]?) = wc.map some ∧ isR.map (fun i => ws[i]?) = wr.map some ∧ va_nd isC = true ∧ va_nd isR = true ∧ ∀ i ∈ isR, i ∉ isC
theorem xc_Vi {post : Int32 → S → Prop} (F : xf_F g p m c cc nL s args own A) (hP : va_P g.1 vwCl ws H) (hD : va_D A ws) (hS : va_S A s.heap H locs) (hM : kc_I l y b n rt rm g (.ref a :: As) wc post ws') (hT : GoodIn xt_T (wsV own idx C y (.code y b n (some rt) :: xt_T))) {k : Nat} (hd : y.cls = C ∧ y.cls ≠ "java/lang/invoke/MethodHandle" ∧ y.cls ≠ "java/lang/invoke/VarHandle" ∧ (parseMethodDescriptor y.desc).map (fun d => d.parameters.length) = some k) (q0 : Nat) {ci : Nat} {fs : List Value} {q : vw_C} (hc : vwCl[ci]? = some q) (he : ws[q0]? = some (oc_o a ci fs)) (hq : q.1 = C) (isC isR : List Nat) (hpl : xf_P ws wc wr isC isR) (hrm : xf_R R rm n cells slots k1 k2) (hlen : As.length = k) (hsz : ls.size = nL) (hst : st0 = As.reverse ++ .ref a :: rest) (hW : (rest.map fun v => v.category).sum ≤ 8) (hdg : decode cc pc = .ok (.invokevirtual idx, 3))
    (kk : ∀ (r : Int32) (u : S) (H1 : Heap) (locs1 : List Loc), post r u → va_P g.1 vwCl (wr ++ ws' u) H1 → va_D A (wr ++ ws' u) → va_S A s.heap H1 locs1 → W p l e R s m args below meth c H1 locs1 k1 k2 Q (F0 m (pc + 3) ls (.int r :: rest))) : W p l e R s m args below meth c H locs cells slots Q (F0 m pc ls st0) := by
  obtain ⟨Fx, hE, hK, hA⟩ := F
  obtain ⟨hC, hR, hnC, hnR, hdis⟩ := hpl
  obtain ⟨hrm, h1, h2, h3, h4⟩ := hrm
  exact xc_iG (va_runV (As := As) (rest := rest) (b := a) (C := C) Fx (hM H.size) (cwV k Fx.2.2.2.2 hT rfl rfl rfl hd hrm) (xc_preV hE hK hP hD hS hA isC hC hnC q0 hc he hq) rfl hlen hsz hst (lv_room hW) hdg ⟨by rw [h1]; exact h3, by rw [h2]; exact h4⟩) hP hD hS hA isC isR hC hR hnR hdis h1 h2 kk
theorem xc_Vv {post : S → Prop} (F : xf_F g p m c cc nL s args own A) (hP : va_P g.1 vwCl ws H) (hD : va_D A ws) (hS : va_S A s.heap H locs) (hM : kc_V l y b n rm g (.ref a :: As) wc post ws') (hT : GoodIn xt_T (wsV own idx C y (.code y b n none :: xt_T))) {k : Nat} (hd : y.cls = C ∧ y.cls ≠ "java/lang/invoke/MethodHandle" ∧ y.cls ≠ "java/lang/invoke/VarHandle" ∧ (parseMethodDescriptor y.desc).map (fun d => d.parameters.length) = some k) (q0 : Nat) {ci : Nat} {fs : List Value} {q : vw_C} (hc : vwCl[ci]? = some q) (he : ws[q0]? = some (oc_o a ci fs)) (hq : q.1 = C) (isC isR : List Nat) (hpl : xf_P ws wc wr isC isR) (hrm : xf_R R rm n cells slots k1 k2) (hlen : As.length = k) (hsz : ls.size = nL) (hst : st0 = As.reverse ++ .ref a :: rest) (hW : (rest.map fun v => v.category).sum ≤ 8) (hdg : decode cc pc = .ok (.invokevirtual idx, 3))
    (kk : ∀ (u : S) (H1 : Heap) (locs1 : List Loc), post u → va_P g.1 vwCl (wr ++ ws' u) H1 → va_D A (wr ++ ws' u) → va_S A s.heap H1 locs1 → W p l e R s m args below meth c H1 locs1 k1 k2 Q (F0 m (pc + 3) ls rest)) : W p l e R s m args below meth c H locs cells slots Q (F0 m pc ls st0) := by
  obtain ⟨Fx, hE, hK, hA⟩ := F
  obtain ⟨hC, hR, hnC, hnR, hdis⟩ := hpl
  obtain ⟨hrm, h1, h2, h3, h4⟩ := hrm
  exact xc_vG (va_runV (As := As) (rest := rest) (b := a) (C := C) Fx (hM H.size) (cwV k Fx.2.2.2.2 hT rfl rfl rfl hd hrm) (xc_preV hE hK hP hD hS hA isC hC hnC q0 hc he hq) rfl hlen hsz hst (lv_room hW) hdg ⟨by rw [h1]; exact h3, by rw [h2]; exact h4⟩) hP hD hS hA isC isR hC hR hnR hdis h1 h2 kk
theorem xc_Iv {post : S → Prop} (F : xf_F g p m c cc nL s args own A) (hP : va_P g.1 vwCl ws H) (hD : va_D A ws) (hS : va_S A s.heap H locs) (hM : kc_V l y b n rm g (.ref a :: As) wc post ws') (hcode : Cond.code y b n none ∈ xt_T) (hini : Cond.initialized y.cls ∈ xt_T) (hlk : Cond.methodLink own idx y ∈ xt_T) (hin : Cond.instanceMethod y ∈ xt_T) (hy1 : y.name = "<init>") {k : Nat} (hd : y.cls ≠ "java/lang/invoke/MethodHandle" ∧ y.cls ≠ "java/lang/invoke/VarHandle" ∧ (parseMethodDescriptor y.desc).map (fun d => d.parameters.length) = some k) (isC isR : List Nat) (hpl : xf_P ws wc wr isC isR) (hrm : xf_R R rm n cells slots k1 k2) (hlen : As.length = k) (hsz : ls.size = nL) (hst : st0 = As.reverse ++ .ref a :: rest) (hW : (rest.map fun v => v.category).sum ≤ 8) (hdg : decode cc pc = .ok (.invokespecial idx, 3))
    (kk : ∀ (u : S) (H1 : Heap) (locs1 : List Loc), post u → va_P g.1 vwCl (wr ++ ws' u) H1 → va_D A (wr ++ ws' u) → va_S A s.heap H1 locs1 → W p l e R s m args below meth c H1 locs1 k1 k2 Q (F0 m (pc + 3) ls rest)) : W p l e R s m args below meth c H locs cells slots Q (F0 m pc ls st0) := by
  obtain ⟨Fx, hE, hK, hA⟩ := F
  obtain ⟨hC, hR, hnC, hnR, hdis⟩ := hpl
  obtain ⟨hrm, h1, h2, h3, h4⟩ := hrm
  have hts := Fx.2.2.2.2
  exact xc_vG (va_runI (As := As) (rest := rest) (b := a) Fx (hM H.size) (cwI k hts (xt_sub hcode) rfl rfl rfl (hts _ hini) (hts _ hlk) (hts _ hin) hy1 hd hrm) (xc_pre hE hK hP hD hS hA isC hC hnC) rfl hlen hsz hst (lv_room hW) hdg ⟨by rw [h1]; exact h3, by rw [h2]; exact h4⟩) hP hD hS hA isC isR hC hR hnR hdis h1 h2 kk
theorem xc_Si {post : Int32 → S → Prop} (F : xf_F g p m c cc nL s args own A) (hP : va_P g.1 vwCl ws H) (hD : va_D A ws) (hS : va_S A s.heap H locs) (hM : kc_I l y b n rt rm g As wc post ws') (hcode : Cond.code y b n (some rt) ∈ xt_T) (hini : Cond.initialized y.cls ∈ xt_T) (hlk : Cond.methodLink own idx y ∈ xt_T) (hst9 : Cond.static y ∈ xt_T) {k : Nat} (hd : y.cls ≠ "java/lang/invoke/MethodHandle" ∧ y.cls ≠ "java/lang/invoke/VarHandle" ∧ (parseMethodDescriptor y.desc).map (fun d => d.parameters.length) = some k) (isC isR : List Nat) (hpl : xf_P ws wc wr isC isR) (hrm : xf_R R rm n cells slots k1 k2) (hlen : As.length = k) (hsz : ls.size = nL) (hst : st0 = As.reverse ++ rest) (hW : (rest.map fun v => v.category).sum ≤ 8) (hdg : decode cc pc = .ok (.invokestatic idx, 3))
    (kk : ∀ (r : Int32) (u : S) (H1 : Heap) (locs1 : List Loc), post r u → va_P g.1 vwCl (wr ++ ws' u) H1 → va_D A (wr ++ ws' u) → va_S A s.heap H1 locs1 → W p l e R s m args below meth c H1 locs1 k1 k2 Q (F0 m (pc + 3) ls (.int r :: rest))) : W p l e R s m args below meth c H locs cells slots Q (F0 m pc ls st0) := by
  obtain ⟨Fx, hE, hK, hA⟩ := F
  obtain ⟨hC, hR, hnC, hnR, hdis⟩ := hpl
  obtain ⟨hrm, h1, h2, h3, h4⟩ := hrm
  have hts := Fx.2.2.2.2
  exact xc_iG (va_runS (As := As) (rest := rest) Fx (hM H.size) ⟨callB_of k hts (xt_sub hcode) rfl rfl rfl (hts _ hini) (hts _ hlk) hd hrm, hts _ hst9⟩ (xc_pre hE hK hP hD hS hA isC hC hnC) rfl hlen hsz hst (lv_room hW) hdg ⟨by rw [h1]; exact h3, by rw [h2]; exact h4⟩) hP hD hS hA isC isR hC hR hnR hdis h1 h2 kk
theorem xc_Sv {post : S → Prop} (F : xf_F g p m c cc nL s args own A) (hP : va_P g.1 vwCl ws H) (hD : va_D A ws) (hS : va_S A s.heap H locs) (hM : kc_V l y b n rm g As wc post ws') (hcode : Cond.code y b n none ∈ xt_T) (hini : Cond.initialized y.cls ∈ xt_T) (hlk : Cond.methodLink own idx y ∈ xt_T) (hst9 : Cond.static y ∈ xt_T) {k : Nat} (hd : y.cls ≠ "java/lang/invoke/MethodHandle" ∧ y.cls ≠ "java/lang/invoke/VarHandle" ∧ (parseMethodDescriptor y.desc).map (fun d => d.parameters.length) = some k) (isC isR : List Nat) (hpl : xf_P ws wc wr isC isR) (hrm : xf_R R rm n cells slots k1 k2) (hlen : As.length = k) (hsz : ls.size = nL) (hst : st0 = As.reverse ++ rest) (hW : (rest.map fun v => v.category).sum ≤ 8) (hdg : decode cc pc = .ok (.invokestatic idx, 3))
    (kk : ∀ (u : S) (H1 : Heap) (locs1 : List Loc), post u → va_P g.1 vwCl (wr ++ ws' u) H1 → va_D A (wr ++ ws' u) → va_S A s.heap H1 locs1 → W p l e R s m args below meth c H1 locs1 k1 k2 Q (F0 m (pc + 3) ls rest)) : W p l e R s m args below meth c H locs cells slots Q (F0 m pc ls st0) := by
  obtain ⟨Fx, hE, hK, hA⟩ := F
  obtain ⟨hC, hR, hnC, hnR, hdis⟩ := hpl
  obtain ⟨hrm, h1, h2, h3, h4⟩ := hrm
  have hts := Fx.2.2.2.2
  exact xc_vG (va_runS (As := As) (rest := rest) Fx (hM H.size) ⟨callB_of k hts (xt_sub hcode) rfl rfl rfl (hts _ hini) (hts _ hlk) hd hrm, hts _ hst9⟩ (xc_pre hE hK hP hD hS hA isC hC hnC) rfl hlen hsz hst (lv_room hW) hdg ⟨by rw [h1]; exact h3, by rw [h2]; exact h4⟩) hP hD hS hA isC isR hC hR hnR hdis h1 h2 kk
theorem xc_SNi {post : Int32 → S → Prop} {host : String} (F : xf_F g p m c cc nL s args own A) (hP : va_P g.1 vwCl ws H) (hD : va_D A ws) (hS : va_S A s.heap H locs) (hM : kc_I l y b n rt rm g As wc post ws') (hcode : Cond.code y b n (some rt) ∈ xt_T) (hini : Cond.initialized y.cls ∈ xt_T) (hlk : va_Nw (.methodLinkNest own idx y host) s) (hst9 : Cond.static y ∈ xt_T) {k : Nat} (hd : y.cls ≠ "java/lang/invoke/MethodHandle" ∧ y.cls ≠ "java/lang/invoke/VarHandle" ∧ (parseMethodDescriptor y.desc).map (fun d => d.parameters.length) = some k) (isC isR : List Nat) (hpl : xf_P ws wc wr isC isR) (hrm : xf_R R rm n cells slots k1 k2) (hlen : As.length = k) (hsz : ls.size = nL) (hst : st0 = As.reverse ++ rest) (hW : (rest.map fun v => v.category).sum ≤ 8) (hdg : decode cc pc = .ok (.invokestatic idx, 3))
    (kk : ∀ (r : Int32) (u : S) (H1 : Heap) (locs1 : List Loc), post r u → va_P g.1 vwCl (wr ++ ws' u) H1 → va_D A (wr ++ ws' u) → va_S A s.heap H1 locs1 → W p l e R s m args below meth c H1 locs1 k1 k2 Q (F0 m (pc + 3) ls (.int r :: rest))) : W p l e R s m args below meth c H locs cells slots Q (F0 m pc ls st0) := by
  obtain ⟨Fx, hE, hK, hA⟩ := F
  obtain ⟨hC, hR, hnC, hnR, hdis⟩ := hpl
  obtain ⟨hrm, h1, h2, h3, h4⟩ := hrm
  have hts := Fx.2.2.2.2
  exact xc_iG (va_runSN (As := As) (rest := rest) Fx (hM H.size) ⟨va_cnB k hts (xt_sub hcode) rfl rfl rfl hlk (hts _ hini) hd hrm, hts _ hst9, trivial⟩ (xc_pre hE hK hP hD hS hA isC hC hnC) rfl hlen hsz hst (lv_room hW) hdg ⟨by rw [h1]; exact h3, by rw [h2]; exact h4⟩) hP hD hS hA isC isR hC hR hnR hdis h1 h2 kk
end XC
