-- numbers of the symbol
def xr_hh (w c : Nat) : Nat := max 3 ((w + c - 1) / c)
def xr_min (w c : Nat) : Nat := min 91 (xr_hh w c)
theorem xr_lo (w c : Nat) : 3 ≤ xr_min w c := by unfold xr_min xr_hh; omega
theorem xr_hi (w c : Nat) : xr_min w c ≤ 91 := by unfold xr_min; omega
theorem xr_le {w c i : Nat} (hc : 1 ≤ c) : (w + c - 1) / c ≤ i ↔ w ≤ i * c := by
  rw [Nat.div_le_iff_le_mul_add_pred (by omega), Nat.mul_comm]
  omega
theorem xr_up {w c r i : Nat} (hc : 1 ≤ c) (hr : r = xr_min w c) (h : i * c < w) (h2 : i ≤ 90) : i + 1 ≤ r := by
  have h3 : ¬ (w + c - 1) / c ≤ i := fun q => by have := (xr_le hc).mp q; omega
  rw [hr]; unfold xr_min xr_hh
  omega
theorem xr_end {w c r i : Nat} (hc : 1 ≤ c) (hr : r = xr_min w c) (h3 : 3 ≤ i) (hi : i ≤ r) (h : 90 < i ∨ w ≤ i * c) : nI i = nI r := by
  have h91 : r ≤ 91 := by rw [hr]; exact xr_hi w c
  rcases h with h | h
  · exact congrArg nI (by omega)
  · have h4 := (xr_le (i := i) hc).mpr h
    refine congrArg nI ?_
    rw [hr] at hi ⊢
    unfold xr_min xr_hh at hi ⊢
    omega
theorem xr_cap {w c r r9 : Nat} (hr : r = xr_hh w c) (h9 : r9 = xr_min w c) : (r ≤ 90 ∧ r9 = r) ∨ (90 < r ∧ r9 = 91) := by
  rw [h9]; unfold xr_min; rw [← hr]; omega
theorem xr_low {w c r : Nat} (hr : r = xr_hh w c) (h : r ≤ 90) : r = xr_min w c := by
  unfold xr_min; rw [← hr]; omega
theorem xr_a {K c r : Nat} (hr : r = xr_hh (1 + K) c) (h : (1 + K + c - 1) / c < 3) : 3 = r := by
  rw [hr]; unfold xr_hh; omega
theorem xr_b {K c r : Nat} (hr : r = xr_hh (1 + K) c) (h : 3 ≤ (1 + K + c - 1) / c) : (1 + K + c - 1) / c = r := by
  rw [hr]; unfold xr_hh; omega
theorem xr_shl {L K : Nat} (hL : L ≤ 8) (hK : K = 2 ^ (L + 1)) : nI 2 <<< (nI L &&& 31) = nI K := by
  subst hK
  rcases (show L = 0 ∨ L = 1 ∨ L = 2 ∨ L = 3 ∨ L = 4 ∨ L = 5 ∨ L = 6 ∨ L = 7 ∨ L = 8 by omega) with rfl | rfl | rfl | rfl | rfl | rfl | rfl | rfl | rfl <;> decide
theorem xr_K {L K : Nat} (hL : L ≤ 8) (hK : K = 2 ^ (L + 1)) : 2 ≤ K ∧ K ≤ 512 := by
  subst hK
  rcases (show L = 0 ∨ L = 1 ∨ L = 2 ∨ L = 3 ∨ L = 4 ∨ L = 5 ∨ L = 6 ∨ L = 7 ∨ L = 8 by omega) with rfl | rfl | rfl | rfl | rfl | rfl | rfl | rfl | rfl <;> decide
theorem xr_iw {r c : Nat} (hr : r ≤ 90) (h : r * c ≤ 928) : r * (c + 2) ≤ 1108 := by
  rw [Nat.mul_add]; omega
theorem xr_ix {r c i j : Nat} (hi : i < r) (hj : j ≤ c + 1) (hr : r ≤ 90) (h : r * c ≤ 928) : i * (c + 2) + j < 1108 := by
  have h1 := xr_iw hr h
  have h2 : (i + 1) * (c + 2) ≤ r * (c + 2) := Nat.mul_le_mul_right _ hi
  rw [Nat.add_mul] at h2
  omega
theorem xr_iy {r c i j : Nat} (hi : i < r) (hj1 : 1 ≤ j) (hj : j ≤ c) : i * c + j ≤ r * c := by
  have h2 : (i + 1) * c ≤ r * c := Nat.mul_le_mul_right _ hi
  rw [Nat.add_mul] at h2
  omega
theorem xr_iz {r c i : Nat} (hc : 1 ≤ c) (hi : i < r * c) (hr : r ≤ 90) (h : r * c ≤ 928) : i / c * (c + 2) + (1 + i % c) < 1108 := by
  have h1 : i / c < r := (Nat.div_lt_iff_lt_mul (by omega)).mpr hi
  have h2 : i % c < c := Nat.mod_lt _ (by omega)
  exact xr_ix h1 (by omega) hr h
theorem xr_n2 {K c r : Nat} (hc : 1 ≤ c) (hr : r = xr_hh (1 + K) c) : K + 1 ≤ r * c := by
  have h1 : (1 + K + c - 1) / c ≤ r := by rw [hr]; unfold xr_hh; omega
  have := (xr_le hc).mp h1
  omega
theorem xr_w {K c r : Nat} (hc : 1 ≤ c) (hK : K ≤ 512) (hr : r = xr_hh (1 + K) c) : r ≤ 513 := by
  have h1 : (1 + K + c - 1) / c ≤ 513 := (xr_le hc).mpr (by
    have : 513 * 1 ≤ 513 * c := Nat.mul_le_mul_left _ hc
    omega)
  rw [hr]; unfold xr_hh; omega
theorem xq_nat {x : Int32} (h : 0 ≤ x.toInt) : ∃ k : Nat, x = nI k ∧ x.toInt = (k : Int) := by
  obtain ⟨j, hj, e⟩ := nI_of (x := x) (fun h2 => by
    have := Int32.lt_iff_toInt_lt.mp h2
    have h3 : (0 : Int32).toInt = 0 := rfl
    omega)
  exact ⟨j, e, by rw [e, nI_toInt hj]⟩
-- a static that holds a reference or null
theorem xs_nar {C : String} {v : Value} (h : v = .null ∨ ∃ t, v = .ref t) : narrow (.object C) v = v := by
  rcases h with rfl | ⟨t, rfl⟩ <;> rfl
theorem xs_fit {C : String} {v : Value} (h : v = .null ∨ ∃ t, v = .ref t) : fits (.object C) v = true := by
  rcases h with rfl | ⟨t, rfl⟩ <;> rfl
section XM
variable {p : Program} {l : Launch} {e : Env} {R : Room} {s : State} {m : MethodId} {args : Array Value} {below : List Frame} {meth : Method} {c : Code} {H : Heap} {locs : List Loc} {cells slots : Nat} {Q : State → Prop}
variable {cc : ByteArray} {pc nL : Nat} {ls : Array Slot} {rest st0 : List Value} {g : xg_G} {A : Nat → Prop}
theorem xs_get (hx : p.tables.exec = Jvm.exec) (hb : c.code = cc) {C n d own ref : String} {index : Nat} (hZ : va_Zq C n d A s s.heap) (hS : va_S A s.heap H locs) (hown : s.vm.findClass own = some m.cls) (hlink : (Cond.fieldLink own index ref n d).before args s = true) (hsame : ∀ x, s.fieldFound? C n d = some x → s.fieldFound? ref n d = some x) (hdg : decode cc pc = .ok (.getstatic index, 3))
    (kk : ∀ v : Value, (v = .null ∨ ∃ t, v = .ref t) → W p l e R s m args below meth c H locs cells slots Q (F0 m (pc + 3) ls (v :: rest))) : W p l e R s m args below meth c H locs cells slots Q (F0 m pc ls rest) := by
  rcases hZ with h | ⟨t, h⟩
  · exact va_gets hx hb h hS hown hlink hsame hdg (kk _ (Or.inl rfl))
  · exact va_gets hx hb h hS hown hlink hsame hdg (kk _ (Or.inr ⟨t, rfl⟩))
theorem xo_init (hx : p.tables.exec = Jvm.exec) (hb : c.code = cc) {own : String} (hown : s.vm.findClass own = some m.cls) {idx : Nat} (hlink : (Cond.methodLink own idx Lib.objectInit).before args s = true) (hinst : (Cond.instanceMethod Lib.objectInit).before args s = true) (hcode : (Cond.code Lib.objectInit ⟨#[0xb1]⟩ 1 none).before args s = true) (hml : c.maxLocals = nL) (hsz : ls.size = nL) {a : Nat} (hf : 1 ≤ R.frames) (hlo : (rest.map fun v => v.category).sum + 12 ≤ R.locals) (hd : decode cc pc = .ok (.invokespecial idx, 3))
    (kk : W p l e R s m args below meth c H locs cells slots Q (F0 m (pc + 3) ls rest)) : W p l e R s m args below meth c H locs cells slots Q (F0 m pc ls (.ref a :: rest)) :=
  W.objInit hx hb hown hlink hinst hcode (g := F0 m pc ls (.ref a :: rest)) rfl (hsz.trans hml.symm) rfl hd hf (by show 2 * 0 + _ + 12 ≤ _; omega) kk
/-- the script's ints, by a natural index -/
theorem xa_scr (hx : p.tables.exec = Jvm.exec) (hb : c.code = cc) {b L : Nat} {xs : Nat → Int32} (hX : va_X b L xs s s.heap) (hbl : b < s.heap.size) (hbA : ¬ A b) (hS : va_S A s.heap H locs) {j : Nat} (hj : j < L) (hL : L < 2 ^ 31) (hdg : decode cc pc = .ok (.iaload, 1)) (kk : W p l e R s m args below meth c H locs cells slots Q (F0 m (pc + 1) ls (.int (xs j) :: rest))) : W p l e R s m args below meth c H locs cells slots Q (F0 m pc ls (.int (nI j) :: .ref b :: rest)) :=
  va_sld hx hb hX hbl hbA hS (vp_in_nI hj hL) hdg (by rw [nI_clamp (Nat.lt_trans hj hL)]; exact kk)
end XM
-- a method with a table of handlers
def kc_W (l : Launch) (y : MethodName) (b : ByteArray) (n : Nat) (rm : Room) (hh : List (Nat × Nat × Nat × Nat)) (g : xg_G) (av : List Value) (ws : va_W) {S : Type} (post : Int32 → S → Prop) (ws' : S → va_W) : Prop :=
  ∀ sz : Nat, Met l y (.codeWith y b n (some .int) hh :: xt_T) rm (kc_P g av ws sz) (va_Qi post (kc_B g (va_A ws sz) ws') (va_A ws sz)) rm.cells rm.slots (va_A ws sz)
theorem kc_Wof {l : Launch} {y : MethodName} {b : ByteArray} {n : Nat} {rm : Room} {hh : List (Nat × Nat × Nat × Nat)} {g : xg_G} {av : List Value} {ws : va_W} {S : Type} {post : Int32 → S → Prop} {ws' : S → va_W} (hy : plainName y.cls = true) (hal : (lg_sl av).length ≤ n)
    (body : ∀ (p : Program) (e : Env) (s : State) (m : MethodId) (args : Array Value) (below : List Frame) (meth : Method) (c : Code) (A : Nat → Prop) (ls : Array Slot) (Q : State → Prop) (H : Heap) (locs : List Loc), (∀ t, MQ below (va_Qi post (kc_B g A ws') A) args s rm.cells rm.slots A t → Q t) → xb_B g y b n (some .int) av ws p s m args meth c A ls → va_P g.1 vwCl ws H → va_S A s.heap H locs → c.exceptionTable.toList.map (fun h => (h.startPc, h.endPc, h.handlerPc, h.catchType)) = hh → W p l e rm s m args below meth c H locs 0 0 Q (F0 m 0 ls [])) : kc_W l y b n rm hh g av ws post ws' := by
  intro sz
  refine va_MetW (cc := b) (maxL := n) (ret := some .int) (hh := hh) hy rfl ?_
  intro p e s m args below meth c s₁ B hml hv
  obtain ⟨m9, meth9, c9, q1, q2, q3, -, -, q4, -⟩ := Cond.codeWith_spec (atoms_spec (ws := .codeWith y b n (some .int) hh :: xt_T) B.pre _ List.mem_cons_self)
  cases B.named.symm.trans q1
  cases B.method.symm.trans q2
  cases (Stand.of_body B).code.symm.trans q3
  obtain ⟨ls, e1, -, hP, hB⟩ := xb_get hal B hml hv
  rw [e1]
  exact body p e s m args below meth c _ ls _ _ _ (fun _ h => h) hB hP va_S.rf q4
section XW
variable {p : Program} {l : Launch} {e : Env} {R : Room} {s : State} {m : MethodId} {args : Array Value} {below : List Frame} {meth : Method} {c : Code} {H : Heap} {locs : List Loc} {cells slots : Nat} {Q : State → Prop}
variable {cc : ByteArray} {pc nL : Nat} {ls : Array Slot} {rest st0 : List Value} {g : xg_G} {A : Nat → Prop} {a : Nat} {ws wc wr : va_W} {S : Type} {ws' : S → va_W} {y : MethodName} {b : ByteArray} {n idx : Nat} {rm : Room} {own : String} {As : List Value} {k1 k2 : Nat} {hh : List (Nat × Nat × Nat × Nat)}
theorem xc_SWi {post : Int32 → S → Prop} (F : xf_F g p m c cc nL s args own A) (hP : va_P g.1 vwCl ws H) (hD : va_D A ws) (hS : va_S A s.heap H locs) (hM : kc_W l y b n rm hh g As wc post ws') (hcode : Cond.codeWith y b n (some .int) hh ∈ xt_T) (hini : Cond.initialized y.cls ∈ xt_T) (hlk : Cond.methodLink own idx y ∈ xt_T) (hst9 : Cond.static y ∈ xt_T) {k : Nat} (hd : y.cls ≠ "java/lang/invoke/MethodHandle" ∧ y.cls ≠ "java/lang/invoke/VarHandle" ∧ (parseMethodDescriptor y.desc).map (fun d => d.parameters.length) = some k) (isC isR : List Nat) (hpl : xf_P ws wc wr isC isR) (hrm : xf_R R rm n cells slots k1 k2) (hlen : As.length = k) (hsz : ls.size = nL) (hst : st0 = As.reverse ++ rest) (hW : (rest.map fun v => v.category).sum ≤ 8) (hdg : decode cc pc = .ok (.invokestatic idx, 3))
    (kk : ∀ (r : Int32) (u : S) (H1 : Heap) (locs1 : List Loc), post r u → va_P g.1 vwCl (wr ++ ws' u) H1 → va_D A (wr ++ ws' u) → va_S A s.heap H1 locs1 → W p l e R s m args below meth c H1 locs1 k1 k2 Q (F0 m (pc + 3) ls (.int r :: rest))) : W p l e R s m args below meth c H locs cells slots Q (F0 m pc ls st0) := by
  obtain ⟨⟨hx, hb, hml, hown, hts⟩, hE, hK, hA⟩ := F
  obtain ⟨hC, hR, hnC, hnR, hdis⟩ := hpl
  obtain ⟨hrm, h1, h2, h3, h4⟩ := hrm
  have hpre := xc_pre (av := As) hE hK hP hD hS hA isC hC hnC
  have hG : GoodIn xt_T (.codeWith y b n (some .int) hh :: xt_T) := fun w hw => by
    rcases List.mem_cons.mp hw with rfl | hw
    · exact ⟨hcode, xt_good hcode⟩
    · exact ⟨hw, xt_good hw⟩
  have hBk : Back l R p e below s args y 3 8 (PreOf R rm.cells rm.slots (kc_P g As wc H.size)) (PostOf (va_Qi post (kc_B g (va_A wc H.size) ws') (va_A wc H.size)) rm.cells rm.slots (va_A wc H.size)) :=
    va_backW (hh := hh) (bytes := b) (maxL := n) (ret := some .int) (hM H.size) kc_blind rfl rfl hrm.1 hrm.2 (pay_in hts hG) List.mem_cons_self (fun a' U hW => word_at hW (xt_good hini) (hts _ hini))
  refine xc_iG (rm := rm) (wc := wc) (rest := rest) (av := As.toArray) ?_ hP hD hS hA isC isR hC hR hnR hdis h1 h2 kk
  intro T hT Z
  obtain ⟨mk, methM, cM, hnamed, hmethM, hcodeM, -, -, -, -, -, hsigM⟩ := Cond.codeWith_spec (hts _ hcode)
  have hstatic : methM.isStatic = true := Cond.static_spec hnamed hmethM (hts _ hst9)
  obtain ⟨kP, hkP, -⟩ := className_of_methodNamed hnamed
  have hinitP : kP.init = .initialized := Cond.initialized_spec (findClass_of_methodNamed hnamed) hkP (hts _ hini)
  have hk : As.length = methM.sig.parameters.length := by
    have h9 := hd.2.2
    rw [hsigM] at h9
    rw [hlen]; exact (Option.some.inj h9).symm
  subst hst
  obtain ⟨vm₁, Z₁, hstep₁⟩ := Z.invokestatic hx hown (hts _ hlk) hnamed hmethM hstatic hkP hinitP ⟨hd.1, hd.2.1⟩ (g := F0 m pc ls (As.reverse ++ rest)) rfl (argsL := As) (rest := rest) hk rfl (by rw [hb]; exact hdg)
  obtain ⟨v, ⟨U', l2, c2, s2⟩, Z', ⟨g', mk', t, L, e1, e2, hq, w1, hL, w2, w3⟩, hsteps⟩ := hBk m meth c ⟨T.setVm vm₁, locs, cells, slots⟩ (F0 m pc ls rest) (.invokestatic idx) mk As.toArray Z₁ rfl (hsz.trans hml.symm) (by rw [hb]; exact hdg) (lv_room hW) (Z₁.named hnamed) ⟨by rw [h1]; exact h3, by rw [h2]; exact h4, hpre.2 (T.setVm vm₁) hT Z₁.warmed⟩
  dsimp only [Pt.U, Pt.locs, Pt.cells, Pt.slots] at Z' e1 e2 w1 w2 w3 hsteps
  subst w1; subst w2; subst w3
  exact ⟨v, (T.setVm vm₁).calling g' mk' As.toArray, t, U', L, hT, Z', hL, e1, e2, hq, fun target h => hstep₁ _ fun acts => by rw [doInvoke_state]; exact hsteps.trans h⟩
end XW
