/-! ===== the layer's rows for what is thrown ===== -/
abbrev eIA : String := "java/lang/IllegalArgumentException"
abbrev eIX : String := "java/lang/IndexOutOfBoundsException"
abbrev eIS : String := "java/lang/IllegalStateException"
/-- what a throw needs of the state: the two statics of Throwable, the names' castables, the texts -/
def ek_Zt (A : Nat → Prop) (U : State) : Prop := (vx_Zq Bundle.tN "UNASSIGNED_STACK" Bundle.steD A U U.heap ∧ vx_Zq Bundle.tN "SUPPRESSED_SENTINEL" Bundle.listD A U U.heap) ∧ ((va_Nw (.castable eIA eIA) U ∧ va_Nw (.castable eIX eIX) U ∧ va_Nw (.castable eIS eIS) U) ∧ va_Nw (.declares (Bundle.initS "java/lang/RuntimeException")) U ∧ va_Nw (.declares (Bundle.initS "java/lang/Exception")) U ∧ va_Nw (.declares (Bundle.initS Bundle.tN)) U) ∧ ((∃ a, vk_R RX4 178 "there is no such one" a U) ∧ (∃ a, vk_R RX4 183 "an argument is not what it may be" a U) ∧ (∃ a, vk_R RX4 58 "there are 12 chambers" a U) ∧ ∃ a, vk_R RX4 77 "there are 18 passages" a U) ∧ True
theorem ek_Zt.at {A A' : Nat → Prop} {s U : State} {H : Heap} {locs : List Loc} (h : ek_Zt A s) (hW : s.WarmedH U.vm) (hU : U.heap = H) (hS : va_S A s.heap H locs) (hAA : ∀ q, A' q → A q) : ek_Zt A' U := by
  obtain ⟨⟨z1, z2⟩, ⟨⟨c1, c2, c3⟩, d1, d2, d3⟩, ⟨⟨a1, t1⟩, ⟨a2, t2⟩, ⟨a3, t3⟩, a4, t4⟩, -⟩ := h
  refine ⟨⟨?_, ?_⟩, ⟨⟨va_Nw.warmC hW c1, va_Nw.warmC hW c2, va_Nw.warmC hW c3⟩, va_Nw.warmD hW d1, va_Nw.warmD hW d2, va_Nw.warmD hW d3⟩, ⟨⟨a1, vk_R.warm hW t1⟩, ⟨a2, vk_R.warm hW t2⟩, ⟨a3, vk_R.warm hW t3⟩, a4, vk_R.warm hW t4⟩, trivial⟩
  · rw [hU]; exact ((z1.kept hS.2.1).moved hW.alike).narrow hAA
  · rw [hU]; exact ((z2.kept hS.2.1).moved hW.alike).narrow hAA
theorem ek_Zt.same {A : Nat → Prop} {u U : State} (hv : u.vm = U.vm) (hh : u.heap = U.heap) (h : ek_Zt A u) : ek_Zt A U := by
  have hW : u.WarmedH U.vm := by rw [← hv]; exact State.WarmedH.refl u
  exact h.at (locs := []) hW hh.symm va_S.rf (fun _ h => h)
section EKX
variable {p : Program} {l : Launch} {e : Env} {R : Room} {s : State} {m : MethodId} {args : Array Value} {below : List Frame} {meth : Method} {c : Code} {own : String} {cc : ByteArray} {nL : Nat} {ret : Option FieldType} {Ts N : List Cond} {D : va_G} {tys : List (ClassId × FieldType)} {A B : Nat → Prop} {wr : Prop} {k n : Nat} {Q : State → Prop} {w : va_W} {pc : Nat} {lv : List (Nat × Value)} {st rest : List Value}
def ek_PZ (D : va_G) (tys : List (ClassId × FieldType)) (N : List Cond) (av : List Value) (w : va_W) (sz : Nat) : Array Value → State → Prop := fun a U => ek_P D tys N av w sz a U ∧ ek_Zt (va_A w sz) U
theorem ek_PZ.blind {av : List Value} {sz : Nat} : FrameBlind (ek_PZ D tys N av w sz) := fun a U g mk q => ⟨ek_P.blind a U g mk q.1, ek_Zt.same (u := U) (U := U.calling g mk a) rfl rfl q.2⟩
/-- thrown: E is as px says, the world w is as it was -/
def ek_XC (D : va_G) (A : Nat → Prop) (px : String → Prop) (w : va_W) : String → State → State → Prop := fun E st t => px E ∧ va_P D vwCl w t.heap ∧ va_D A w ∧ va_F A st t
/-- the world w becomes W' u, with post; or it stays, and E with px is thrown -/
def ek_MX {S : Type} (l : Launch) (y : MethodName) (cw : List Cond) (rm : Room) (D : va_G) (tys : List (ClassId × FieldType)) (N : List Cond) (av : List Value) (w : va_W) (post : Option Value → S → Prop) (W' : S → va_W) (px : String → Prop) : Prop := ∀ sz : Nat, vx_Met l y cw rm (ek_PZ D tys N av w sz) (ek_Q D (va_A w sz) post W') (ek_XC D (va_A w sz) px w) rm.cells rm.slots (va_A w sz)
def ek_EX {S : Type} (D : va_G) (A : Nat → Prop) (post : Option Value → S → Prop) (W' : S → va_W) (px : String → Prop) (w : va_W) (below : List Frame) (args : Array Value) (s : State) (mc ms : Nat) : State → Prop := vx_MQ below (ek_Q D A post W') (ek_XC D A px w) args s mc ms A
theorem ek_MX.of {S : Type} {y : MethodName} {cw cw' : List Cond} {rm : Room} {av : List Value} {post : Option Value → S → Prop} {W' : S → va_W} {px : String → Prop} {maxL : Nat} (hy : plainName y.cls = true) (hw : cw = Cond.code y cc maxL ret :: cw') (hlen : (lg_sl av).length ≤ maxL)
    (body : ∀ (p : Program) (e : Env) (s : State) (m : MethodId) (args : Array Value) (below : List Frame) (meth : Method) (c : Code) (A : Nat → Prop), ek_X p s m args meth c y.cls cc maxL ret cw N D tys A A True → ek_Zt A s → (∀ x ∈ c.exceptionTable.toList, False) → ek_G p l e rm s m args below meth c maxL D A A 0 0 (ek_EX D A post W' px w below args s rm.cells rm.slots) w 0 (lv_args 0 av) []) : ek_MX l y cw rm D tys N av w post W' px := by
  intro sz
  refine vx_ofW (cc := cc) (maxL := maxL) (ret := ret) hy hw ?_
  intro p e s m args below meth c s₁ B0 hml ht hv
  obtain ⟨⟨rfl, hsz, hP, hK, hD0, hN⟩, hZ⟩ := hv
  subst hsz
  have hD : va_D (va_A w s.heap.size) w := hD0.self
  have hX : ek_X p s m av.toArray meth c y.cls cc maxL ret cw N D tys (va_A w s.heap.size) (va_A w s.heap.size) True := ⟨⟨B0.exec, B0.bytes, hml, findClass_of_methodNamed B0.named, atoms_spec (ws := cw) B0.pre⟩, hK, B0.notSynchronized, B0.returns, hN, fun _ => ⟨fun _ => Iff.rfl, fun q h => Or.inr h⟩⟩
  have hb := body p e s m av.toArray below meth c (va_A w s.heap.size) hX hZ ht
  rw [lg_entry_eq]
  exact hb s.heap [] _ hP hD va_S.rf (lv_entry av hlen)
/-- an end that returns, in a method that may throw -/
theorem ek_ret {S : Type} {post : Option Value → S → Prop} {W' : S → va_W} {px : String → Prop} {w0 : va_W} {mc ms : Nat} (h : ek_G p l e R s m args below meth c nL D A B k n (ek_E D A post W' below args s mc ms) w pc lv st) : ek_G p l e R s m args below meth c nL D A B k n (ek_EX D A post W' px w0 below args s mc ms) w pc lv st := fun H locs ls hP hD hS hl => vx_ret (h H locs ls hP hD hS hl)
/-- 'throw new E("text")' -/
theorem ek_throwS {S : Type} {post : Option Value → S → Prop} {W' : S → va_W} {px : String → Prop} {mc ms : Nat} {cls text : String} {names : List String} {ik is ic : Nat} (X : ek_X p s m args meth c own cc nL ret Ts N D tys A A True) (hl : l.stackTraces = false) (hZ : ek_Zt A s) (ht : ∀ x ∈ c.exceptionTable.toList, False) (hcls : Bundle.fit cls = true) (hnames : ∀ n ∈ names, Bundle.fit n = true) (hk : Cond.classLink own ik cls ∈ Ts) (hini : Cond.initialized cls ∈ Ts) (hstr : ∃ sa, vk_R own is text sa s) (hat : ∀ w ∈ vx_atS own ic cls names, w.before args s = true) (hgood : ∀ w ∈ Cond.classLink own ik cls :: Cond.initialized cls :: vx_atS own ic cls names, vx_ot w = true)
    (d0 : decode cc pc = .ok (.new ik, 3)) (d3 : decode cc (pc + 3) = .ok (.dup, 1)) (d4 : decode cc (pc + 4) = .ok (.ldc is, 2)) (d6 : decode cc (pc + 6) = .ok (.invokespecial ic, 3)) (d9 : decode cc (pc + 9) = .ok (.athrow, 1))
    (hR1 : names.length + 3 < R.frames) (hR2 : 13 * (names.length + 1) + 43 ≤ R.locals) (hR3 : k + 1 ≤ R.cells ∧ n + 6 ≤ R.slots) (hE : px cls) (hc : k + 1 ≤ mc ∧ n + 6 ≤ ms) : ek_G p l e R s m args below meth c nL D A A k n (ek_EX D A post W' px w below args s mc ms) w pc lv [] := by
  intro H locs ls hP hD hS hlv
  obtain ⟨sa, hstr⟩ := hstr
  refine vx_throwS (sa := sa) X.1.1 X.1.2.1 hl X.1.2.2.2.1 hcls hnames (X.1.2.2.2.2 _ hk) (X.1.2.2.2.2 _ hini) hstr hat hgood hZ.1.1 hZ.1.2 hS (by rw [X.1.2.2.1]; exact hlv.1) d0 d3 d4 d6 d9 (fun x hx => (ht x hx).elim) hR1 (by simpa using hR2) hR3.1 hR3.2 X.2.2.1 (fun t hA hz hq => ?_) hS.2.2 hc.1 hc.2
  exact ⟨hE, hP.kept (fun i q hi => hq q.1 ((hP i q hi).lt)), hD, Nat.le_trans hS.1 hz, fun q h1 h2 => (hq q (Nat.lt_of_lt_of_le h1 hS.1)).trans (hS.2.1 q h1 h2)⟩
/-- the goal where E has been thrown over this frame -/
def ek_GX (p : Program) (l : Launch) (e : Env) (R : Room) (s : State) (m : MethodId) (args : Array Value) (below : List Frame) (meth : Method) (c : Code) (nL : Nat) (D : va_G) (A B : Nat → Prop) (k n : Nat) (Q : State → Prop) (w : va_W) (pc : Nat) (lv : List (Nat × Value)) (st : List Value) (E : String) : Prop :=
  ∀ (H : Heap) (locs : List Loc) (ls : Array Slot) (q : Addr) (ce : Cell), va_P D vwCl w H → va_D B w → va_S A s.heap H locs → lv_has ls nL lv → H[q]? = some ce → ce.vm = .none → s.vm.findClass E = some ce.cls → vx_W p l e R s m args below meth c H locs k n Q (F0 m pc ls st) q
/-- not caught here -/
theorem ek_xout {S : Type} {post : Option Value → S → Prop} {W' : S → va_W} {px : String → Prop} {mc ms : Nat} {E : String} (X : ek_X p s m args meth c own cc nL ret Ts N D tys A A True) (ht : ∀ x ∈ c.exceptionTable.toList, False) (hE : px E) (hc : k ≤ mc ∧ n ≤ ms) : ek_GX p l e R s m args below meth c nL D A A k n (ek_EX D A post W' px w below args s mc ms) w pc lv st E := by
  intro H locs ls q ce hP hD hS hlv hcell hv hcl
  exact vx_out (fun x hx => (ht x hx).elim) X.2.2.1 hcell hv hcl (fun t hT _ => ⟨hE, by rw [hT]; exact hP, hD, hS.F hT⟩) hS.2.2 hc.1 hc.2
/-- caught here, by the row x of the table -/
theorem ek_catch {E : String} {w' : va_W} (X : ek_X p s m args meth c own cc nL ret Ts N D tys A B wr) (pre : List ExceptionTableEntry) (x : ExceptionTableEntry) (suf : List ExceptionTableEntry) (hsplit : c.exceptionTable.toList = pre ++ x :: suf)
    (hpass : ∀ z ∈ pre, covers z pc = false ∨ (z.catchType ≠ 0 ∧ ∃ nm : String, Cond.classLink own z.catchType nm ∈ Ts ∧ va_Nc E nm s)) (hx : covers x pc = true) (h0 : x.catchType ≠ 0) (hlink : Cond.classLink own x.catchType E ∈ Ts) (hcast : va_Nw (.castable E E) s)
    (kk : ∀ q : Nat, ek_G p l e R s m args below meth c nL D A B k n Q w x.handlerPc lv [.ref q]) : ek_GX p l e R s m args below meth c nL D A B k n Q w pc lv st E := by
  intro H locs ls q ce hP hD hS hlv hcell hv hcl
  exact vx_catch X.1.2.2.2.1 pre x suf hsplit (fun z hz => (hpass z hz).imp id (fun ⟨a, nm, b1, b2⟩ => ⟨a, nm, X.1.2.2.2.2 _ b1, b2⟩)) hx h0 (X.1.2.2.2.2 _ hlink) (va_Nw.use (by rfl) hcast) hcell hv hcl (kk q H locs ls hP hD hS hlv)
def ek_RunX (p : Program) (l : Launch) (e : Env) (R : Room) (s : State) (m : MethodId) (args : Array Value) (below : List Frame) (meth : Method) (c : Code) (nL : Nat) (D : va_G) (A B : Nat → Prop) (k n : Nat) (w : va_W) (pc : Nat) (lv : List (Nat × Value)) (st rest : List Value) (mc ms : Nat) (Qa : Nat → State → Outcome → State → Prop) (XC : Nat → String → State → State → Prop) (free : Nat → Nat → Prop) : Prop :=
  ∀ (H : Heap) (locs : List Loc) (ls : Array Slot), va_P D vwCl w H → va_D B w → va_S A s.heap H locs → lv_has ls nL lv → vx_Run p l e R s m args below meth c H locs k n mc ms (F0 m pc ls st) rest (Qa H.size) (XC H.size) (free H.size)
section EKRX
variable {y : MethodName} {bytes : ByteArray} {maxL ix : Nat} {rt : Option FieldType} {cw cw' : List Cond} {rm : Room} {av As : List Value} {wc : va_W} {Qc : Nat → Array Value → State → Outcome → State → Prop} {XC : Nat → String → State → State → Prop} {free : Nat → Nat → Prop} {b : Nat}
theorem ek_satX (X : ek_X p s m args meth c own cc nL ret Ts N D tys A B True) (hZ : ek_Zt A s) {H : Heap} {locs : List Loc} (hP : va_P D vwCl w H) (hD : va_D B w) (hS : va_S A s.heap H locs) (isC : List Nat) (hC : isC.map (fun i => w[i]?) = wc.map some) (hn : va_nd isC = true) : va_P D vwCl wc H ∧ ∀ U : State, U.heap = H → s.WarmedH U.vm → ek_PZ D tys N av wc H.size av.toArray U := by
  obtain ⟨h1, -, h3⟩ := ek_sat (av := av) X hP hD isC hC hn
  have hDA : va_D A w := hD.weaken (fun _ x _ h => ((X.2.2.2.2.2 trivial).1 x.1).mp h)
  exact ⟨h1, fun U hU hW => ⟨h3 U hU hW, hZ.at hW hU hS (va_free (wc := wc) hDA hS (X.2.2.2.2.2 trivial).2 isC hC)⟩⟩
theorem ek_runSX (X : ek_X p s m args meth c own cc nL ret Ts N D tys A B True) (hZ : ek_Zt A s) (M : ∀ sz : Nat, vx_Met l y cw rm (ek_PZ D tys N As wc sz) (Qc sz) (XC sz) rm.cells rm.slots (free sz)) (hG : GoodIn Ts (va_wsS own ix y cw)) (hw : cw = Cond.code y bytes maxL rt :: cw') (hd : y.cls ≠ "java/lang/invoke/MethodHandle" ∧ y.cls ≠ "java/lang/invoke/VarHandle" ∧ (parseMethodDescriptor y.desc).map (fun d => d.parameters.length) = some As.length) (hR : rm.frames + 1 ≤ R.frames ∧ 8 + (maxL + 11) + rm.locals ≤ R.locals) (hk : k + rm.cells ≤ R.cells ∧ n + rm.slots ≤ R.slots) (isC : List Nat) (hC : isC.map (fun i => w[i]?) = wc.map some) (hn : va_nd isC = true) (hst : (rest.map fun v => v.category).sum ≤ 8) (hdg : decode cc pc = .ok (.invokestatic ix, 3)) : ek_RunX p l e R s m args below meth c nL D A B k n w pc lv (As.reverse ++ rest) rest rm.cells rm.slots (fun sz => Qc sz As.toArray) XC free := by
  intro H locs ls hP hD hS hl
  obtain ⟨hPc, hs⟩ := ek_satX (av := As) X hZ hP hD hS isC hC hn
  exact vx_runS X.1 (M H.size) (va_cwS As.length X.1.2.2.2.2 hG hw rfl rfl hd hR) ⟨ek_PZ.blind, hs⟩ rfl rfl hl.1 rfl (lv_room hst) hdg hk
theorem ek_runVX {C : String} {T : u_T} {M0 : Nat} {fs : List Value} (X : ek_X p s m args meth c own cc nL ret Ts N D tys A B True) (hZ : ek_Zt A s) (M : ∀ sz : Nat, vx_Met l y cw rm (ek_PZ D tys N (.ref b :: As) wc sz) (Qc sz) (XC sz) rm.cells rm.slots (free sz)) (hG : GoodIn Ts (wsV own ix C y cw)) (hw : cw = Cond.code y bytes maxL rt :: cw') (hd : y.cls = C ∧ y.cls ≠ "java/lang/invoke/MethodHandle" ∧ y.cls ≠ "java/lang/invoke/VarHandle" ∧ (parseMethodDescriptor y.desc).map (fun d => d.parameters.length) = some As.length) (hR : rm.frames + 1 ≤ R.frames ∧ 8 + (maxL + 11) + rm.locals ≤ R.locals) (hk : k + rm.cells ≤ R.cells ∧ n + rm.slots ≤ R.slots) (isC : List Nat) (hC : isC.map (fun i => w[i]?) = wc.map some) (hn : va_nd isC = true) (q0 ci : Nat) (he : wc[q0]? = some (b, .inr (ci, fs))) (hc : vwCl[ci]? = some (C, T, M0)) (hst : (rest.map fun v => v.category).sum ≤ 8) (hdg : decode cc pc = .ok (.invokevirtual ix, 3)) : ek_RunX p l e R s m args below meth c nL D A B k n w pc lv (As.reverse ++ .ref b :: rest) rest rm.cells rm.slots (fun sz => Qc sz (Value.ref b :: As).toArray) XC free := by
  intro H locs ls hP hD hS hl
  obtain ⟨hPc, hs⟩ := ek_satX (av := .ref b :: As) X hZ hP hD hS isC hC hn
  exact vx_runV X.1 (M H.size) (cwV As.length X.1.2.2.2.2 hG hw rfl rfl hd hR) ⟨ek_PZ.blind, va_recv (q := (C, T, M0)) X.2.1 hPc hc he, hs⟩ rfl rfl hl.1 rfl (lv_room hst) hdg hk
end EKRX
/-- behind a call that may throw -/
theorem ek_doX {S : Type} {post : Option Value → S → Prop} {W' : S → va_W} {px : String → Prop} {wc wr0 : va_W} {mc ms : Nat} {a : Array Value} {st0 : List Value} (X : ek_X p s m args meth c own cc nL ret Ts N D tys A B True) (hr : ek_RunX p l e R s m args below meth c nL D A B k n w pc lv st0 rest mc ms (fun sz => ek_Q D (va_A wc sz) post W' a) (fun sz => ek_XC D (va_A wc sz) px wc) (fun sz => va_A wc sz))
    (isC isR : List Nat) (hC : isC.map (fun i => w[i]?) = wc.map some) (hR : isR.map (fun i => w[i]?) = wr0.map some) (hn : va_nd isR = true) (hdis : ∀ i ∈ isR, i ∉ isC) (w2 : S → va_W) (is2 : List Nat) (hn2 : va_nd is2 = true) (h2 : ∀ u : S, is2.map (fun i => (wr0 ++ W' u)[i]?) = (w2 u).map some) (h3 : is2.map (fun i => (wr0 ++ wc)[i]?) = w.map some)
    (kx : ∀ E : String, px E → ek_GX p l e R s m args below meth c nL D A B (k + mc) (n + ms) Q w pc lv rest E)
    (kk : ∀ (r : Option Value) (u : S), post r u → ek_G p l e R s m args below meth c nL D A B (k + mc) (n + ms) Q (w2 u) (pc + 3) lv (r.toList ++ rest)) : ek_G p l e R s m args below meth c nL D A B k n Q w pc lv st0 := by
  intro H locs ls hP hD hS hl T hT Xs
  have hBA := (X.2.2.2.2.2 trivial).1
  have hDA : va_D A w := hD.weaken (fun _ x _ h => (hBA x.1).mp h)
  have hF := va_free (wc := wc) hDA hS (X.2.2.2.2.2 trivial).2 isC hC
  have hL : ∀ L : List Loc, (∀ q ∈ L, va_A wc H.size q.base) → ∀ q ∈ locs ++ L, A q.base := fun L hL q hq => by
    rcases List.mem_append.mp hq with h | h
    · exact hS.2.2 q h
    · exact hF _ (hL q h)
  have flt : ∀ w1 w3 : va_W, is2.map (fun i => w1[i]?) = w3.map some → is2.filterMap (fun i => w1[i]?) = w3 := fun w1 w3 h => by
    have h1 : (is2.map (fun i => w1[i]?)).filterMap id = w3 := by rw [h, List.filterMap_map]; simp
    rw [List.filterMap_map] at h1
    exact h1
  rcases hr H locs ls hP hD hS hl T hT Xs with ⟨v, st₀, t, T', L, h0, X', hLL, e1, e2, ⟨⟨r, u, hv, hp, hP1, hD1⟩, hz, hk⟩, st⟩ | ⟨q9, st₀, t, T', L, E, ce, h0, X', hLL, e1, e2, ⟨hp, hP1, hD1, hz, hk⟩, hce, hcv, hcl, st⟩
  · cases hv
    rw [h0] at hz hk
    rw [← e1] at hz hP1
    have hk1 : ∀ q : Nat, q < H.size → ¬ va_A wc H.size q → T'.heap[q]? = H[q]? := fun q h1 h2 => by rw [e1]; exact hk q h1 h2
    obtain ⟨hPj, hDj⟩ := va_join hP hDA isC isR hC hR hn hdis hk1 hF hP1 hD1
    obtain ⟨t2, a1, b1⟩ := kk v u hp T'.heap (locs ++ L) ls (hPj.sub is2 (flt _ _ (h2 u))) ((hDj.sub is2 hn2 (h2 u)).weaken (fun _ x _ h => (hBA x.1).mpr h)) ⟨Nat.le_trans hS.1 hz, fun q h1 h2 => (hk1 q (Nat.lt_of_lt_of_le h1 hS.1) (fun z => h2 (hF q z))).trans (hS.2.1 q h1 h2), hL L hLL⟩ hl T' rfl X'
    exact ⟨t2, st t2 a1, b1⟩
  · rw [h0] at hz hk
    rw [← e1] at hz hP1 hce
    have hk1 : ∀ q : Nat, q < H.size → ¬ va_A wc H.size q → T'.heap[q]? = H[q]? := fun q h1 h2 => by rw [e1]; exact hk q h1 h2
    obtain ⟨hPj, hDj⟩ := va_join hP hDA isC isR hC hR hn hdis hk1 hF hP1 hD1
    obtain ⟨t2, a1, b1⟩ := kx E hp T'.heap (locs ++ L) ls q9 ce (hPj.sub is2 (flt _ _ h3)) ((hDj.sub is2 hn2 h3).weaken (fun _ x _ h => (hBA x.1).mpr h)) ⟨Nat.le_trans hS.1 hz, fun q h1 h2 => (hk1 q (Nat.lt_of_lt_of_le h1 hS.1) (fun z => h2 (hF q z))).trans (hS.2.1 q h1 h2), hL L hLL⟩ hl hce hcv hcl T' rfl X'
    exact ⟨t2, st.trans a1, b1⟩
/-- .. a method without an answer, that changes nothing -/
theorem ek_doXv {post : Unit → Prop} {px : String → Prop} {mc ms : Nat} {a : Array Value} {st0 : List Value} (X : ek_X p s m args meth c own cc nL ret Ts N D tys A B True) (hr : ek_RunX p l e R s m args below meth c nL D A B k n w pc lv st0 rest mc ms (fun sz => ek_Q D (va_A [] sz) (fun r u => r = none ∧ post u) (fun _ => []) a) (fun sz => ek_XC D (va_A [] sz) px []) (fun sz => va_A [] sz)) (is : List Nat) (hR : is.map (fun i => w[i]?) = w.map some) (hn : va_nd is = true)
    (kx : ∀ E : String, px E → ek_GX p l e R s m args below meth c nL D A B (k + mc) (n + ms) Q w pc lv rest E)
    (kk : post () → ek_G p l e R s m args below meth c nL D A B (k + mc) (n + ms) Q w (pc + 3) lv rest) : ek_G p l e R s m args below meth c nL D A B k n Q w pc lv st0 := by
  have e : w ++ ([] : va_W) = w := List.append_nil w
  exact ek_doX X hr [] is rfl hR hn (fun _ _ h => absurd h List.not_mem_nil) (fun _ => w) is hn (fun _ => by rw [e]; exact hR) (by rw [e]; exact hR) kx (fun r u h => by obtain ⟨rfl, hp⟩ := h; exact kk hp)
/-- .. an int -/
theorem ek_doXi {post : Int32 → Unit → Prop} {W' : Unit → va_W} {px : String → Prop} {wc : va_W} {mc ms : Nat} {a : Array Value} {st0 : List Value} (X : ek_X p s m args meth c own cc nL ret Ts N D tys A B True) (hr : ek_RunX p l e R s m args below meth c nL D A B k n w pc lv st0 rest mc ms (fun sz => ek_Q D (va_A wc sz) (fun r u => ∃ v : Int32, r = some (.int v) ∧ post v u) W' a) (fun sz => ek_XC D (va_A wc sz) px wc) (fun sz => va_A wc sz))
    (isC isR : List Nat) (hC : isC.map (fun i => w[i]?) = wc.map some) (hR : isR.all (fun i => decide (i < w.length)) = true) (hn : va_nd isR = true) (hdis : ∀ i ∈ isR, i ∉ isC) (w2 : Unit → va_W) (is2 : List Nat) (hn2 : va_nd is2 = true) (h2 : ∀ u : Unit, is2.map (fun i => (ek_at w isR ++ W' u)[i]?) = (w2 u).map some) (h3 : is2.map (fun i => (ek_at w isR ++ wc)[i]?) = w.map some)
    (kx : ∀ E : String, px E → ek_GX p l e R s m args below meth c nL D A B (k + mc) (n + ms) Q w pc lv rest E)
    (kk : ∀ (v : Int32) (u : Unit), post v u → ek_G p l e R s m args below meth c nL D A B (k + mc) (n + ms) Q (w2 u) (pc + 3) lv (.int v :: rest)) : ek_G p l e R s m args below meth c nL D A B k n Q w pc lv st0 := ek_doX X hr isC isR hC (ek_at_map hR) hn hdis w2 is2 hn2 h2 h3 kx (fun r u h => by obtain ⟨v, rfl, hp⟩ := h; exact kk v u hp)
-- doubles
theorem ek_i2d {x : Int32} (X : ek_X p s m args meth c own cc nL ret Ts N D tys A B wr) (hdg : decode cc pc = .ok (.i2d, 1)) (kk : ek_G p l e R s m args below meth c nL D A B k n Q w (pc + 1) lv (.double (FP.i2d x) :: st)) : ek_G p l e R s m args below meth c nL D A B k n Q w pc lv (.int x :: st) := fun H locs ls hP hD hS hl => lv_i2d X.1.1 X.1.2.1 hdg (kk H locs ls hP hD hS hl)
theorem ek_ddiv {x y : UInt64} (X : ek_X p s m args meth c own cc nL ret Ts N D tys A B wr) (hne : vf_n64 (FP.ddiv x y)) (hdg : decode cc pc = .ok (.ddiv, 1)) (kk : ek_G p l e R s m args below meth c nL D A B k n Q w (pc + 1) lv (.double (FP.ddiv x y) :: st)) : ek_G p l e R s m args below meth c nL D A B k n Q w pc lv (.double y :: .double x :: st) := fun H locs ls hP hD hS hl => lv_ddiv X.1.1 X.1.2.1 hdg hne (kk H locs ls hP hD hS hl)
theorem ek_dc0 (X : ek_X p s m args meth c own cc nL ret Ts N D tys A B wr) (hdg : decode cc pc = .ok (.dconst 0, 1)) (kk : ek_G p l e R s m args below meth c nL D A B k n Q w (pc + 1) lv (.double FP.dconst0 :: st)) : ek_G p l e R s m args below meth c nL D A B k n Q w pc lv st := fun H locs ls hP hD hS hl => lv_dconst0 X.1.1 X.1.2.1 hdg (kk H locs ls hP hD hS hl)
theorem ek_retd {S : Type} {post : Option Value → S → Prop} {W' : S → va_W} {v : UInt64} (X : ek_X p s m args meth c own cc nL (some .double) Ts N D tys A A True) (u : S) (hp : post (some (.double v)) u) (hw : w = W' u) (hdg : decode cc pc = .ok (.dreturn, 1)) : ek_G p l e R s m args below meth c nL D A A k n (ek_E D A post W' below args s k n) w pc lv [.double v] := fun H locs ls hP hD hS hl => W.dret (v := v) X.1.1 X.1.2.1 X.2.2.2.1 (fun t ht hW => ⟨⟨_, u, rfl, hp, by rw [ht, ← hw]; exact hP, by rw [← hw]; exact hD⟩, hS.F ht⟩) hS.2.2 hdg X.2.2.1
theorem ek_retdR {post : Option Value → Prop} {v : UInt64} (X : ek_X p s m args meth c own cc nL (some .double) Ts N D tys (fun _ => False) B wr) (hp : post (some (.double v))) (hdg : decode cc pc = .ok (.dreturn, 1)) : ek_G p l e R s m args below meth c nL D (fun _ => False) B k n (ek_Er post below args s k n) w pc lv [.double v] := fun H locs ls hP hD hS hl => W.dret (v := v) X.1.1 X.1.2.1 X.2.2.2.1 (fun t ht hW => ⟨⟨_, rfl, hp⟩, hS.F ht⟩) hS.2.2 hdg X.2.2.1
theorem ek_doRd {post : UInt64 → Prop} {a : Array Value} {st0 : List Value} (hr : ek_Run p l e R s m args below meth c nL D B k n w pc lv st0 rest 0 0 (fun _ => ek_Qr (fun r => ∃ v : UInt64, r = some (.double v) ∧ post v) a) (fun _ _ => False))
    (kk : ∀ v : UInt64, post v → ek_G p l e R s m args below meth c nL D A B k n Q w (pc + 3) lv (.double v :: rest)) : ek_G p l e R s m args below meth c nL D A B k n Q w pc lv st0 := ek_doR hr (fun r h => by obtain ⟨v, rfl, hp⟩ := h; exact kk v hp)
end EKX
/-- a quotient of ints is a number -/
theorem mean_num (a b : Int32) (hb : b ≠ 0) : vf_n64 (FP.ddiv (FP.i2d a) (FP.i2d b)) := by
  have h := FP.Core.ddiv_out (a := FP.Core.i2d a) (b := FP.Core.i2d b) ((FP.Core.notNaN_iff _).mpr (FP.Core.i2d_fin a).ne_nan) (FP.Core.i2d_fin b) (fun hz => FP.Core.i2d_ne_zero hb ((FP.Core.zero_bits2 _).mp hz))
  have h2 : ¬ 9218868437227405312 < (FP.Core.ddiv (FP.Core.i2d a) (FP.Core.i2d b)).toNat % 2 ^ 63 := fun hx => by
    rw [(FP.Core.isNaN_bits _).mpr hx] at h
    exact absurd h (by decide)
  show FP.Core.ddiv (FP.Core.i2d a) (FP.Core.i2d b) &&& 0x7fffffffffffffff ≤ 0x7ff0000000000000
  rw [UInt64.le_iff_toNat_le, UInt64.toNat_and]
  show (FP.Core.ddiv (FP.Core.i2d a) (FP.Core.i2d b)).toNat &&& (2 ^ 63 - 1) ≤ 9218868437227405312
  rw [Nat.and_two_pow_sub_one_eq_mod]
  omega
/-- a method with a table of its own that throws nothing -/
theorem ek_MofWH {l : Launch} {y : MethodName} {ws ws' : List Cond} {rm : Room} {Pc : Array Value → State → Prop} {Qc : Array Value → State → Outcome → State → Prop} {mc ms : Nat} {free : Addr → Prop} {cc : ByteArray} {maxL : Nat} {ret : Option FieldType} {hh : List (Nat × Nat × Nat × Nat)}
    (hy : plainName y.cls = true) (hw : ws = Cond.codeWith y cc maxL ret hh :: ws')
    (body : ∀ p e s m args below meth c s₁, BodyLoose p l y (headSpec ws rm) cc maxL ret e s m args below meth c s₁ → c.maxLocals = maxL → Pc args s →
      W p l e (headSpec ws rm).room s m args below meth c s.heap [] 0 0 (MQ below Qc args s mc ms free) (entryFrame m args maxL)) : Met l y ws rm Pc Qc mc ms free := by
  refine MetFree.of_bodyS (code := cc) (maxLocals := maxL) (ret := ret) hy ?_ ?_
  · intro args s m h hn
    obtain ⟨m9, meth, c, hn9, h1, h2, h3, h4, -, h5, h6, -⟩ := Cond.codeWith_spec (atoms_spec (ws := ws) h _ (by rw [hw]; exact List.mem_cons_self))
    cases hn.symm.trans hn9
    exact ⟨meth, c, h1, h2, h3, h4, h5, h6⟩
  · intro p e s m args below meth c s₁ B hml hP _
    have hh0 : s₁.heap = s.heap := by rw [B.state]; rfl
    obtain ⟨t, a1, o, b1, b2, b3⟩ := body p e s m args below meth c s₁ B hml hP s₁ hh0 (Stand.of_body B)
    exact ⟨t, o, a1, b1, b2, b3⟩
/-- the world w becomes W' u, with post, where what a throw needs holds -/
def ek_MZ {S : Type} (l : Launch) (y : MethodName) (cw : List Cond) (rm : Room) (D : va_G) (tys : List (ClassId × FieldType)) (N : List Cond) (av : List Value) (w : va_W) (post : Option Value → S → Prop) (W' : S → va_W) : Prop := ∀ sz : Nat, Met l y cw rm (ek_PZ D tys N av w sz) (ek_Q D (va_A w sz) post W') rm.cells rm.slots (va_A w sz)
theorem ek_MZ.of {S : Type} {l : Launch} {D : va_G} {tys : List (ClassId × FieldType)} {N : List Cond} {w : va_W} {cc : ByteArray} {ret : Option FieldType} {y : MethodName} {cw cw' : List Cond} {rm : Room} {av : List Value} {post : Option Value → S → Prop} {W' : S → va_W} {maxL : Nat} {hh : List (Nat × Nat × Nat × Nat)} (hy : plainName y.cls = true) (hw : cw = Cond.codeWith y cc maxL ret hh :: cw') (hlen : (lg_sl av).length ≤ maxL)
    (body : ∀ (p : Program) (e : Env) (s : State) (m : MethodId) (args : Array Value) (below : List Frame) (meth : Method) (c : Code) (A : Nat → Prop), ek_X p s m args meth c y.cls cc maxL ret cw N D tys A A True → ek_Zt A s → c.exceptionTable.toList = tableOf hh → ek_G p l e rm s m args below meth c maxL D A A 0 0 (ek_E D A post W' below args s rm.cells rm.slots) w 0 (lv_args 0 av) []) : ek_MZ l y cw rm D tys N av w post W' := by
  intro sz
  refine ek_MofWH (hh := hh) (cc := cc) (maxL := maxL) (ret := ret) hy hw ?_
  intro p e s m args below meth c s₁ B0 hml hv
  obtain ⟨⟨rfl, hsz, hP, hK, hD0, hN⟩, hZ⟩ := hv
  subst hsz
  have hD : va_D (va_A w s.heap.size) w := hD0.self
  have hts := atoms_spec (ws := cw) B0.pre
  have ht := vx_table (x := y) B0 (hts _ (by rw [hw]; exact List.mem_cons_self))
  have hX : ek_X p s m av.toArray meth c y.cls cc maxL ret cw N D tys (va_A w s.heap.size) (va_A w s.heap.size) True := ⟨⟨B0.exec, B0.bytes, hml, findClass_of_methodNamed B0.named, hts⟩, hK, B0.notSynchronized, B0.returns, hN, fun _ => ⟨fun _ => Iff.rfl, fun q h => Or.inr h⟩⟩
  have hb := body p e s m av.toArray below meth c (va_A w s.heap.size) hX hZ ht
  rw [lg_entry_eq]
  exact hb s.heap [] _ hP hD va_S.rf (lv_entry av hlen)
