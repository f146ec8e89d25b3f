/-! ===== the law's layer: a script that is only read; the law's own methods ===== -/
/-- the script b, that no cell of the world is -/
def ek_Sc (b L : Nat) (xs : Nat → Int32) (U : State) : Prop := va_X b L xs U U.heap ∧ b < U.heap.size
/-- the script, in a walk from s that writes A -/
abbrev ek_S9 (A : Nat → Prop) (b L : Nat) (xs : Nat → Int32) (s : State) : Prop := va_X b L xs s s.heap ∧ b < s.heap.size ∧ ¬ A b ∧ L < 2147483648
theorem ek_Sc.same {b L : Nat} {xs : Nat → Int32} {u U : State} (hv : u.vm = U.vm) (hh : u.heap = U.heap) (h : ek_Sc b L xs u) : ek_Sc b L xs U := by
  obtain ⟨h1, h2⟩ := h
  have h3 : u.vm.Alike U.vm := by rw [hv]; exact Vm.Alike.refl _
  exact ⟨by rw [← hh]; exact h1.moved h3, by rw [← hh]; exact h2⟩
theorem ek_Sc.at {A : Nat → Prop} {b L : Nat} {xs : Nat → Int32} {s U : State} {H : Heap} {locs : List Loc} (h : ek_S9 A b L xs s) (hW : s.WarmedH U.vm) (hU : U.heap = H) (hS : va_S A s.heap H locs) : ek_Sc b L xs U := ⟨by rw [hU]; exact (h.1.kept (hS.2.1 b h.2.1 h.2.2.1)).moved hW.alike, by rw [hU]; exact Nat.lt_of_lt_of_le h.2.1 hS.1⟩
section EKS
variable {p : Program} {l : Launch} {e : Env} {R : Room} {s : State} {m : MethodId} {args : Array Value} {below : List Frame} {meth : Method} {c : Code} {own : String} {cc : ByteArray} {nL : Nat} {ret : Option FieldType} {Ts N : List Cond} {D : va_G} {tys : List (ClassId × FieldType)} {A B : Nat → Prop} {wr : Prop} {k n : Nat} {Q : State → Prop} {w : va_W} {pc : Nat} {lv : List (Nat × Value)} {st rest : List Value}
theorem ek_sld {b L i : Nat} {xs : Nat → Int32} (X : ek_X p s m args meth c own cc nL ret Ts N D tys A B wr) (hS9 : ek_S9 A b L xs s) (hi : i < L) (hdg : decode cc pc = .ok (.iaload, 1)) (kk : ek_G p l e R s m args below meth c nL D A B k n Q w (pc + 1) lv (.int (xs i) :: st)) : ek_G p l e R s m args below meth c nL D A B k n Q w pc lv (.int (nI i) :: .ref b :: st) := by
  intro H locs ls hP hD hS hl
  refine va_sld X.1.1 X.1.2.1 hS9.1 hS9.2.1 hS9.2.2.1 hS (vp_in_nI hi hS9.2.2.2) hdg ?_
  rw [nI_clamp (Nat.lt_trans hi hS9.2.2.2)]
  exact kk H locs ls hP hD hS hl
theorem ek_slen {b L : Nat} {xs : Nat → Int32} (X : ek_X p s m args meth c own cc nL ret Ts N D tys A B wr) (hS9 : ek_S9 A b L xs s) (hdg : decode cc pc = .ok (.arraylength, 1)) (kk : ek_G p l e R s m args below meth c nL D A B k n Q w (pc + 1) lv (.int (nI L) :: st)) : ek_G p l e R s m args below meth c nL D A B k n Q w pc lv (.ref b :: st) := fun H locs ls hP hD hS hl => va_slen X.1.1 X.1.2.1 hS9.1 hS9.2.1 hS9.2.2.1 hS hdg (kk H locs ls hP hD hS hl)
theorem ek_dcmp {x y : UInt64} {op : CmpOp} (X : ek_X p s m args meth c own cc nL ret Ts N D tys A B wr) (hdg : decode cc pc = .ok (.dcmp op, 1)) (kk : ek_G p l e R s m args below meth c nL D A B k n Q w (pc + 1) lv (.int (Op.cmpValue (FP.dcmp x y) op) :: st)) : ek_G p l e R s m args below meth c nL D A B k n Q w pc lv (.double y :: .double x :: st) := fun H locs ls hP hD hS hl => lv_dcmp X.1.1 X.1.2.1 hdg (kk H locs ls hP hD hS hl)
/-- a method that reads the script, and nothing else -/
def ek_RS (l : Launch) (y : MethodName) (cw : List Cond) (rm : Room) (D : va_G) (tys : List (ClassId × FieldType)) (N : List Cond) (av : List Value) (b L : Nat) (xs : Nat → Int32) (post : Option Value → Prop) : Prop := ∀ sz : Nat, Met l y cw rm (fun a U => ek_P D tys N av [] sz a U ∧ ek_Sc b L xs U) (ek_Qr post) rm.cells rm.slots (fun _ => False)
theorem ek_RS.of {b L : Nat} {xs : Nat → Int32} {y : MethodName} {cw cw' : List Cond} {rm : Room} {av : List Value} {post : Option Value → Prop} {maxL : Nat} (hL : L < 2147483648) (hy : plainName y.cls = true) (hw : cw = Cond.code y cc maxL ret :: cw') (hlen : (lg_sl av).length ≤ maxL)
    (body : ∀ (p : Program) (e : Env) (s : State) (m : MethodId) (args : Array Value) (below : List Frame) (meth : Method) (c : Code), ek_X p s m args meth c y.cls cc maxL ret cw N D tys (fun _ => False) (fun _ => True) False → ek_S9 (fun _ => False) b L xs s → ek_G p l e rm s m args below meth c maxL D (fun _ => False) (fun _ => True) 0 0 (ek_Er post below args s rm.cells rm.slots) [] 0 (lv_args 0 av) []) : ek_RS l y cw rm D tys N av b L xs post := by
  intro sz
  refine Met.ofW (cc := cc) (maxL := maxL) (ret := ret) hy hw ?_
  intro p e s m args below meth c s₁ B0 hml hv
  obtain ⟨⟨rfl, hsz, hP, hK, hD0, hN⟩, h8, h9⟩ := hv
  subst hsz
  have hX : ek_X p s m av.toArray meth c y.cls cc maxL ret cw N D tys (fun _ => False) (fun _ => True) False := ⟨⟨B0.exec, B0.bytes, hml, findClass_of_methodNamed B0.named, atoms_spec (ws := cw) B0.pre⟩, hK, B0.notSynchronized, B0.returns, hN, fun h => h.elim⟩
  have hb := body p e s m av.toArray below meth c hX ⟨h8, h9, fun h => h, hL⟩
  rw [lg_entry_eq]
  exact hb s.heap [] _ hP hD0 va_S.rf (lv_entry av hlen)
section EKSR
variable {y : MethodName} {bytes : ByteArray} {maxL ix : Nat} {rt : Option FieldType} {cw cw' : List Cond} {rm : Room} {As : List Value} {b L : Nat} {xs : Nat → Int32}
/-- behind a call of such a method -/
theorem ek_doS {post : Int32 → Prop} (X : ek_X p s m args meth c own cc nL ret Ts N D tys A B wr) (hS9 : ek_S9 A b L xs s) (M : ek_RS l y cw rm D tys N As b L xs (fun r => ∃ v : Int32, r = some (.int v) ∧ post v)) (hG : GoodIn Ts (va_wsS own ix y cw)) (hw : cw = Cond.code y bytes maxL rt :: cw') (hd : y.cls ≠ "java/lang/invoke/MethodHandle" ∧ y.cls ≠ "java/lang/invoke/VarHandle" ∧ (parseMethodDescriptor y.desc).map (fun d => d.parameters.length) = some As.length) (hR : rm.frames + 1 ≤ R.frames ∧ 8 + (maxL + 11) + rm.locals ≤ R.locals) (hrm : rm.cells = 0 ∧ rm.slots = 0) (hk : k ≤ R.cells ∧ n ≤ R.slots) (hst : (rest.map fun v => v.category).sum ≤ 8) (hdg : decode cc pc = .ok (.invokestatic ix, 3))
    (kk : ∀ v : Int32, post v → ek_G p l e R s m args below meth c nL D A B k n Q w (pc + 3) lv (.int v :: rest)) : ek_G p l e R s m args below meth c nL D A B k n Q w pc lv (As.reverse ++ rest) := by
  intro H locs ls hP hD hS hl T hT Xs
  obtain ⟨hPc, hDc, hs⟩ := ek_sat (av := As) (wc := []) X hP hD [] rfl (by decide)
  have M9 := M H.size
  rw [hrm.1, hrm.2] at M9
  obtain ⟨v, st₀, t, T', L9, h0, X', hL, e1, e2, ⟨⟨r, hv, x, rfl, hp⟩, hz, hk9⟩, st⟩ := va_runS X.1 M9 (va_cwS As.length X.1.2.2.2.2 hG hw hrm.1 hrm.2 hd hR) ⟨fun a U g mk q => ⟨ek_P.blind a U g mk q.1, ek_Sc.same (u := U) (U := U.calling g mk a) rfl rfl q.2⟩, fun U hU hW => ⟨hs U hU hW, ek_Sc.at hS9 hW hU hS⟩⟩ rfl rfl hl.1 rfl (lv_room hst) hdg hk T hT Xs
  cases hv
  rw [h0] at hz hk9
  have hk1 : ∀ q : Nat, q < H.size → T'.heap[q]? = H[q]? := fun q h => by rw [e1]; exact hk9 q h (fun h => h)
  have hL0 : L9 = [] := List.eq_nil_iff_forall_not_mem.mpr (fun q h => hL q h)
  subst hL0
  obtain ⟨t2, a1, b1⟩ := kk x hp T'.heap (locs ++ []) ls (hP.kept (fun i q hi => hk1 q.1 ((hP i q hi).lt))) hD ⟨Nat.le_trans hS.1 (by rw [e1]; exact hz), fun q h1 h2 => (hk1 q (Nat.lt_of_lt_of_le h1 hS.1)).trans (hS.2.1 q h1 h2), fun q hq => hS.2.2 q (by simpa using hq)⟩ hl T' rfl X'
  exact ⟨t2, st t2 a1, b1⟩
/-- a method that reads the script and makes a world, where what a throw needs holds -/
def ek_MC {S : Type} (l : Launch) (y : MethodName) (cw : List Cond) (rm : Room) (D : va_G) (tys : List (ClassId × FieldType)) (N : List Cond) (av : List Value) (b L : Nat) (xs : Nat → Int32) (post : Option Value → S → Prop) (W' : S → va_W) : Prop := ∀ sz : Nat, Met l y cw rm (fun a U => ek_PZ D tys N av [] sz a U ∧ va_AOI U ∧ ek_Sc b L xs U) (ek_Q D (va_A [] sz) post W') rm.cells rm.slots (va_A [] sz)
theorem ek_MC.of {S : Type} {post : Option Value → S → Prop} {W' : S → va_W} {av : List Value} (hL : L < 2147483648) (hy : plainName y.cls = true) (hw : cw = Cond.code y cc maxL ret :: cw') (hlen : (lg_sl av).length ≤ maxL)
    (body : ∀ (p : Program) (e : Env) (s : State) (m : MethodId) (args : Array Value) (below : List Frame) (meth : Method) (c : Code) (A : Nat → Prop), ek_X p s m args meth c y.cls cc maxL ret cw N D tys A A True → ek_Zt A s → va_AOI s → ek_S9 A b L xs s → ek_G p l e rm s m args below meth c maxL D A A 0 0 (ek_E D A post W' below args s rm.cells rm.slots) [] 0 (lv_args 0 av) []) : ek_MC l y cw rm D tys N av b L xs post W' := by
  intro sz
  refine Met.ofW (cc := cc) (maxL := maxL) (ret := ret) hy hw ?_
  intro p e s m args below meth c s₁ B0 hml hv
  obtain ⟨⟨⟨rfl, hsz, hP, hK, hD0, hN⟩, hZ⟩, hO, h8, h9⟩ := hv
  subst hsz
  have hD : va_D (va_A [] s.heap.size) [] := hD0.self
  have hX : ek_X p s m av.toArray meth c y.cls cc maxL ret cw N D tys (va_A [] s.heap.size) (va_A [] s.heap.size) True := ⟨⟨B0.exec, B0.bytes, hml, findClass_of_methodNamed B0.named, atoms_spec (ws := cw) B0.pre⟩, hK, B0.notSynchronized, B0.returns, hN, fun _ => ⟨fun _ => Iff.rfl, fun q h => Or.inr h⟩⟩
  have hb := body p e s m av.toArray below meth c (va_A [] s.heap.size) hX hZ hO ⟨h8, h9, fun h => by rcases h with ⟨k, e, h⟩ | h; exact absurd h (by simp); exact Nat.not_le.mpr h9 h, hL⟩
  rw [lg_entry_eq]
  exact hb s.heap [] _ hP hD va_S.rf (lv_entry av hlen)
theorem ek_reta {S : Type} {post : Option Value → S → Prop} {W' : S → va_W} {a : Nat} {nm : String} (X : ek_X p s m args meth c own cc nL (some (.object nm)) Ts N D tys A A True) (u : S) (hp : post (some (.ref a)) u) (hw : w = W' u) (hdg : decode cc pc = .ok (.areturn, 1)) : ek_G p l e R s m args below meth c nL D A A k n (ek_E D A post W' below args s k n) w pc lv [.ref a] := fun H locs ls hP hD hS hl => W.aret (v := .ref a) X.1.1 X.1.2.1 X.2.2.2.1 (Or.inl ⟨_, rfl⟩) (Or.inr ⟨_, rfl⟩) (fun t ht hW => ⟨⟨_, u, rfl, hp, by rw [ht, ← hw]; exact hP, by rw [← hw]; exact hD⟩, hS.F ht⟩) hS.2.2 hdg X.2.2.1
/-- behind a call of such a method, from an empty world -/
theorem ek_doC {S : Type} {post : Option Value → S → Prop} {W' : S → va_W} (X : ek_X p s m args meth c own cc nL ret Ts N D tys A B True) (hZ : ek_Zt A s) (hO : va_AOI s) (hS9 : ek_S9 A b L xs s) (M : ek_MC l y cw rm D tys N As b L xs post W') (hG : GoodIn Ts (va_wsS own ix y cw)) (hw : cw = Cond.code y bytes maxL rt :: cw') (hd : y.cls ≠ "java/lang/invoke/MethodHandle" ∧ y.cls ≠ "java/lang/invoke/VarHandle" ∧ (parseMethodDescriptor y.desc).map (fun d => d.parameters.length) = some As.length) (hR : rm.frames + 1 ≤ R.frames ∧ 8 + (maxL + 11) + rm.locals ≤ R.locals) (hk : k + rm.cells ≤ R.cells ∧ n + rm.slots ≤ R.slots) (hst : (rest.map fun v => v.category).sum ≤ 8) (hdg : decode cc pc = .ok (.invokestatic ix, 3))
    (kk : ∀ (r : Option Value) (u : S), post r u → ek_G p l e R s m args below meth c nL D A B (k + rm.cells) (n + rm.slots) Q (W' u) (pc + 3) lv (r.toList ++ rest)) : ek_G p l e R s m args below meth c nL D A B k n Q [] pc lv (As.reverse ++ rest) := by
  intro H locs ls hP hD hS hl T hT Xs
  have hBA := (X.2.2.2.2.2 trivial).1
  have hDA : va_D A [] := hD.weaken (fun _ x _ h => (hBA x.1).mp h)
  have hF := va_free (wc := []) hDA hS (X.2.2.2.2.2 trivial).2 [] rfl
  obtain ⟨hPc, hs⟩ := ek_satX (av := As) (wc := []) X hZ hP hD hS [] rfl (by decide)
  obtain ⟨v, st₀, t, T', L9, h0, X', hL, e1, e2, ⟨⟨r, u, hv, hp, hP1, hD1⟩, hz, hk9⟩, st⟩ := va_runS X.1 (M H.size) (va_cwS As.length X.1.2.2.2.2 hG hw rfl rfl hd hR) ⟨fun a U g mk q => ⟨ek_PZ.blind a U g mk q.1, va_AOI.moved (u := U) (U := U.calling g mk a) (Vm.Alike.refl U.vm) q.2.1, ek_Sc.same (u := U) (U := U.calling g mk a) rfl rfl q.2.2⟩, fun U hU hW => ⟨hs U hU hW, hO.moved hW.alike, ek_Sc.at hS9 hW hU hS⟩⟩ rfl rfl hl.1 rfl (lv_room hst) hdg hk T hT Xs
  cases hv
  rw [h0] at hz hk9
  rw [← e1] at hz hP1
  have hk1 : ∀ q : Nat, q < H.size → ¬ va_A [] H.size q → T'.heap[q]? = H[q]? := fun q h1 h2 => by rw [e1]; exact hk9 q h1 h2
  obtain ⟨hPj, hDj⟩ := va_join (wr := []) hP hDA [] [] rfl rfl (by decide) (fun _ h => absurd h List.not_mem_nil) hk1 hF hP1 hD1
  obtain ⟨t2, a1, b1⟩ := kk _ u hp T'.heap (locs ++ L9) ls hPj (hDj.weaken (fun _ x _ h => (hBA x.1).mpr h)) ⟨Nat.le_trans hS.1 hz, fun q h1 h2 => (hk1 q (Nat.lt_of_lt_of_le h1 hS.1) (fun z => h2 (hF q z))).trans (hS.2.1 q h1 h2), fun q hq => by
    rcases List.mem_append.mp hq with h | h
    · exact hS.2.2 q h
    · exact hF _ (hL q h)⟩ hl T' rfl X'
  exact ⟨t2, st t2 a1, b1⟩
end EKSR
end EKS
