/-! ===== the law's layer ===== -/
section EKL
variable {p : Program} {l : Launch} {e : Env} {R : Room} {s : State} {m : MethodId} {args : Array Value} {below : List Frame} {meth : Method} {c : Code} {own : String} {cc : ByteArray} {nL : Nat} {ret : Option FieldType} {Ts N : List Cond} {D : va_G} {tys : List (ClassId × FieldType)} {A B : Nat → Prop} {wr : Prop} {k n : Nat} {Q : State → Prop} {w : va_W} {pc : Nat} {lv : List (Nat × Value)} {st rest : List Value}
theorem ek_sld {b L i : Nat} {xs : Nat → Int32} (X : ek_X p s m args meth c own cc nL ret Ts N D tys A B wr) (hX : va_X b L xs s s.heap) (hbl : b < s.heap.size) (hbA : ¬ A b) (hi : i < L) (hL : L < 2147483648) (hdg : decode cc pc = .ok (.iaload, 1)) (kk : ek_G p l e R s m args below meth c nL D A B k n Q w (pc + 1) lv (.int (xs i) :: st)) : ek_G p l e R s m args below meth c nL D A B k n Q w pc lv (.int (nI i) :: .ref b :: st) := by
  intro H locs ls hP hD hS hl
  refine va_sld X.1.1 X.1.2.1 hX hbl hbA hS (vp_in_nI hi hL) hdg ?_
  rw [nI_clamp (Nat.lt_trans hi hL)]
  exact kk H locs ls hP hD hS hl
theorem ek_slen {b L : Nat} {xs : Nat → Int32} (X : ek_X p s m args meth c own cc nL ret Ts N D tys A B wr) (hX : va_X b L xs s s.heap) (hbl : b < s.heap.size) (hbA : ¬ A b) (hdg : decode cc pc = .ok (.arraylength, 1)) (kk : ek_G p l e R s m args below meth c nL D A B k n Q w (pc + 1) lv (.int (nI L) :: st)) : ek_G p l e R s m args below meth c nL D A B k n Q w pc lv (.ref b :: st) := fun H locs ls hP hD hS hl => va_slen X.1.1 X.1.2.1 hX hbl hbA hS hdg (kk H locs ls hP hD hS hl)
theorem ek_dl {i : Nat} {x : UInt64} (X : ek_X p s m args meth c own cc nL ret Ts N D tys A B wr) (j : Nat) (hj : lv[j]? = some (i, .double x)) (hdg : decode cc pc = .ok (.dload i, 2)) (kk : ek_G p l e R s m args below meth c nL D A B k n Q w (pc + 2) lv (.double x :: st)) : ek_G p l e R s m args below meth c nL D A B k n Q w pc lv st := fun H locs ls hP hD hS hl => lv_dload X.1.1 X.1.2.1 hdg (lv_at hl j hj) (kk H locs ls hP hD hS hl)
theorem ek_ds {i : Nat} {x : UInt64} {lv' : List (Nat × Value)} (X : ek_X p s m args meth c own cc nL ret Ts N D tys A B wr) (hn : i + 1 < nL) (hl' : (i, Value.double x) :: lv.filter (fun q => !(q.1 == i) && (!(q.1 == i + 1) && !(q.1 + 1 == i && q.2.category == 2))) = lv') (hdg : decode cc pc = .ok (.dstore i, 2)) (kk : ek_G p l e R s m args below meth c nL D A B k n Q w (pc + 2) lv' st) : ek_G p l e R s m args below meth c nL D A B k n Q w pc lv (.double x :: st) := fun H locs ls hP hD hS hl => lv_dstore X.1.1 X.1.2.1 hdg hl hn hl' (fun ls' hl2 => kk H locs ls' hP hD hS hl2)
theorem ek_dcmp {x y : UInt64} {op : CmpOp} (X : ek_X p s m args meth c own cc nL ret Ts N D tys A B wr) (hdg : decode cc pc = .ok (.dcmp op, 1)) (kk : ek_G p l e R s m args below meth c nL D A B k n Q w (pc + 1) lv (.int (Op.cmpValue (FP.dcmp x y) op) :: st)) : ek_G p l e R s m args below meth c nL D A B k n Q w pc lv (.double y :: .double x :: st) := fun H locs ls hP hD hS hl => lv_dcmp X.1.1 X.1.2.1 hdg (kk H locs ls hP hD hS hl)
theorem ek_dup2d {x : Int64} : x = x := rfl
/-- behind a call of the law's own callers -/
theorem ek_doZ {y : MethodName} {bytes : ByteArray} {maxL ix : Nat} {rt : Option FieldType} {hh : List (Nat × Nat × Nat × Nat)} {cw cw' : List Cond} {rm : Room} {As : List Value} {wc : va_W} {post : Int32 → Unit → Prop} {W' : Unit → va_W} (X : ek_X p s m args meth c own cc nL ret Ts N D tys A B True) (hZ : ek_Zt A s) (M : ek_MZ l y cw rm D tys N As wc (fun r u => ∃ v : Int32, r = some (.int v) ∧ post v u) W') (hG : GoodIn Ts (va_wsS own ix y cw)) (hw : cw = Cond.codeWith y bytes maxL rt hh :: cw') (hd : y.cls ≠ "java/lang/invoke/MethodHandle" ∧ y.cls ≠ "java/lang/invoke/VarHandle" ∧ (parseMethodDescriptor y.desc).map (fun d => d.parameters.length) = some As.length) (hR : rm.frames + 1 ≤ R.frames ∧ 8 + (maxL + 11) + rm.locals ≤ R.locals) (hk : k + rm.cells ≤ R.cells ∧ n + rm.slots ≤ R.slots) (hst : (rest.map fun v => v.category).sum ≤ 8) (hdg : decode cc pc = .ok (.invokestatic ix, 3))
    (isC isR : List Nat) (hC : isC.map (fun i => w[i]?) = wc.map some) (hnC : va_nd isC = true) (hRr : isR.all (fun i => decide (i < w.length)) = true) (hn : va_nd isR = true) (hdis : ∀ i ∈ isR, i ∉ isC) (w2 : va_W) (is2 : List Nat) (hn2 : va_nd is2 = true) (h2 : is2.map (fun i => (ek_at w isR ++ W' ())[i]?) = w2.map some)
    (kk : ∀ v : Int32, post v () → ek_G p l e R s m args below meth c nL D A B (k + rm.cells) (n + rm.slots) Q w2 (pc + 3) lv (.int v :: rest)) : ek_G p l e R s m args below meth c nL D A B k n Q w pc lv (As.reverse ++ rest) := by
  intro H locs ls hP hD hS hl T hT Xs
  have hBA := (X.2.2.2.2.2 trivial).1
  have hDA : va_D A w := hD.weaken (fun _ x _ h => (hBA x.1).mp h)
  have hF := va_free (wc := wc) hDA hS (X.2.2.2.2.2 trivial).2 isC hC
  have hR0 := ek_at_map hRr
  obtain ⟨hPc, hs⟩ := ek_satX (av := As) X hZ hP hD hS isC hC hnC
  obtain ⟨v, st₀, t, T', L, h0, X', hL, e1, e2, ⟨⟨r, u, hv, ⟨x, rfl, hp⟩, hP1, hD1⟩, hz, hk9⟩, st⟩ := vx_runSW (hh := hh) (bytes := bytes) (maxL := maxL) (ret := rt) X.1 (M H.size) (vx_cwSW As.length X.1.2.2.2.2 hG hw rfl rfl hd hR) ⟨ek_PZ.blind, hs⟩ rfl rfl hl.1 rfl (lv_room hst) hdg hk T hT Xs
  cases hv
  rw [h0] at hz hk9
  rw [← e1] at hz hP1
  have hk1 : ∀ q : Nat, q < H.size → ¬ va_A wc H.size q → T'.heap[q]? = H[q]? := fun q h1 h2 => by rw [e1]; exact hk9 q h1 h2
  obtain ⟨hPj, hDj⟩ := va_join hP hDA isC isR hC hR0 hn hdis hk1 hF hP1 hD1
  have hf2 : is2.filterMap (fun i => (ek_at w isR ++ W' u)[i]?) = w2 := by
    have h1 : (is2.map (fun i => (ek_at w isR ++ W' u)[i]?)).filterMap id = w2 := by rw [h2, List.filterMap_map]; simp
    rw [List.filterMap_map] at h1
    exact h1
  obtain ⟨t2, a1, b1⟩ := kk x hp T'.heap (locs ++ L) ls (hPj.sub is2 hf2) ((hDj.sub is2 hn2 h2).weaken (fun _ x _ h => (hBA x.1).mpr h)) ⟨Nat.le_trans hS.1 hz, fun q h1 h2 => (hk1 q (Nat.lt_of_lt_of_le h1 hS.1) (fun z => h2 (hF q z))).trans (hS.2.1 q h1 h2), fun q hq => by
    rcases List.mem_append.mp hq with h | h
    · exact hS.2.2 q h
    · exact hF _ (hL q h)⟩ hl T' rfl X'
  exact ⟨t2, st t2 a1, b1⟩
theorem law_arg {i j x b L : Nat} {xs : Nat → Int32} (X : ek_X p s m args meth c own cc nL ret Ts N D tys A B wr) (hS9 : va_X b L xs s s.heap ∧ b < s.heap.size ∧ ¬ A b ∧ L < 2147483648) (hij : i + j < L) (hx : xs (i + j) = nI x) (k0 k4 : Nat) (h0 : lv[k0]? = some (0, .ref b)) (h4 : lv[k4]? = some (4, .int (nI i))) (d0 : decode cc pc = .ok (.aload_n 0, 1)) (d1 : decode cc (pc + 1) = .ok (.iload 4, 2)) (d3 : decode cc (pc + 3) = .ok (.iconst (j : Int), 1)) (d4 : decode cc (pc + 4) = .ok (.iadd, 1)) (d5 : decode cc (pc + 5) = .ok (.iaload, 1)) (kk : ek_G p l e R s m args below meth c nL D A B k n Q w (pc + 6) lv (.int (nI x) :: st)) : ek_G p l e R s m args below meth c nL D A B k n Q w pc lv st := by
  refine ek_aln X k0 h0 d0 ?_
  refine ek_il X k4 h4 d1 ?_
  refine ek_ic (v := nI j) X (ek_ofInt j) d3 ?_
  refine ek_Nadd X d4 ?_
  refine ek_sld X hS9.1 hS9.2.1 hS9.2.2.1 hij hS9.2.2.2 d5 ?_
  rw [hx]
  exact kk
end EKL
theorem lg_cmp_self (x : Int64) : lg_cmp x x = 0 := by
  unfold lg_cmp
  simp
/-- the law's world: the class's object and the answer's place, and the reference -/
def wG (ad : Nat → Nat) (cI cJ cR : ClassId) (cv : CavT) (g : SndT) (q : QueT) (u : CaveT) (h k : EchT) (m : MdlT) (s a : MsnT) (o : Nat → Int64) : va_W := wL ad cI cJ cR cv g q u h k o ++ wX ad cI m s a
section LAW
variable {p : Program} {l : Launch} {e : Env} {s9 : State} {m9 : MethodId} {args9 : Array Value} {below9 : List Frame} {meth9 : Method} {c9 : Code} {D : va_G} {cI cJ cR : ClassId} {A : Nat → Prop} {K N : Nat} {Q : State → Prop} {ad : Nat → Nat} {b : Nat}
theorem law_tail {pc : Nat} {go : Int} (X : ek_X p s9 m9 args9 meth9 c9 RL cL_law 9 (some .boolean) wsL_law nestW D (tyW cI cJ cR) A A True) (hKN : K ≤ 601024 ∧ N ≤ 7293034) (d0 : decode cL_law pc = .ok (.aload_n 2, 1)) (d1 : decode cL_law (pc + 1) = .ok (.invokevirtual 83, 3)) (d4 : decode cL_law (pc + 4) = .ok (.iload 5, 2)) (d6 : decode cL_law (pc + 6) = .ok (.if_icmp .eq 5, 3)) (d11 : decode cL_law (pc + 11) = .ok (.iload 5, 2)) (d13 : decode cL_law (pc + 13) = .ok (.ifCond .ne 15, 3)) (d16 : decode cL_law (pc + 16) = .ok (.aload_n 3, 1)) (d17 : decode cL_law (pc + 17) = .ok (.iconst 0, 1)) (d18 : decode cL_law (pc + 18) = .ok (.laload, 1)) (d19 : decode cL_law (pc + 19) = .ok (.iload 6, 2)) (d21 : decode cL_law (pc + 21) = .ok (.i2l, 1)) (d22 : decode cL_law (pc + 22) = .ok (.lcmp, 1)) (d23 : decode cL_law (pc + 23) = .ok (.ifCond .eq 5, 3)) (d28 : decode cL_law (pc + 28) = .ok (.goto go, 3)) (hgo : ((pc + 28 : Nat) : Int) + go = ((1440 : Nat) : Int))
    {cd i : Nat} {vm vc : Int32} {cv : CavT} {g : SndT} {q : QueT} {u : CaveT} {h k : EchT} {m : MdlT} {s a : MsnT} {o : Nat → Int64} (hth : mTh m = cd) (hM : mTh m ≤ 3) (hv : cd = 0 → vc = vm) (kk : ek_G p l e room_1 s9 m9 args9 below9 meth9 c9 9 D A A K N Q (wG ad cI cJ cR cv g q u h k m s a (if cd = 0 then eN o 0 vc.toInt64 else o)) 1440 [(4, .int (nI i)), (0, .ref b), (1, .ref (ad 46)), (2, .ref (ad 50)), (3, .ref (ad 90))] []) : ek_G p l e room_1 s9 m9 args9 below9 meth9 c9 9 D A A K N Q (wG ad cI cJ cR cv g q u h k m s a (if cd = 0 then eN o 0 vc.toInt64 else o)) pc [(6, .int vm), (5, .int (nI cd)), (4, .int (nI i)), (0, .ref b), (1, .ref (ad 46)), (2, .ref (ad 50)), (3, .ref (ad 90))] [] := by
  have hcd : cd ≤ 3 := by omega
  have kg : ek_G p l e room_1 s9 m9 args9 below9 meth9 c9 9 D A A K N Q (wG ad cI cJ cR cv g q u h k m s a (if cd = 0 then eN o 0 vc.toInt64 else o)) (pc + 28) [(6, .int vm), (5, .int (nI cd)), (4, .int (nI i)), (0, .ref b), (1, .ref (ad 46)), (2, .ref (ad 50)), (3, .ref (ad 90))] [] := ek_goto X 1440 hgo d28 (ek_re [2, 3, 4, 5, 6] rfl kk)
  refine ek_aln X 5 rfl d0 ?_
  refine ek_doRi (ek_runV (As := []) (rest := []) X (c_X6_thrown l D cI cJ cR ad m) gL_law_X6_thrown rfl hdV_X6_thrown ⟨Nat.le_of_ble_eq_true rfl, Nat.le_of_ble_eq_true rfl⟩ hKN [39, 40, 41] rfl (by decide) 0 6 rfl rfl (Nat.le_of_ble_eq_true rfl) d1) (fun v hv9 => ?_)
  subst hv9
  refine ek_top (v' := nI cd) (congrArg nI hth) ?_
  refine ek_il X 1 rfl d4 ?_
  refine ek_icmp_eq X (pc + 11) (by omega) d6 (fun _ => ?_) (fun h => absurd rfl h)
  refine ek_il X 1 rfl d11 ?_
  refine ek_Zne X (by omega) (pc + 28) (by omega) d13 (fun _ => kg) (fun hz => ?_)
  refine ek_aln X 6 rfl d16 ?_
  refine ek_ic (v := nI 0) X (by decide) d17 ?_
  refine ek_lald X 38 1 rfl rfl (by omega) (by omega) d18 ?_
  refine ek_topL (v' := vm.toInt64) (by rw [if_pos hz, eN_self, hv hz]) ?_
  refine ek_il X 0 rfl d19 ?_
  refine ek_i2l X rfl d21 ?_
  refine ek_lcmp X d22 ?_
  refine ek_top (v' := 0) (lg_cmp_self _) ?_
  exact ek_if_eq X (pc + 28) (by omega) d23 (fun _ => kg) (fun h => absurd rfl h)
theorem hdL_addChamber : yL_addChamber.cls ≠ "java/lang/invoke/MethodHandle" ∧ yL_addChamber.cls ≠ "java/lang/invoke/VarHandle" ∧ (parseMethodDescriptor yL_addChamber.desc).map (fun d => d.parameters.length) = some 5 := by decide +kernel
theorem hdL_addPassage : yL_addPassage.cls ≠ "java/lang/invoke/MethodHandle" ∧ yL_addPassage.cls ≠ "java/lang/invoke/VarHandle" ∧ (parseMethodDescriptor yL_addPassage.desc).map (fun d => d.parameters.length) = some 6 := by decide +kernel
theorem hdL_setWater : yL_setWater.cls ≠ "java/lang/invoke/MethodHandle" ∧ yL_setWater.cls ≠ "java/lang/invoke/VarHandle" ∧ (parseMethodDescriptor yL_setWater.desc).map (fun d => d.parameters.length) = some 3 := by decide +kernel
theorem hdL_setBats : yL_setBats.cls ≠ "java/lang/invoke/MethodHandle" ∧ yL_setBats.cls ≠ "java/lang/invoke/VarHandle" ∧ (parseMethodDescriptor yL_setBats.desc).map (fun d => d.parameters.length) = some 4 := by decide +kernel
theorem hdL_setClapper : yL_setClapper.cls ≠ "java/lang/invoke/MethodHandle" ∧ yL_setClapper.cls ≠ "java/lang/invoke/VarHandle" ∧ (parseMethodDescriptor yL_setClapper.desc).map (fun d => d.parameters.length) = some 5 := by decide +kernel
theorem hdL_setEar : yL_setEar.cls ≠ "java/lang/invoke/MethodHandle" ∧ yL_setEar.cls ≠ "java/lang/invoke/VarHandle" ∧ (parseMethodDescriptor yL_setEar.desc).map (fun d => d.parameters.length) = some 3 := by decide +kernel
theorem hdL_chamber : yL_chamber.cls ≠ "java/lang/invoke/MethodHandle" ∧ yL_chamber.cls ≠ "java/lang/invoke/VarHandle" ∧ (parseMethodDescriptor yL_chamber.desc).map (fun d => d.parameters.length) = some 4 := by decide +kernel
theorem hdL_passage : yL_passage.cls ≠ "java/lang/invoke/MethodHandle" ∧ yL_passage.cls ≠ "java/lang/invoke/VarHandle" ∧ (parseMethodDescriptor yL_passage.desc).map (fun d => d.parameters.length) = some 4 := by decide +kernel
theorem hdL_say : yL_say.cls ≠ "java/lang/invoke/MethodHandle" ∧ yL_say.cls ≠ "java/lang/invoke/VarHandle" ∧ (parseMethodDescriptor yL_say.desc).map (fun d => d.parameters.length) = some 4 := by decide +kernel
theorem hdL_heard : yL_heard.cls ≠ "java/lang/invoke/MethodHandle" ∧ yL_heard.cls ≠ "java/lang/invoke/VarHandle" ∧ (parseMethodDescriptor yL_heard.desc).map (fun d => d.parameters.length) = some 4 := by decide +kernel
theorem hdL_first : yL_first.cls ≠ "java/lang/invoke/MethodHandle" ∧ yL_first.cls ≠ "java/lang/invoke/VarHandle" ∧ (parseMethodDescriptor yL_first.desc).map (fun d => d.parameters.length) = some 3 := by decide +kernel
theorem hdL_count : yL_count.cls ≠ "java/lang/invoke/MethodHandle" ∧ yL_count.cls ≠ "java/lang/invoke/VarHandle" ∧ (parseMethodDescriptor yL_count.desc).map (fun d => d.parameters.length) = some 3 := by decide +kernel
theorem hdL_would : yL_would.cls ≠ "java/lang/invoke/MethodHandle" ∧ yL_would.cls ≠ "java/lang/invoke/VarHandle" ∧ (parseMethodDescriptor yL_would.desc).map (fun d => d.parameters.length) = some 5 := by decide +kernel
theorem hdL_advise : yL_advise.cls ≠ "java/lang/invoke/MethodHandle" ∧ yL_advise.cls ≠ "java/lang/invoke/VarHandle" ∧ (parseMethodDescriptor yL_advise.desc).map (fun d => d.parameters.length) = some 6 := by decide +kernel
theorem hdL_longest : yL_longest.cls ≠ "java/lang/invoke/MethodHandle" ∧ yL_longest.cls ≠ "java/lang/invoke/VarHandle" ∧ (parseMethodDescriptor yL_longest.desc).map (fun d => d.parameters.length) = some 4 := by decide +kernel
theorem hdL_quickest : yL_quickest.cls ≠ "java/lang/invoke/MethodHandle" ∧ yL_quickest.cls ≠ "java/lang/invoke/VarHandle" ∧ (parseMethodDescriptor yL_quickest.desc).map (fun d => d.parameters.length) = some 3 := by decide +kernel
theorem hdL_way : yL_way.cls ≠ "java/lang/invoke/MethodHandle" ∧ yL_way.cls ≠ "java/lang/invoke/VarHandle" ∧ (parseMethodDescriptor yL_way.desc).map (fun d => d.parameters.length) = some 4 := by decide +kernel
theorem hdL_highest : yL_highest.cls ≠ "java/lang/invoke/MethodHandle" ∧ yL_highest.cls ≠ "java/lang/invoke/VarHandle" ∧ (parseMethodDescriptor yL_highest.desc).map (fun d => d.parameters.length) = some 3 := by decide +kernel
end LAW
set_option maxRecDepth 100000 in
theorem g_lenG {ad : Nat → Nat} {cI : ClassId} {cJ : ClassId} {cR : ClassId} {cv : CavT} {g : SndT} {q : QueT} {u : CaveT} {h : EchT} {k : EchT} {m : MdlT} {s : MsnT} {a : MsnT} {o : Nat → Int64} : (wG ad cI cJ cR cv g q u h k m s a o).length = 60 := rfl
set_option maxRecDepth 100000 in
theorem g_CL {ad : Nat → Nat} {cI : ClassId} {cJ : ClassId} {cR : ClassId} {cv : CavT} {g : SndT} {q : QueT} {u : CaveT} {h : EchT} {k : EchT} {m : MdlT} {s : MsnT} {a : MsnT} {o : Nat → Int64} : [0, 1, 2, 3, 4, 5, 6, 7, 8, 9, 10, 11, 12, 13, 14, 15, 16, 17, 18, 19, 20, 21, 22, 23, 24, 25, 26, 27, 28, 29, 30, 31, 32, 33, 34, 35, 36, 37, 38].map (fun i => (wG ad cI cJ cR cv g q u h k m s a o)[i]?) = (wL ad cI cJ cR cv g q u h k o).map some := rfl
set_option maxRecDepth 100000 in
theorem g_L2 {ad : Nat → Nat} {cI : ClassId} {cJ : ClassId} {cR : ClassId} {cv : CavT} {cv' : CavT} {g : SndT} {g' : SndT} {q : QueT} {q' : QueT} {u : CaveT} {u' : CaveT} {h : EchT} {h' : EchT} {k : EchT} {k' : EchT} {m : MdlT} {s : MsnT} {a : MsnT} {o : Nat → Int64} {o' : Nat → Int64} : [21, 22, 23, 24, 25, 26, 27, 28, 29, 30, 31, 32, 33, 34, 35, 36, 37, 38, 39, 40, 41, 42, 43, 44, 45, 46, 47, 48, 49, 50, 51, 52, 53, 54, 55, 56, 57, 58, 59, 0, 1, 2, 3, 4, 5, 6, 7, 8, 9, 10, 11, 12, 13, 14, 15, 16, 17, 18, 19, 20].map (fun i => (ek_at (wG ad cI cJ cR cv g q u h k m s a o) [39, 40, 41, 42, 43, 44, 45, 46, 47, 48, 49, 50, 51, 52, 53, 54, 55, 56, 57, 58, 59] ++ wL ad cI cJ cR cv' g' q' u' h' k' o')[i]?) = (wG ad cI cJ cR cv' g' q' u' h' k' m s a o').map some := rfl
set_option maxRecDepth 100000 in
theorem g_CM {ad : Nat → Nat} {cI : ClassId} {cJ : ClassId} {cR : ClassId} {cv : CavT} {g : SndT} {q : QueT} {u : CaveT} {h : EchT} {k : EchT} {m : MdlT} {s : MsnT} {a : MsnT} {o : Nat → Int64} : [39, 40, 41].map (fun i => (wG ad cI cJ cR cv g q u h k m s a o)[i]?) = (wM ad cI m).map some := rfl
set_option maxRecDepth 100000 in
theorem g_M2 {ad : Nat → Nat} {cI : ClassId} {cJ : ClassId} {cR : ClassId} {cv : CavT} {g : SndT} {q : QueT} {u : CaveT} {h : EchT} {k : EchT} {m : MdlT} {m' : MdlT} {s : MsnT} {a : MsnT} {o : Nat → Int64} : [0, 1, 2, 3, 4, 5, 6, 7, 8, 9, 10, 11, 12, 13, 14, 15, 16, 17, 18, 19, 20, 21, 22, 23, 24, 25, 26, 27, 28, 29, 30, 31, 32, 33, 34, 35, 36, 37, 38, 57, 58, 59, 39, 40, 41, 42, 43, 44, 45, 46, 47, 48, 49, 50, 51, 52, 53, 54, 55, 56].map (fun i => (ek_at (wG ad cI cJ cR cv g q u h k m s a o) [0, 1, 2, 3, 4, 5, 6, 7, 8, 9, 10, 11, 12, 13, 14, 15, 16, 17, 18, 19, 20, 21, 22, 23, 24, 25, 26, 27, 28, 29, 30, 31, 32, 33, 34, 35, 36, 37, 38, 42, 43, 44, 45, 46, 47, 48, 49, 50, 51, 52, 53, 54, 55, 56, 57, 58, 59] ++ wM ad cI m')[i]?) = (wG ad cI cJ cR cv g q u h k m' s a o).map some := rfl
set_option maxRecDepth 100000 in
theorem g_CX {ad : Nat → Nat} {cI : ClassId} {cJ : ClassId} {cR : ClassId} {cv : CavT} {g : SndT} {q : QueT} {u : CaveT} {h : EchT} {k : EchT} {m : MdlT} {s : MsnT} {a : MsnT} {o : Nat → Int64} : [39, 40, 41, 42, 43, 44, 45, 46, 47, 48, 49, 50, 51, 52, 53, 54, 55, 56, 57, 58, 59].map (fun i => (wG ad cI cJ cR cv g q u h k m s a o)[i]?) = (wX ad cI m s a).map some := rfl
set_option maxRecDepth 100000 in
theorem g_X2 {ad : Nat → Nat} {cI : ClassId} {cJ : ClassId} {cR : ClassId} {cv : CavT} {g : SndT} {q : QueT} {u : CaveT} {h : EchT} {k : EchT} {m : MdlT} {m' : MdlT} {s : MsnT} {s' : MsnT} {a : MsnT} {a' : MsnT} {o : Nat → Int64} : [0, 1, 2, 3, 4, 5, 6, 7, 8, 9, 10, 11, 12, 13, 14, 15, 16, 17, 18, 19, 20, 21, 22, 23, 24, 25, 26, 27, 28, 29, 30, 31, 32, 33, 34, 35, 36, 37, 38, 39, 40, 41, 42, 43, 44, 45, 46, 47, 48, 49, 50, 51, 52, 53, 54, 55, 56, 57, 58, 59].map (fun i => (ek_at (wG ad cI cJ cR cv g q u h k m s a o) [0, 1, 2, 3, 4, 5, 6, 7, 8, 9, 10, 11, 12, 13, 14, 15, 16, 17, 18, 19, 20, 21, 22, 23, 24, 25, 26, 27, 28, 29, 30, 31, 32, 33, 34, 35, 36, 37, 38] ++ wX ad cI m' s' a')[i]?) = (wG ad cI cJ cR cv g q u h k m' s' a' o).map some := rfl
set_option maxRecDepth 100000 in
theorem g_CV {ad : Nat → Nat} {cI : ClassId} {cJ : ClassId} {cR : ClassId} {cv : CavT} {g : SndT} {q : QueT} {u : CaveT} {h : EchT} {k : EchT} {m : MdlT} {s : MsnT} {a : MsnT} {o : Nat → Int64} : [0, 1, 2, 3, 4, 5, 6, 7, 8, 9, 10, 11, 12, 13, 14, 15, 16, 17, 18, 19, 20, 21, 22, 23, 24, 25, 26, 27, 28, 29, 30, 31, 32, 33, 34, 35, 36, 37].map (fun i => (wG ad cI cJ cR cv g q u h k m s a o)[i]?) = (wV ad cI cJ cR cv g q u h k).map some := rfl
set_option maxRecDepth 100000 in
theorem g_V2 {ad : Nat → Nat} {cI : ClassId} {cJ : ClassId} {cR : ClassId} {cv : CavT} {cv' : CavT} {g : SndT} {g' : SndT} {q : QueT} {q' : QueT} {u : CaveT} {u' : CaveT} {h : EchT} {h' : EchT} {k : EchT} {k' : EchT} {m : MdlT} {s : MsnT} {a : MsnT} {o : Nat → Int64} : [22, 23, 24, 25, 26, 27, 28, 29, 30, 31, 32, 33, 34, 35, 36, 37, 38, 39, 40, 41, 42, 43, 44, 45, 46, 47, 48, 49, 50, 51, 52, 53, 54, 55, 56, 57, 58, 59, 0, 1, 2, 3, 4, 5, 6, 7, 8, 9, 10, 11, 12, 13, 14, 15, 16, 17, 18, 19, 20, 21].map (fun i => (ek_at (wG ad cI cJ cR cv g q u h k m s a o) [38, 39, 40, 41, 42, 43, 44, 45, 46, 47, 48, 49, 50, 51, 52, 53, 54, 55, 56, 57, 58, 59] ++ wV ad cI cJ cR cv' g' q' u' h' k')[i]?) = (wG ad cI cJ cR cv' g' q' u' h' k' m s a o).map some := rfl
set_option maxRecDepth 100000 in
theorem g_aL {ad : Nat → Nat} {cI : ClassId} {cJ : ClassId} {cR : ClassId} {cv : CavT} {g : SndT} {q : QueT} {u : CaveT} {h : EchT} {k : EchT} {m : MdlT} {s : MsnT} {a : MsnT} {o : Nat → Int64} : [39, 40, 41, 42, 43, 44, 45, 46, 47, 48, 49, 50, 51, 52, 53, 54, 55, 56, 57, 58, 59].all (fun i => decide (i < (wG ad cI cJ cR cv g q u h k m s a o).length)) = true := rfl
set_option maxRecDepth 100000 in
theorem g_aM {ad : Nat → Nat} {cI : ClassId} {cJ : ClassId} {cR : ClassId} {cv : CavT} {g : SndT} {q : QueT} {u : CaveT} {h : EchT} {k : EchT} {m : MdlT} {s : MsnT} {a : MsnT} {o : Nat → Int64} : [0, 1, 2, 3, 4, 5, 6, 7, 8, 9, 10, 11, 12, 13, 14, 15, 16, 17, 18, 19, 20, 21, 22, 23, 24, 25, 26, 27, 28, 29, 30, 31, 32, 33, 34, 35, 36, 37, 38, 42, 43, 44, 45, 46, 47, 48, 49, 50, 51, 52, 53, 54, 55, 56, 57, 58, 59].all (fun i => decide (i < (wG ad cI cJ cR cv g q u h k m s a o).length)) = true := rfl
set_option maxRecDepth 100000 in
theorem g_aX {ad : Nat → Nat} {cI : ClassId} {cJ : ClassId} {cR : ClassId} {cv : CavT} {g : SndT} {q : QueT} {u : CaveT} {h : EchT} {k : EchT} {m : MdlT} {s : MsnT} {a : MsnT} {o : Nat → Int64} : [0, 1, 2, 3, 4, 5, 6, 7, 8, 9, 10, 11, 12, 13, 14, 15, 16, 17, 18, 19, 20, 21, 22, 23, 24, 25, 26, 27, 28, 29, 30, 31, 32, 33, 34, 35, 36, 37, 38].all (fun i => decide (i < (wG ad cI cJ cR cv g q u h k m s a o).length)) = true := rfl
set_option maxRecDepth 100000 in
theorem g_aV {ad : Nat → Nat} {cI : ClassId} {cJ : ClassId} {cR : ClassId} {cv : CavT} {g : SndT} {q : QueT} {u : CaveT} {h : EchT} {k : EchT} {m : MdlT} {s : MsnT} {a : MsnT} {o : Nat → Int64} : [38, 39, 40, 41, 42, 43, 44, 45, 46, 47, 48, 49, 50, 51, 52, 53, 54, 55, 56, 57, 58, 59].all (fun i => decide (i < (wG ad cI cJ cR cv g q u h k m s a o).length)) = true := rfl
set_option maxRecDepth 100000 in
theorem g_0L {ad : Nat → Nat} {cI : ClassId} {m : MdlT} {s : MsnT} {a : MsnT} : (wX ad cI m s a)[0]? = some (ad 50, .inr (6, [.int (nI (mTh m)), .int (nI (mC m)), .int (nI (mP m)), .int (nI (mW m)), .int (nI (mEar m)), .int (nI (mSaid m)), .ref (ad 51), .ref (ad 52), .ref (ad 60), .ref (ad 70)])) := rfl
set_option maxRecDepth 100000 in
theorem g_nL : va_nd [0, 1, 2, 3, 4, 5, 6, 7, 8, 9, 10, 11, 12, 13, 14, 15, 16, 17, 18, 19, 20, 21, 22, 23, 24, 25, 26, 27, 28, 29, 30, 31, 32, 33, 34, 35, 36, 37, 38] = true := by decide +kernel
set_option maxRecDepth 100000 in
theorem g_nX : va_nd [39, 40, 41, 42, 43, 44, 45, 46, 47, 48, 49, 50, 51, 52, 53, 54, 55, 56, 57, 58, 59] = true := by decide +kernel
set_option maxRecDepth 100000 in
theorem g_nL2 : va_nd [21, 22, 23, 24, 25, 26, 27, 28, 29, 30, 31, 32, 33, 34, 35, 36, 37, 38, 39, 40, 41, 42, 43, 44, 45, 46, 47, 48, 49, 50, 51, 52, 53, 54, 55, 56, 57, 58, 59, 0, 1, 2, 3, 4, 5, 6, 7, 8, 9, 10, 11, 12, 13, 14, 15, 16, 17, 18, 19, 20] = true := by decide +kernel
set_option maxRecDepth 100000 in
theorem g_nRM : va_nd [0, 1, 2, 3, 4, 5, 6, 7, 8, 9, 10, 11, 12, 13, 14, 15, 16, 17, 18, 19, 20, 21, 22, 23, 24, 25, 26, 27, 28, 29, 30, 31, 32, 33, 34, 35, 36, 37, 38, 42, 43, 44, 45, 46, 47, 48, 49, 50, 51, 52, 53, 54, 55, 56, 57, 58, 59] = true := by decide +kernel
set_option maxRecDepth 100000 in
theorem g_nM2 : va_nd [0, 1, 2, 3, 4, 5, 6, 7, 8, 9, 10, 11, 12, 13, 14, 15, 16, 17, 18, 19, 20, 21, 22, 23, 24, 25, 26, 27, 28, 29, 30, 31, 32, 33, 34, 35, 36, 37, 38, 57, 58, 59, 39, 40, 41, 42, 43, 44, 45, 46, 47, 48, 49, 50, 51, 52, 53, 54, 55, 56] = true := by decide +kernel
set_option maxRecDepth 100000 in
theorem g_nX2 : va_nd [0, 1, 2, 3, 4, 5, 6, 7, 8, 9, 10, 11, 12, 13, 14, 15, 16, 17, 18, 19, 20, 21, 22, 23, 24, 25, 26, 27, 28, 29, 30, 31, 32, 33, 34, 35, 36, 37, 38, 39, 40, 41, 42, 43, 44, 45, 46, 47, 48, 49, 50, 51, 52, 53, 54, 55, 56, 57, 58, 59] = true := by decide +kernel
set_option maxRecDepth 100000 in
theorem g_nV : va_nd [0, 1, 2, 3, 4, 5, 6, 7, 8, 9, 10, 11, 12, 13, 14, 15, 16, 17, 18, 19, 20, 21, 22, 23, 24, 25, 26, 27, 28, 29, 30, 31, 32, 33, 34, 35, 36, 37] = true := by decide +kernel
set_option maxRecDepth 100000 in
theorem g_nRV : va_nd [38, 39, 40, 41, 42, 43, 44, 45, 46, 47, 48, 49, 50, 51, 52, 53, 54, 55, 56, 57, 58, 59] = true := by decide +kernel
set_option maxRecDepth 100000 in
theorem g_nV2 : va_nd [22, 23, 24, 25, 26, 27, 28, 29, 30, 31, 32, 33, 34, 35, 36, 37, 38, 39, 40, 41, 42, 43, 44, 45, 46, 47, 48, 49, 50, 51, 52, 53, 54, 55, 56, 57, 58, 59, 0, 1, 2, 3, 4, 5, 6, 7, 8, 9, 10, 11, 12, 13, 14, 15, 16, 17, 18, 19, 20, 21] = true := by decide +kernel
set_option maxRecDepth 100000 in
theorem g_dL : ∀ i ∈ [39, 40, 41, 42, 43, 44, 45, 46, 47, 48, 49, 50, 51, 52, 53, 54, 55, 56, 57, 58, 59], i ∉ [0, 1, 2, 3, 4, 5, 6, 7, 8, 9, 10, 11, 12, 13, 14, 15, 16, 17, 18, 19, 20, 21, 22, 23, 24, 25, 26, 27, 28, 29, 30, 31, 32, 33, 34, 35, 36, 37, 38] := by decide +kernel
set_option maxRecDepth 100000 in
theorem g_dX : ∀ i ∈ [0, 1, 2, 3, 4, 5, 6, 7, 8, 9, 10, 11, 12, 13, 14, 15, 16, 17, 18, 19, 20, 21, 22, 23, 24, 25, 26, 27, 28, 29, 30, 31, 32, 33, 34, 35, 36, 37, 38], i ∉ [39, 40, 41, 42, 43, 44, 45, 46, 47, 48, 49, 50, 51, 52, 53, 54, 55, 56, 57, 58, 59] := by decide +kernel
set_option maxRecDepth 100000 in
theorem g_dM : ∀ i ∈ [0, 1, 2, 3, 4, 5, 6, 7, 8, 9, 10, 11, 12, 13, 14, 15, 16, 17, 18, 19, 20, 21, 22, 23, 24, 25, 26, 27, 28, 29, 30, 31, 32, 33, 34, 35, 36, 37, 38, 42, 43, 44, 45, 46, 47, 48, 49, 50, 51, 52, 53, 54, 55, 56, 57, 58, 59], i ∉ [39, 40, 41] := by decide +kernel
set_option maxRecDepth 100000 in
theorem g_dV : ∀ i ∈ [38, 39, 40, 41, 42, 43, 44, 45, 46, 47, 48, 49, 50, 51, 52, 53, 54, 55, 56, 57, 58, 59], i ∉ [0, 1, 2, 3, 4, 5, 6, 7, 8, 9, 10, 11, 12, 13, 14, 15, 16, 17, 18, 19, 20, 21, 22, 23, 24, 25, 26, 27, 28, 29, 30, 31, 32, 33, 34, 35, 36, 37] := by decide +kernel
