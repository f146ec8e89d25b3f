/-! ===== BEGIN words of one list among another's, by their places ===== -/
theorem goodIn_r {big : List Cond} (ws : List Cond) (ps : List Nat) (hp : ws = ps.filterMap (fun i => big[i]?)) (h : ws.all goodWord = true) : GoodIn big ws := by
  intro w hw
  have h1 := List.all_eq_true.mp h w hw
  rw [hp] at hw
  obtain ⟨i, -, hi⟩ := List.mem_filterMap.mp hw
  have hm : w ∈ big := by first | exact List.mem_of_getElem? hi | exact List.getElem?_mem hi
  exact ⟨hm, good_of_word h1⟩
theorem goodIn_app {big a b : List Cond} (ha : GoodIn big a) (hb : GoodIn big b) : GoodIn big (a ++ b) := fun w h => (List.mem_append.mp h).elim (ha w) (hb w)
theorem goodIn_ca {big a b : List Cond} {c : Cond} (ha : GoodIn big (c :: a)) (hb : GoodIn big b) : GoodIn big (c :: (a ++ b)) := fun w h => (List.mem_cons.mp h).elim (fun e => ha w (List.mem_cons.mpr (Or.inl e))) (fun h => (List.mem_append.mp h).elim (fun h => ha w (List.mem_cons.mpr (Or.inr h))) (hb w))
theorem goodIn_sub {big ws : List Cond} (hm : ∀ w ∈ ws, w ∈ big) (h : ws.all goodWord = true) : GoodIn big ws := fun w hw => ⟨hm w hw, good_of_word (List.all_eq_true.mp h w hw)⟩
/-! ===== END ===== -/

/-! ===== BEGIN new T[n][m]: the outer array a place, the inner ones among the pooled ===== -/
/-- f, but v at every address of l -/
def vr_up {α : Type} (f : Nat → α) (l : List Nat) (v : α) : Nat → α := fun a => if a ∈ l then v else f a
theorem vr_up_in {α : Type} {f : Nat → α} {l : List Nat} {v : α} {a : Nat} (h : a ∈ l) : vr_up f l v a = v := if_pos h
theorem vr_up_ne {α : Type} {f : Nat → α} {l : List Nat} {v : α} {a : Nat} (h : a ∉ l) : vr_up f l v a = f a := if_neg h
theorem vr_rows {L l : List Nat} {f : Nat → va_E} {e : va_E} (h : ∀ a, a ∈ l → a ∉ L) : va_pl L f ++ l.map (fun a => (a, e)) = va_pl (L ++ l) (vr_up f l e) := by
  unfold va_pl
  rw [List.map_append]
  congr 1
  · apply List.map_congr_left
    intro a ha
    rw [vr_up_ne (fun q => h a q ha)]
  · apply List.map_congr_left
    intro a ha
    rw [vr_up_in ha]
theorem vr_lay {X rows : va_W} {x : Nat × va_E} {pl : va_W} {D : va_G} {cl : List vw_C} {H : Heap} (hP : va_P D cl (((X ++ pl) ++ [x]) ++ rows) H) : va_P D cl ((X ++ [x]) ++ (pl ++ rows)) H := by
  rw [List.append_assoc (X ++ pl)] at hP
  have h := va_P.swap hP
  rw [← List.append_assoc X] at h
  have h2 := va_P.swap h
  rw [List.append_assoc (X ++ [x])] at h2
  exact h2
theorem vr_layD {X rows : va_W} {x : Nat × va_E} {pl : va_W} {A : Nat → Prop} (hD : va_D A (((X ++ pl) ++ [x]) ++ rows)) : va_D A ((X ++ [x]) ++ (pl ++ rows)) := by
  rw [List.append_assoc (X ++ pl)] at hD
  have h := va_D.swap hD
  rw [← List.append_assoc X] at h
  have h2 := va_D.swap h
  rw [List.append_assoc (X ++ [x])] at h2
  exact h2
theorem vr_outer (c : ClassId) (N h0 : Nat) : ∀ i : Nat, Jvm.Free.Multi.outerC c N h0 i = arrV c N (fun j => va_rf (if j < i then some (h0 + 1 + j) else none))
  | 0 => by
    show ({ cls := c, slots := Array.replicate N .null, vm := .none } : Cell) = _
    rw [arrV_new]
    refine congrArg (arrV c N) (funext fun j => ?_)
    simp [va_rf]
  | i + 1 => by
    show (Jvm.Free.Multi.outerC c N h0 i).setSlot i (.ref (h0 + 1 + i)) = _
    rw [vr_outer c N h0 i, arrV_store]
    refine congrArg (arrV c N) (funext fun j => ?_)
    by_cases e : j = i
    · subst e
      simp [updV, va_rf]
    · by_cases h : j < i
      · simp [updV, e, h, Nat.lt_succ_of_lt h]
      · simp [updV, e, h, show ¬ j < i + 1 by omega]
section VGM
variable {p : Program} {l : Launch} {e : Env} {R : Room} {s : State} {m : MethodId} {args : Array Value} {below : List Frame} {meth : Method} {c : Code} {H : Heap} {locs : List Loc} {cells slots : Nat} {Q : State → Prop}
variable {cc : ByteArray} {pc : Nat} {ls : Array Slot} {rest : List Value} {D : va_G} {cl : List vw_C} {A : Nat → Prop} {a : Nat} {tys : List (ClassId × FieldType)} {ws : va_W} {H0 : Heap}
theorem va_mna {X : va_W} {L : List Nat} {f : Nat → va_E} {cc : ByteArray} (hexec : p.tables.exec = Jvm.exec) (hb : c.code = cc) {own : String} {index : Nat} {ty : FieldType} {cy : ClassId} (hown : s.vm.findClass own = some m.cls) (hclink : (Cond.classLink own index ("[" ++ (FieldType.array ty).toString)).before args s = true) (hover : va_AOA ty s) (harr : (Cond.arrayClass ty).before args s = true) (hcy : s.vm.findClass (FieldType.array ty).toString = some cy)
    (hK : va_K D cl tys s) (hP : va_P D cl (X ++ va_pl L f) H) (hD : va_D A (X ++ va_pl L f)) (hS : va_S A H0 H locs) (hA : ∀ q, H0.size ≤ q → A q) {n k : Int32} {N' K' : Nat} {z : vp_A} (hn : ¬ n < 0) (hk : ¬ k < 0) (hN : n.toNatClampNeg = N') (hM : k.toNatClampNeg = K')
    (hb1 : N' * 4 ≤ 536870912) (hb2 : K' * componentBytes ty ≤ 536870912) (hb3 : K' ≤ 536870912) (hdf : fits ty (defaultValue ty) = true) (hdd : (defaultValue ty).isDefault = true) (hcells : cells + (1 + N') ≤ R.cells) (hslots : slots + (N' + N' * K') ≤ R.slots) (hz : ∀ c : ClassId, Jvm.Free.Multi.innerC c K' (defaultValue ty) = vp_cell c z) (hdg : decode cc pc = .ok (.multianewarray index 2, 4))
    (kk : ∀ (q : Nat) (r : Nat → Nat) (cA : ClassId) (H1 : Heap), (∀ i j : Nat, i < N' → j < N' → r i = r j → i = j) → (∀ i : Nat, i < N' → r i ∉ L) → va_K D cl (tys ++ [(cA, .array ty)]) s →
      va_P D cl ((X ++ [(q, .inl (cA, N', .inr (.inr (.inr (.inr (fun i => if i < N' then some (r i) else none))))))]) ++ va_pl (L ++ (List.range N').map r) (vr_up f ((List.range N').map r) (.inl (cy, z)))) H1 → va_D A ((X ++ [(q, .inl (cA, N', .inr (.inr (.inr (.inr (fun i => if i < N' then some (r i) else none))))))]) ++ va_pl (L ++ (List.range N').map r) (vr_up f ((List.range N').map r) (.inl (cy, z)))) → va_S A H0 H1 locs →
      W p l e R s m args below meth c H1 locs (cells + 1 + N') (slots + N' + N' * K') Q (F0 m (pc + 4) ls (.ref q :: rest))) : W p l e R s m args below meth c H locs cells slots Q (F0 m pc ls (.int k :: .int n :: rest)) := by
  subst hN
  subst hM
  intro T hT Xs
  obtain ⟨vm₁, cA, comp, -, fA, fC, hO, -, X', step⟩ := Xs.multianewarray2F hexec hown hclink (va_AOA.use hover) harr (g := F0 m pc ls (.int k :: .int n :: rest)) rfl (by rw [hb]; exact hdg) rfl hn hk hb1 hb2 hb3 hdf hdd hcells hslots
  have ec : some cy = some comp := hcy.symm.trans fC
  cases ec
  generalize hF : Jvm.Free.Multi.fill (T.setVm vm₁) cA cy n.toNatClampNeg k.toNatClampNeg (defaultValue ty) n.toNatClampNeg = F at X' step
  have hTh : (T.setVm vm₁).heap = H := hT
  obtain ⟨f1, f2, -, -⟩ := Jvm.Free.Multi.fill_facts (T.setVm vm₁) cA cy n.toNatClampNeg k.toNatClampNeg (defaultValue ty) n.toNatClampNeg
  rw [hF, hTh] at f1 f2
  have hold : ∀ x : Nat, x < H.size → F.heap[x]? = H[x]? := fun x hx => by
    have := Jvm.Free.Multi.fill_old (T.setVm vm₁) cA cy n.toNatClampNeg k.toNatClampNeg (defaultValue ty) (a := x) (by rw [hTh]; exact hx) n.toNatClampNeg
    rw [hF, hTh] at this
    exact this
  have hrow : ∀ j : Nat, j < n.toNatClampNeg → F.heap[H.size + 1 + j]? = some (vp_cell cy z) := fun j hj => by
    have := Jvm.Free.Multi.fill_inner (T.setVm vm₁) cA cy n.toNatClampNeg k.toNatClampNeg (defaultValue ty) n.toNatClampNeg j hj
    rw [hF, hTh, hz] at this
    exact this
  have hout : Jvm.Free.Multi.outerC cA n.toNatClampNeg H.size n.toNatClampNeg = vp_cell cA (n.toNatClampNeg, .inr (.inr (.inr (.inr (fun i => if i < n.toNatClampNeg then some (H.size + 1 + i) else none))))) := by
    rw [vp_cell_q]
    exact vr_outer cA n.toNatClampNeg H.size n.toNatClampNeg
  rw [hout] at f2
  have hlt : ∀ a, a ∈ L → a < H.size := fun a ha => by
    obtain ⟨k9, hk9⟩ := va_pl_get (X := X) (f := f) ha
    exact (hP k9 _ hk9).lt
  have hnl : ∀ i : Nat, i < n.toNatClampNeg → H.size + 1 + i ∉ L := fun i _ h => by
    have := hlt _ h
    omega
  have hnm : ∀ a, a ∈ (List.range n.toNatClampNeg).map (fun i => H.size + 1 + i) → a ∉ L := fun a ha h => by
    obtain ⟨i, -, rfl⟩ := List.mem_map.mp ha
    have := hlt _ h
    omega
  have hP0 : va_P D cl (X ++ va_pl L f) F.heap := hP.kept (fun k9 x hx => hold x.1 ((hP k9 x hx).lt))
  have hP1 : va_P D cl ((X ++ va_pl L f) ++ [(H.size, .inl (cA, n.toNatClampNeg, .inr (.inr (.inr (.inr (fun i => if i < n.toNatClampNeg then some (H.size + 1 + i) else none))))))]) F.heap := hP0.app (fun k9 x hx => by
    have h0 : k9 < 1 := (List.getElem?_eq_some_iff.mp hx).1
    rw [show k9 = 0 by omega] at hx
    cases hx
    exact f2)
  have hP2 : va_P D cl (((X ++ va_pl L f) ++ [(H.size, .inl (cA, n.toNatClampNeg, .inr (.inr (.inr (.inr (fun i => if i < n.toNatClampNeg then some (H.size + 1 + i) else none))))))]) ++ ((List.range n.toNatClampNeg).map (fun i => H.size + 1 + i)).map (fun a => (a, .inl (cy, z)))) F.heap := hP1.app (fun k9 x hx => by
    obtain ⟨a, ha, rfl⟩ := List.mem_map.mp (List.mem_of_getElem? hx)
    obtain ⟨i, hi, rfl⟩ := List.mem_map.mp ha
    exact hrow i (List.mem_range.mp hi))
  have hD2 : va_D A (((X ++ va_pl L f) ++ [(H.size, .inl (cA, n.toNatClampNeg, .inr (.inr (.inr (.inr (fun i => if i < n.toNatClampNeg then some (H.size + 1 + i) else none))))))]) ++ ((List.range n.toNatClampNeg).map (fun i => H.size + 1 + i)).map (fun a => (a, .inl (cy, z)))) := by
    have hD1 := hD.push (e := .inl (cA, n.toNatClampNeg, .inr (.inr (.inr (.inr (fun i => if i < n.toNatClampNeg then some (H.size + 1 + i) else none)))))) hP rfl (hA _ hS.1)
    generalize hW1 : (X ++ va_pl L f) ++ [(H.size, .inl (cA, n.toNatClampNeg, .inr (.inr (.inr (.inr (fun i => if i < n.toNatClampNeg then some (H.size + 1 + i) else none))))))] = W1 at hD1 hP1 ⊢
    have hle : ∀ (k9 : Nat) (x : Nat × va_E), W1[k9]? = some x → x.1 ≤ H.size := fun k9 x hx => by
      rw [← hW1] at hx
      by_cases hl : k9 < (X ++ va_pl L f).length
      · rw [List.getElem?_append_left hl] at hx
        exact Nat.le_of_lt ((hP k9 x hx).lt)
      · rw [List.getElem?_append_right (by omega)] at hx
        have h0 : k9 - (X ++ va_pl L f).length < 1 := (List.getElem?_eq_some_iff.mp hx).1
        rw [show k9 - (X ++ va_pl L f).length = 0 by omega] at hx
        cases hx
        exact Nat.le_refl _
    have hr : ∀ (k9 : Nat) (x : Nat × va_E), (((List.range n.toNatClampNeg).map (fun i => H.size + 1 + i)).map (fun a => ((a, .inl (cy, z)) : Nat × va_E)))[k9]? = some x → x.1 = H.size + 1 + k9 := fun k9 x hx => by
      rw [List.getElem?_map, List.getElem?_map] at hx
      by_cases h9 : k9 < n.toNatClampNeg
      · rw [List.getElem?_range h9] at hx
        cases hx
        rfl
      · have hn0 : (List.range n.toNatClampNeg)[k9]? = none := List.getElem?_eq_none (by rw [List.length_range]; omega)
        rw [hn0] at hx
        cases hx
    refine ⟨fun i j x y hi hj hxy => ?_, fun k9 x hx => ?_⟩
    · by_cases h1 : i < W1.length <;> by_cases h2 : j < W1.length
      · rw [List.getElem?_append_left h1] at hi
        rw [List.getElem?_append_left h2] at hj
        exact hD1.1 i j x y hi hj hxy
      · rw [List.getElem?_append_left h1] at hi
        rw [List.getElem?_append_right (by omega)] at hj
        have := hle _ _ hi
        have := hr _ _ hj
        omega
      · rw [List.getElem?_append_right (by omega)] at hi
        rw [List.getElem?_append_left h2] at hj
        have := hle _ _ hj
        have := hr _ _ hi
        omega
      · rw [List.getElem?_append_right (by omega)] at hi hj
        have := hr _ _ hi
        have := hr _ _ hj
        omega
    · by_cases h1 : k9 < W1.length
      · rw [List.getElem?_append_left h1] at hx
        exact hD1.2 k9 x hx
      · rw [List.getElem?_append_right (by omega)] at hx
        have := hr _ _ hx
        exact hA _ (by have := hS.1; omega)
  have hAr : ArrOfT s cA (.array ty) := fun N9 z9 => by
    obtain ⟨-, k9, hk9, cm9, hkk9⟩ := (hO 0 0 0).1
    exact ⟨(fun q hq => by cases hq), k9, hk9, cm9, hkk9⟩
  have hK2 : va_K D cl (tys ++ [(cA, .array ty)]) s := ⟨hK.1, fun k9 x hx => by
    by_cases hl : k9 < tys.length
    · rw [List.getElem?_append_left hl] at hx
      exact hK.2 k9 x hx
    · rw [List.getElem?_append_right (by omega)] at hx
      have h0 : k9 - tys.length < 1 := (List.getElem?_eq_some_iff.mp hx).1
      rw [show k9 - tys.length = 0 by omega] at hx
      cases hx
      exact ⟨hAr, fA⟩⟩
  obtain ⟨t, a1, b1⟩ := kk H.size (fun i => H.size + 1 + i) cA F.heap (fun i j _ _ h => by have h9 : H.size + 1 + i = H.size + 1 + j := h; omega) hnl hK2 (by rw [← vr_rows hnm]; exact vr_lay hP2) (by rw [← vr_rows hnm]; exact vr_layD hD2) ⟨by rw [f1]; have := hS.1; omega, fun x h1 h2 => (hold x (Nat.lt_of_lt_of_le h1 hS.1)).trans (hS.2.1 x h1 h2), hS.2.2⟩ F rfl X'
  refine ⟨t, step t ?_, b1⟩
  have e : T.heap.size = H.size := by rw [hT]
  rw [e]
  exact a1
end VGM
/-! ===== END ===== -/

/-! ===== BEGIN exceptions that leave a method, and their catching by the caller (launches without stack traces) ===== -/
section VXA
/-! The laws vx_back, vx_callV, vx_callS, vx_callSW, vx_throw0, vx_throwS follow proofs of the library, with one case more: JvmDerived/Free/Laws.lean (Back.of_free), Shelf42/LK1.lean (callV, callS), Shelf/KitTraced.lean (throwNew0V, throwNewS). -/
/-- where a method has thrown q: the class by its name, the cell, what was written, the world -/
def vx_T (XC : String → State → State → Prop) (st : State) (q : Addr) (t : State) (mc ms : Nat) (free : Addr → Prop) : Prop :=
  ∃ (E : String) (ce : Cell) (L : List Loc), XC E st t ∧ t.heap[q]? = some ce ∧ ce.vm = .none ∧ st.vm.findClass E = some ce.cls ∧ st.WarmedH t.vm ∧ st.sameButNew ({ t with vm := st.vm } : State) L mc ms ∧ ∀ z ∈ L, free z.base
def vx_Q (Qc : Array Value → State → Outcome → State → Prop) (XC : String → State → State → Prop) (mc ms : Nat) (free : Addr → Prop) : Array Value → State → Outcome → State → Prop := fun a st o t =>
  (Qc a st o t ∧ ∃ L, FrameEnd st o t L mc ms ∧ ∀ q ∈ L, free q.base) ∨ ∃ q, o = .threw q ∧ vx_T XC st q t mc ms free
/-- a callee that returns or throws -/
def vx_Met (l : Launch) (y : MethodName) (ws : List Cond) (rm : Room) (Pc : Array Value → State → Prop) (Qc : Array Value → State → Outcome → State → Prop) (XC : String → State → State → Prop) (mc ms : Nat) (free : Addr → Prop) : Prop :=
  MetFree l y (headSpec ws rm) Pc (fun _ _ _ _ _ => True) (vx_Q Qc XC mc ms free)
def vx_Post (XC : String → State → State → Prop) (mc ms : Nat) (free : Addr → Prop) : Pt → Array Value → Addr → Pt → Prop := fun A a q B =>
  ∃ (g : JFrame) (mk : MethodId) (t : State) (L : List Loc) (E : String) (ce : Cell), B.U.heap = t.heap ∧ B.U.vm = t.vm ∧ XC E (A.U.calling g mk a) t ∧ t.heap[q]? = some ce ∧ ce.vm = .none ∧ A.U.vm.findClass E = some ce.cls ∧ B.locs = A.locs ++ L ∧ (∀ z ∈ L, free z.base) ∧ B.cells = A.cells + mc ∧ B.slots = A.slots + ms
def vx_Back (l : Launch) (R : Room) (p : Program) (e : Env) (below : List Frame) (s : State) (sargs : Array Value) (y : MethodName) (len W9 : Nat)
    (Pre : Pt → Array Value → Prop) (Post : Pt → Array Value → Option Value → Pt → Prop) (PostX : Pt → Array Value → Addr → Pt → Prop) : Prop :=
  ∀ (m : MethodId) (meth : Method) (c : Code) (A : Pt) (g : JFrame) (ig : Instr) (mk : MethodId) (a : Array Value),
    Stand p l e R s m sargs below meth c A.U A.locs A.cells A.slots → g.method = m → g.locals.size = c.maxLocals → decode c.code g.pc = .ok (ig, len) →
    2 * g.monitorRoom + (g.stack.map fun v => v.category).sum ≤ W9 → A.U.methodNamed? y = some mk → Pre A a →
    (∃ (v : Option Value) (B : Pt), Stand p l e R s m sargs below meth c B.U B.locs B.cells B.slots ∧ Post A a v B ∧
      Steps p.tables e below (doInvoke e (A.U.setTop g) [] mk a).1 (B.U.setTop { g with pc := g.pc + len, stack := v.toList ++ g.stack })) ∨
    (∃ (q : Addr) (B : Pt), Stand p l e R s m sargs below meth c B.U B.locs B.cells B.slots ∧ PostX A a q B ∧
      Steps p.tables e below (doInvoke e (A.U.setTop g) [] mk a).1 ((B.U.setTop g).pushFrame (.throwing q)))
section Payer
variable {l : Launch} {R : Room} {p : Program} {e : Env} {below : List Frame} {s : State} {sargs : Array Value} {y : MethodName} {len W9 : Nat}
theorem vx_back {ws : List Cond} {rm : Room} {Pc : Array Value → State → Prop} {Qc : Array Value → State → Outcome → State → Prop} {XC : String → State → State → Prop} {mc ms : Nat} {free : Addr → Prop} {bytes : ByteArray} {maxL : Nat} {ret : Option FieldType}
    (hM : vx_Met l y ws rm Pc Qc XC mc ms free) (hblind : FrameBlind Pc) (hrc : rm.cells = mc) (hrs : rm.slots = ms)
    (hframes : rm.frames + 1 ≤ R.frames) (hlocals : W9 + (maxL + 11) + rm.locals ≤ R.locals)
    (hws : ∀ w ∈ ws, ∀ a' U, s.WarmedH U.vm → w.before a' U = true) (hcode : Cond.code y bytes maxL ret ∈ ws) (hinit : ∀ a' U, s.WarmedH U.vm → (Cond.initialized y.cls).before a' U = true) :
    vx_Back l R p e below s sargs y len W9 (PreOf R mc ms Pc) (PostOf Qc mc ms free) (vx_Post XC mc ms free) := by
  intro m meth c A g ig mk a X hg hsize hdg hW hn hp
  have h1 : (headSpec ws rm).pre.before a A.U = true := atoms_intro fun w hw => hws w hw _ _ X.warmed
  have h2 : (Cond.code y bytes maxL ret).before a A.U = true := hws _ hcode _ _ X.warmed
  have h3 : (Cond.initialized y.cls).before a A.U = true := hinit _ _ X.warmed
  have h4 : A.cells + (headSpec ws rm).room.cells ≤ R.cells := by rw [show (headSpec ws rm).room.cells = mc from hrc]; exact hp.1
  have h5 : A.slots + (headSpec ws rm).room.slots ≤ R.slots := by rw [show (headSpec ws rm).room.slots = ms from hrs]; exact hp.2.1
  have hPc : Pc a (A.U.calling g mk a) := hblind _ _ _ _ hp.2.2
  obtain ⟨U, Ls, c0, s0⟩ := A
  dsimp only [Pt.U, Pt.locs, Pt.cells, Pt.slots] at h1 h2 h3 h4 h5 X hn hPc ⊢
  obtain ⟨methY, cY, hmY, hcY, -, hlY, -, -, -, -⟩ := Cond.code_spec hn h2
  obtain ⟨kY, hkY, -⟩ := className_of_methodNamed hn
  have hinitY : kY.init = .initialized := Cond.initialized_spec (findClass_of_methodNamed hn) hkY h3
  have h : At U g.method c below := by rw [hg]; exact X.here
  have hlocals9 : W9 + (maxL + 11) + (headSpec ws rm).room.locals ≤ R.locals := hlocals
  have happ : (headSpec ws rm).appliesLoose y e.platform (U.calling g mk a) = true :=
    Spec.appliesLoose_calling (g := g) h hdg hn hkY hinitY
      (X.room_calling (g := g) (R' := (headSpec ws rm).room) hsize hmY hcY hframes (by rw [hlY]; omega) h4 h5) h1
  obtain ⟨mid, hmid⟩ := h.above
  have hfr : (U.setTop g).frames = (.java g :: mid) ++ below := by rw [State.frames_setTop' g h.top, hmid]; rfl
  obtain ⟨o, s₂, hsteps, -, hend, hq⟩ := Steps.callFree hM p X.admits X.cas X.clock (acts := []) hfr happ hPc trivial
  have hq' : vx_Q Qc XC mc ms free a (U.calling g mk a) o s₂ := hq
  rw [State.frames_setTop' g h.top] at hend
  obtain ⟨g₀, hg0⟩ := Option.isSome_iff_exists.mp h.top
  obtain ⟨r, hr⟩ := State.topJava?_eq_some.mp hg0
  have hr' : (({ U with heap := s₂.heap, slotsUsed := s₂.slotsUsed } : State).setVm s₂.vm).frames = .java g₀ :: r := hr
  rcases hq' with ⟨hqc, L, hfe, hL⟩ | ⟨q, rfl, E, ce, L, hx, hce, hcv, hcl, hW₂, hsm, hL⟩
  · obtain ⟨⟨v, rfl⟩, hW₂, e2, q2, q3, q4, q5, q6⟩ := id hfe
    have e3 : s₂ = ({ (U.calling g mk a).setFrames s₂.frames with heap := s₂.heap, slotsUsed := s₂.slotsUsed } : State).setVm s₂.vm := by
      have : s₂ = ({ s₂ with vm := (U.calling g mk a).vm } : State).setVm s₂.vm := rfl
      rw [e2] at this
      exact this
    obtain ⟨c₂, i₂, len₂, hc₂, hd₂, hf₂⟩ := hend
    have hW' : U.WarmedH s₂.vm := hW₂
    have hcc : c₂ = c := by
      have h1 : s₂.code? g.method = U.code? g.method := by
        rw [State.code?_eq, State.code?_eq, hW'.alike.method?]
      exact Option.some.inj (hc₂.symm.trans (h1.trans h.code))
    subst hcc
    have hlen : len₂ = len := by rw [hdg] at hd₂; cases hd₂; rfl
    subst hlen
    have hs₂ : s₂ = (({ U with heap := s₂.heap, slotsUsed := s₂.slotsUsed } : State).setVm s₂.vm).setTop { g with pc := g.pc + len₂, stack := v.toList ++ g.stack } := by
      refine e3.trans ?_
      rw [hf₂, State.calling_eq h.top, State.setFrames_setFrames, State.setTop_of_frames _ hr', hr]
      rfl
    have hsame : U.sameButNew ({ U with heap := s₂.heap, slotsUsed := s₂.slotsUsed } : State) L mc ms := by
      refine ⟨?_, q2, q3, q4, q5, q6⟩
      obtain ⟨t, ht, -⟩ := State.frames_cons hr
      show ({ U with heap := s₂.heap, slotsUsed := s₂.slotsUsed } : State) = { U.setFrames U.frames with heap := s₂.heap, slotsUsed := s₂.slotsUsed }
      rw [State.setFrames_self ht]
    subst hg
    refine Or.inl ⟨v, ⟨(({ U with heap := s₂.heap, slotsUsed := s₂.slotsUsed } : State).setVm s₂.vm), Ls ++ L, c0 + mc, s0 + ms⟩,
      ⟨X.admits, X.cas, X.clock, X.frames, X.room, X.hears, X.method, X.code, (X.here.setHeapUsed s₂.heap s₂.slotsUsed).setVm hW'.alike, X.tail, State.WarmedH.trans X.warmed hW', X.limits, X.bytes, X.same.trans (hsame.setVm s.vm)⟩,
      ⟨g, mk, s₂, L, rfl, rfl, hqc, rfl, hL, rfl, rfl⟩, ?_⟩
    show Steps p.tables e below _ ((({ U with heap := s₂.heap, slotsUsed := s₂.slotsUsed } : State).setVm s₂.vm).setTop { g with pc := g.pc + len₂, stack := v.toList ++ g.stack })
    rw [← hs₂]
    exact hsteps
  · obtain ⟨e2, q2, q3, q4, q5, q6⟩ := id hsm
    have e3 : s₂ = ({ (U.calling g mk a).setFrames s₂.frames with heap := s₂.heap, slotsUsed := s₂.slotsUsed } : State).setVm s₂.vm := by
      have : s₂ = ({ s₂ with vm := (U.calling g mk a).vm } : State).setVm s₂.vm := rfl
      rw [e2] at this
      exact this
    have hf₂ : s₂.frames = .throwing q :: .java g :: U.frames.tail := hend
    have hW' : U.WarmedH s₂.vm := hW₂
    have hs₂ : s₂ = ((({ U with heap := s₂.heap, slotsUsed := s₂.slotsUsed } : State).setVm s₂.vm).setTop g).pushFrame (.throwing q) := by
      refine e3.trans ?_
      rw [hf₂, State.calling_eq h.top, State.setFrames_setFrames, State.pushFrame, State.frames_setTop _ hr', State.setTop_of_frames _ hr', State.setFrames_setFrames, hr]
      rfl
    have hsame : U.sameButNew ({ U with heap := s₂.heap, slotsUsed := s₂.slotsUsed } : State) L mc ms := by
      refine ⟨?_, q2, q3, q4, q5, q6⟩
      obtain ⟨t, ht, -⟩ := State.frames_cons hr
      show ({ U with heap := s₂.heap, slotsUsed := s₂.slotsUsed } : State) = { U.setFrames U.frames with heap := s₂.heap, slotsUsed := s₂.slotsUsed }
      rw [State.setFrames_self ht]
    subst hg
    refine Or.inr ⟨q, ⟨(({ U with heap := s₂.heap, slotsUsed := s₂.slotsUsed } : State).setVm s₂.vm), Ls ++ L, c0 + mc, s0 + ms⟩,
      ⟨X.admits, X.cas, X.clock, X.frames, X.room, X.hears, X.method, X.code, (X.here.setHeapUsed s₂.heap s₂.slotsUsed).setVm hW'.alike, X.tail, State.WarmedH.trans X.warmed hW', X.limits, X.bytes, X.same.trans (hsame.setVm s.vm)⟩,
      ⟨g, mk, s₂, L, E, ce, rfl, rfl, hx, hce, hcv, hcl, rfl, hL, rfl, rfl⟩, ?_⟩
    show Steps p.tables e below _ (((({ U with heap := s₂.heap, slotsUsed := s₂.slotsUsed } : State).setVm s₂.vm).setTop g).pushFrame (.throwing q))
    rw [← hs₂]
    exact hsteps
end Payer
section Calls
variable {p : Program} {l : Launch} {e : Env} {R : Room} {s : State} {m : MethodId} {args : Array Value} {below : List Frame} {meth : Method} {c : Code} {T : State} {locs : List Loc} {cells slots : Nat}
theorem vx_callV (X : Stand p l e R s m args below meth c T locs cells slots) (hexec : p.tables.exec = Jvm.exec) {own C : String} {index : Nat} {y : MethodName} {bytes : ByteArray} {maxL : Nat} {ret : Option FieldType}
    (hown : s.vm.findClass own = some m.cls) (hlink : (Cond.methodLink own index y).before args s = true) (hinst : (Cond.instanceMethod y).before args s = true) (hsel : (Cond.selects C y y).before args s = true)
    (hcode : (Cond.code y bytes maxL ret).before args s = true) (hy : y.cls ≠ "java/lang/invoke/MethodHandle" ∧ y.cls ≠ "java/lang/invoke/VarHandle")
    {W9 : Nat} {Pre : Pt → Array Value → Prop} {Post : Pt → Array Value → Option Value → Pt → Prop} {PostX : Pt → Array Value → Addr → Pt → Prop} (hK : vx_Back l R p e below s args y 3 W9 Pre Post PostX)
    {b : Addr} {cellB : Cell} (hcell : T.heap[b]? = some cellB) (hobj : cellB.vm.isStatics = false) (hcls : s.vm.findClass C = some cellB.cls)
    {g : JFrame} (hg : g.method = m) (hsize : g.locals.size = c.maxLocals) {argsL rest : List Value} (hlen : ∀ sig, parseMethodDescriptor y.desc = some sig → argsL.length = sig.parameters.length)
    (hstack : g.stack = argsL.reverse ++ .ref b :: rest) (hW : 2 * g.monitorRoom + (rest.map fun v => v.category).sum ≤ W9) (hdg : decode c.code g.pc = .ok (.invokevirtual index, 3))
    (hpre : ∀ vm₁, s.WarmedH vm₁ → Pre ⟨T.setVm vm₁, locs, cells, slots⟩ (Value.ref b :: argsL).toArray) :
    (∃ (v : Option Value) (vm₁ : Vm) (B : Pt), s.WarmedH vm₁ ∧ Stand p l e R s m args below meth c B.U B.locs B.cells B.slots ∧ Post ⟨T.setVm vm₁, locs, cells, slots⟩ (Value.ref b :: argsL).toArray v B ∧
      ∀ target, Steps p.tables e below (B.U.setTop { g with pc := g.pc + 3, stack := v.toList ++ rest }) target → Steps p.tables e below (T.setTop g) target) ∨
    (∃ (q : Addr) (vm₁ : Vm) (B : Pt), s.WarmedH vm₁ ∧ Stand p l e R s m args below meth c B.U B.locs B.cells B.slots ∧ PostX ⟨T.setVm vm₁, locs, cells, slots⟩ (Value.ref b :: argsL).toArray q B ∧
      Steps p.tables e below (T.setTop g) ((B.U.setTop { g with stack := rest }).pushFrame (.throwing q))) := by
  obtain ⟨mk, methM, hnamed, hmethM, hstM, habM⟩ := Cond.instanceMethod_spec hinst
  obtain ⟨methM', cM, hmethM', -, -, -, -, -, -, hsigM⟩ := Cond.code_spec hnamed hcode
  cases hmethM.symm.trans hmethM'
  obtain ⟨c2, r2, m2, q1, q2, q3, q4, kP, hkP, hkPi⟩ := Cond.selects_spec hsel
  cases hcls.symm.trans q1
  cases (State.methodFound?_of_named hnamed hy).symm.trans q2
  cases hnamed.symm.trans q3
  have hselP : selectMethod e.platform s.vm cellB.cls mk = .method mk := by rw [Launch.admits_selectMethod X.admits]; exact q4
  obtain ⟨vm₁, X₁, hstep₁⟩ := X.invokevirtual hexec hown hlink hnamed hmethM hstM hkP hkPi hy (a := b) (cell := cellB) hcell
    (fun z h => by rw [h] at hobj; cases hobj) hselP hmethM habM hkP hkPi (g := g) hg (argsL := argsL) (rest := rest) (hlen _ hsigM) hstack hdg
  rcases hK m meth c ⟨T.setVm vm₁, locs, cells, slots⟩ { g with stack := rest } (.invokevirtual index) mk (Value.ref b :: argsL).toArray X₁ hg hsize hdg hW (X₁.named hnamed) (hpre vm₁ X₁.warmed) with ⟨v, B, X', hpost, hsteps⟩ | ⟨q, B, X', hpost, hsteps⟩
  · exact Or.inl ⟨v, vm₁, B, X₁.warmed, X', hpost, fun target h => hstep₁ _ fun acts => by rw [doInvoke_state]; exact hsteps.trans h⟩
  · exact Or.inr ⟨q, vm₁, B, X₁.warmed, X', hpost, hstep₁ _ fun acts => by rw [doInvoke_state]; exact hsteps⟩
theorem vx_callS (X : Stand p l e R s m args below meth c T locs cells slots) (hexec : p.tables.exec = Jvm.exec) {own : String} {index : Nat} {y : MethodName} {bytes : ByteArray} {maxL : Nat} {ret : Option FieldType}
    (hown : s.vm.findClass own = some m.cls) (hlink : (Cond.methodLink own index y).before args s = true) (hstat : (Cond.static y).before args s = true) (hinit : (Cond.initialized y.cls).before args s = true)
    (hcode : (Cond.code y bytes maxL ret).before args s = true) (hy : y.cls ≠ "java/lang/invoke/MethodHandle" ∧ y.cls ≠ "java/lang/invoke/VarHandle")
    {W9 : Nat} {Pre : Pt → Array Value → Prop} {Post : Pt → Array Value → Option Value → Pt → Prop} {PostX : Pt → Array Value → Addr → Pt → Prop} (hK : vx_Back l R p e below s args y 3 W9 Pre Post PostX)
    {g : JFrame} (hg : g.method = m) (hsize : g.locals.size = c.maxLocals) {argsL rest : List Value} (hlen : ∀ sig, parseMethodDescriptor y.desc = some sig → argsL.length = sig.parameters.length)
    (hstack : g.stack = argsL.reverse ++ rest) (hW : 2 * g.monitorRoom + (rest.map fun v => v.category).sum ≤ W9) (hdg : decode c.code g.pc = .ok (.invokestatic index, 3))
    (hpre : ∀ vm₁, s.WarmedH vm₁ → Pre ⟨T.setVm vm₁, locs, cells, slots⟩ argsL.toArray) :
    (∃ (v : Option Value) (vm₁ : Vm) (B : Pt), s.WarmedH vm₁ ∧ Stand p l e R s m args below meth c B.U B.locs B.cells B.slots ∧ Post ⟨T.setVm vm₁, locs, cells, slots⟩ argsL.toArray v B ∧
      ∀ target, Steps p.tables e below (B.U.setTop { g with pc := g.pc + 3, stack := v.toList ++ rest }) target → Steps p.tables e below (T.setTop g) target) ∨
    (∃ (q : Addr) (vm₁ : Vm) (B : Pt), s.WarmedH vm₁ ∧ Stand p l e R s m args below meth c B.U B.locs B.cells B.slots ∧ PostX ⟨T.setVm vm₁, locs, cells, slots⟩ argsL.toArray q B ∧
      Steps p.tables e below (T.setTop g) ((B.U.setTop { g with stack := rest }).pushFrame (.throwing q))) := by
  obtain ⟨mk, hnamed⟩ := Cond.code_named hcode
  obtain ⟨methM, cM, hmethM, -, -, -, -, -, -, hsigM⟩ := Cond.code_spec hnamed hcode
  have hstatic : methM.isStatic = true := Cond.static_spec hnamed hmethM hstat
  obtain ⟨kP, hkP, -⟩ := className_of_methodNamed hnamed
  have hinitP : kP.init = .initialized := Cond.initialized_spec (findClass_of_methodNamed hnamed) hkP hinit
  obtain ⟨vm₁, X₁, hstep₁⟩ := X.invokestatic hexec hown hlink hnamed hmethM hstatic hkP hinitP hy (g := g) hg (argsL := argsL) (rest := rest) (hlen _ hsigM) hstack hdg
  rcases hK m meth c ⟨T.setVm vm₁, locs, cells, slots⟩ { g with stack := rest } (.invokestatic index) mk argsL.toArray X₁ hg hsize hdg hW (X₁.named hnamed) (hpre vm₁ X₁.warmed) with ⟨v, B, X', hpost, hsteps⟩ | ⟨q, B, X', hpost, hsteps⟩
  · exact Or.inl ⟨v, vm₁, B, X₁.warmed, X', hpost, fun target h => hstep₁ _ fun acts => by rw [doInvoke_state]; exact hsteps.trans h⟩
  · exact Or.inr ⟨q, vm₁, B, X₁.warmed, X', hpost, hstep₁ _ fun acts => by rw [doInvoke_state]; exact hsteps⟩
end Calls
theorem vx_cls {s : State} {T : State} {vm₁ : Vm} {E : String} {k : ClassId} (hW : s.WarmedH vm₁) (h : (T.setVm vm₁).vm.findClass E = some k) : s.vm.findClass E = some k := by
  have h1 : vm₁.findClass E = some k := h
  rw [hW.alike.findClass] at h1
  exact h1
/-- the method's frame g, with q thrown over it -/
def vx_W (p : Program) (l : Launch) (e : Env) (R : Room) (s : State) (m : MethodId) (args : Array Value) (below : List Frame) (meth : Method) (c : Code) (H : Heap) (locs : List Loc) (cells slots : Nat) (Q : State → Prop) (g : JFrame) (q : Addr) : Prop :=
  ∀ T : State, T.heap = H → Stand p l e R s m args below meth c T locs cells slots → ∃ t, Steps p.tables e below ((T.setTop g).pushFrame (.throwing q)) t ∧ Q t
def vx_Run (p : Program) (l : Launch) (e : Env) (R : Room) (s : State) (m : MethodId) (args : Array Value) (below : List Frame) (meth : Method) (c : Code) (H : Heap) (locs : List Loc) (cells slots mc ms : Nat) (g : JFrame) (rest : List Value) (Qa : State → Outcome → State → Prop) (XC : String → State → State → Prop) (free : Addr → Prop) : Prop :=
  ∀ T : State, T.heap = H → Stand p l e R s m args below meth c T locs cells slots →
    (∃ (v : Option Value) (st₀ t T' : State) (L : List Loc), st₀.heap = H ∧ Stand p l e R s m args below meth c T' (locs ++ L) (cells + mc) (slots + ms) ∧ (∀ q ∈ L, free q.base) ∧ T'.heap = t.heap ∧ T'.vm = t.vm ∧ Qa st₀ (.returned v) t ∧
      Goes p e below T g T' { g with pc := g.pc + 3, stack := v.toList ++ rest }) ∨
    (∃ (q : Addr) (st₀ t T' : State) (L : List Loc) (E : String) (ce : Cell), st₀.heap = H ∧ Stand p l e R s m args below meth c T' (locs ++ L) (cells + mc) (slots + ms) ∧ (∀ z ∈ L, free z.base) ∧ T'.heap = t.heap ∧ T'.vm = t.vm ∧ XC E st₀ t ∧ t.heap[q]? = some ce ∧ ce.vm = .none ∧ s.vm.findClass E = some ce.cls ∧
      Steps p.tables e below (T.setTop g) ((T'.setTop { g with stack := rest }).pushFrame (.throwing q)))
def vx_X {S : Type} (px : S → Prop) (B : String → S → State → Prop) (A : Nat → Prop) : String → State → State → Prop := fun E st t => ∃ u : S, px u ∧ B E u t ∧ va_F A st t
section Runs
variable {p : Program} {l : Launch} {e : Env} {R : Room} {s : State} {m : MethodId} {args : Array Value} {below : List Frame} {meth : Method} {c : Code} {H : Heap} {locs : List Loc} {cells slots : Nat}
variable {y : MethodName} {bytes cc : ByteArray} {maxL nL mc ms n index : Nat} {ret : Option FieldType} {ws : List Cond} {rm : Room} {Pc : Array Value → State → Prop} {Qc : Array Value → State → Outcome → State → Prop} {XC : String → State → State → Prop} {free : Addr → Prop} {Ts : List Cond} {own C : String} {b : Addr} {As rest : List Value} {g : JFrame}
theorem vx_callBack (cb : CallB R s args own index y bytes maxL ret ws rm mc ms n) (hM : vx_Met l y ws rm Pc Qc XC mc ms free) (hbl : FrameBlind Pc) : vx_Back l R p e below s args y 3 8 (PreOf R mc ms Pc) (PostOf Qc mc ms free) (vx_Post XC mc ms free) := by
  obtain ⟨hrc, hrs, hfr, hlo, hws, hcw, -, hini, -⟩ := cb
  exact vx_back (bytes := bytes) (maxL := maxL) (ret := ret) hM hbl hrc hrs hfr hlo hws hcw (fun a' U hW => word_at hW (Or.inl (by first | rfl | simp [Cond.onTables, Cond.keeps, Cond.steady])) hini)
theorem vx_runV (S : CallFix p m c cc nL s args Ts own) (hM : vx_Met l y ws rm Pc Qc XC mc ms free) (cw : CallW R s args own C index y bytes maxL ret ws rm mc ms n) (hp : PreV s H C b Pc As)
    (hg : g.method = m) (hn : As.length = n) (hsize : g.locals.size = nL) (hstack : g.stack = As.reverse ++ .ref b :: rest) (hW : 2 * g.monitorRoom + (rest.map fun v => v.category).sum ≤ 8) (hdg : decode cc g.pc = .ok (.invokevirtual index, 3)) (hf : cells + mc ≤ R.cells ∧ slots + ms ≤ R.slots) :
    vx_Run p l e R s m args below meth c H locs cells slots mc ms g rest (Qc (Value.ref b :: As).toArray) XC free := by
  have hK : vx_Back l R p e below s args y 3 8 (PreOf R mc ms Pc) (PostOf Qc mc ms free) (vx_Post XC mc ms free) := vx_callBack cw.1 hM hp.1
  obtain ⟨⟨-, -, -, -, -, -, hcode, -, hy, hlen, hl⟩, hin, hse⟩ := cw
  obtain ⟨hx, hb, hml, ho, -⟩ := S
  obtain ⟨-, ⟨cellB, hcB, hoB, hclB⟩, hPc⟩ := hp
  intro T hT X
  rcases vx_callV X hx (C := C) (bytes := bytes) (maxL := maxL) (ret := ret) ho hl hin hse hcode hy hK (by rw [hT]; exact hcB) hoB hclB hg (hsize.trans hml.symm) (argsL := As) (rest := rest) (fun sig h => hn.trans (hlen sig h)) hstack hW (by rw [hb]; exact hdg)
    (fun vm₁ hW₁ => ⟨hf.1, hf.2, hPc (T.setVm vm₁) hT hW₁⟩) with ⟨v, vm₁, ⟨U', l2, c2, s2⟩, hW₁, X', ⟨g', mk, t, L, e1, e2, hq, h1, hL, h2, h3⟩, st⟩ | ⟨q, vm₁, ⟨U', l2, c2, s2⟩, hW₁, X', ⟨g', mk, t, L, E, ce, e1, e2, hq, hce, hcv, hcl, h1, hL, h2, h3⟩, st⟩
  · dsimp only [Pt.U, Pt.locs, Pt.cells, Pt.slots] at X' e1 e2 h1 h2 h3 st
    subst h1; subst h2; subst h3
    exact Or.inl ⟨v, (T.setVm vm₁).calling g' mk (Value.ref b :: As).toArray, t, U', L, hT, X', hL, e1, e2, hq, st⟩
  · dsimp only [Pt.U, Pt.locs, Pt.cells, Pt.slots] at X' e1 e2 h1 h2 h3 st hcl
    subst h1; subst h2; subst h3
    exact Or.inr ⟨q, (T.setVm vm₁).calling g' mk (Value.ref b :: As).toArray, t, U', L, E, ce, hT, X', hL, e1, e2, hq, hce, hcv, vx_cls hW₁ hcl, st⟩
theorem vx_runS (S : CallFix p m c cc nL s args Ts own) (hM : vx_Met l y ws rm Pc Qc XC mc ms free) (cw : CallB R s args own index y bytes maxL ret ws rm mc ms n ∧ (Cond.static y).before args s = true) (hp : PreS s H Pc As)
    (hg : g.method = m) (hn : As.length = n) (hsize : g.locals.size = nL) (hstack : g.stack = As.reverse ++ rest) (hW : 2 * g.monitorRoom + (rest.map fun v => v.category).sum ≤ 8) (hdg : decode cc g.pc = .ok (.invokestatic index, 3)) (hf : cells + mc ≤ R.cells ∧ slots + ms ≤ R.slots) :
    vx_Run p l e R s m args below meth c H locs cells slots mc ms g rest (Qc As.toArray) XC free := by
  have hK : vx_Back l R p e below s args y 3 8 (PreOf R mc ms Pc) (PostOf Qc mc ms free) (vx_Post XC mc ms free) := vx_callBack cw.1 hM hp.1
  obtain ⟨⟨-, -, -, -, -, -, hcode, hini, hy, hlen, hl⟩, hstt⟩ := cw
  obtain ⟨hx, hb, hml, ho, -⟩ := S
  intro T hT X
  rcases vx_callS X hx (bytes := bytes) (maxL := maxL) (ret := ret) ho hl hstt hini hcode hy hK hg (hsize.trans hml.symm) (argsL := As) (rest := rest) (fun sig h => hn.trans (hlen sig h)) hstack hW (by rw [hb]; exact hdg)
    (fun vm₁ hW₁ => ⟨hf.1, hf.2, hp.2 (T.setVm vm₁) hT hW₁⟩) with ⟨v, vm₁, ⟨U', l2, c2, s2⟩, hW₁, X', ⟨g', mk, t, L, e1, e2, hq, h1, hL, h2, h3⟩, st⟩ | ⟨q, vm₁, ⟨U', l2, c2, s2⟩, hW₁, X', ⟨g', mk, t, L, E, ce, e1, e2, hq, hce, hcv, hcl, h1, hL, h2, h3⟩, st⟩
  · dsimp only [Pt.U, Pt.locs, Pt.cells, Pt.slots] at X' e1 e2 h1 h2 h3 st
    subst h1; subst h2; subst h3
    exact Or.inl ⟨v, (T.setVm vm₁).calling g' mk As.toArray, t, U', L, hT, X', hL, e1, e2, hq, st⟩
  · dsimp only [Pt.U, Pt.locs, Pt.cells, Pt.slots] at X' e1 e2 h1 h2 h3 st hcl
    subst h1; subst h2; subst h3
    exact Or.inr ⟨q, (T.setVm vm₁).calling g' mk As.toArray, t, U', L, E, ce, hT, X', hL, e1, e2, hq, hce, hcv, vx_cls hW₁ hcl, st⟩
end Runs
section Rows
variable {p : Program} {l : Launch} {e : Env} {R : Room} {s : State} {m : MethodId} {args : Array Value} {below : List Frame} {meth : Method} {c : Code} {H : Heap} {locs : List Loc} {cells slots : Nat} {Q : State → Prop}
variable {mc ms : Nat} {free : Addr → Prop} {A0 A1 : Nat → Prop} {H0 : Heap} {a : Array Value} {pc : Nat} {ls : Array Slot} {st0 rest : List Value}
theorem vx_keep {st₀ t T' : State} {L : List Loc} (h0 : st₀.heap = H) (e1 : T'.heap = t.heap) (hS : va_S A0 H0 H locs) (hA : ∀ q, q < H.size → A1 q → A0 q) (hf : ∀ q, free q → A0 q) (hL : ∀ q ∈ L, free q.base) (hF : va_F A1 st₀ t) :
    H.size ≤ T'.heap.size ∧ (∀ q : Nat, q < H.size → ¬ A1 q → T'.heap[q]? = H[q]?) ∧ va_S A0 H0 T'.heap (locs ++ L) := by
  obtain ⟨hz, hk⟩ := hF
  rw [h0] at hz hk
  exact ⟨by rw [e1]; exact hz, fun q h1 h2 => by rw [e1]; exact hk q h1 h2,
    ⟨Nat.le_trans hS.1 (by rw [e1]; exact hz), fun q h1 h2 => by rw [e1, hk q (Nat.lt_of_lt_of_le h1 hS.1) (fun z => h2 (hA q (Nat.lt_of_lt_of_le h1 hS.1) z))]; exact hS.2.1 q h1 h2, fun q hq => by
      rcases List.mem_append.mp hq with h | h
      · exact hS.2.2 q h
      · exact hf _ (hL q h)⟩⟩
theorem vx_calli {S SX : Type} {post : Int32 → S → Prop} {px : SX → Prop} {B : S → State → Prop} {BX : String → SX → State → Prop} {AX : Nat → Prop} (hr : vx_Run p l e R s m args below meth c H locs cells slots mc ms (F0 m pc ls st0) rest (va_Qi post B A1 a) (vx_X px BX AX) free) (hS : va_S A0 H0 H locs) (hA : ∀ q, q < H.size → A1 q → A0 q) (hf : ∀ q, free q → A0 q) (hAX : ∀ q, q < H.size → AX q → A0 q)
    (kx : ∀ (E : String) (ce : Cell) (q9 : Addr) (u : SX) (t : State) (H1 : Heap) (locs1 : List Loc), t.heap = H1 → s.vm.Alike t.vm → px u → BX E u t → H.size ≤ H1.size → (∀ q : Nat, q < H.size → ¬ AX q → H1[q]? = H[q]?) → va_S A0 H0 H1 locs1 → H1[q9]? = some ce → ce.vm = .none → s.vm.findClass E = some ce.cls → vx_W p l e R s m args below meth c H1 locs1 (cells + mc) (slots + ms) Q (F0 m pc ls rest) q9)
    (kk : ∀ (r : Int32) (u : S) (t : State) (H1 : Heap) (locs1 : List Loc), t.heap = H1 → s.vm.Alike t.vm → post r u → B u t → H.size ≤ H1.size → (∀ q : Nat, q < H.size → ¬ A1 q → H1[q]? = H[q]?) → va_S A0 H0 H1 locs1 → W p l e R s m args below meth c H1 locs1 (cells + mc) (slots + ms) Q (F0 m (pc + 3) ls (.int r :: rest))) : W p l e R s m args below meth c H locs cells slots Q (F0 m pc ls st0) := by
  intro T hT X
  rcases hr T hT X with ⟨v, st₀, t, T', L, h0, X', hL, e1, e2, ⟨⟨r, u, hv, hp, hb⟩, hF⟩, st⟩ | ⟨q, st₀, t, T', L, E, ce, h0, X', hL, e1, e2, ⟨u, hp, hb, hF⟩, hce, hcv, hcl, st⟩
  · cases hv
    obtain ⟨k1, k2, k3⟩ := vx_keep h0 e1 hS hA hf hL hF
    obtain ⟨t2, a1, b1⟩ := kk r u t T'.heap (locs ++ L) e1.symm (by rw [← e2]; exact X'.warmed.alike) hp hb k1 k2 k3 T' rfl X'
    exact ⟨t2, st t2 a1, b1⟩
  · obtain ⟨k1, k2, k3⟩ := vx_keep h0 e1 hS hAX hf hL hF
    obtain ⟨t2, a1, b1⟩ := kx E ce q u t T'.heap (locs ++ L) e1.symm (by rw [← e2]; exact X'.warmed.alike) hp hb k1 k2 k3 (by rw [e1]; exact hce) hcv hcl T' rfl X'
    exact ⟨t2, st.trans a1, b1⟩
theorem vx_calll {S SX : Type} {post : Int64 → S → Prop} {px : SX → Prop} {B : S → State → Prop} {BX : String → SX → State → Prop} {AX : Nat → Prop} (hr : vx_Run p l e R s m args below meth c H locs cells slots mc ms (F0 m pc ls st0) rest (va_Ql post B A1 a) (vx_X px BX AX) free) (hS : va_S A0 H0 H locs) (hA : ∀ q, q < H.size → A1 q → A0 q) (hf : ∀ q, free q → A0 q) (hAX : ∀ q, q < H.size → AX q → A0 q)
    (kx : ∀ (E : String) (ce : Cell) (q9 : Addr) (u : SX) (t : State) (H1 : Heap) (locs1 : List Loc), t.heap = H1 → s.vm.Alike t.vm → px u → BX E u t → H.size ≤ H1.size → (∀ q : Nat, q < H.size → ¬ AX q → H1[q]? = H[q]?) → va_S A0 H0 H1 locs1 → H1[q9]? = some ce → ce.vm = .none → s.vm.findClass E = some ce.cls → vx_W p l e R s m args below meth c H1 locs1 (cells + mc) (slots + ms) Q (F0 m pc ls rest) q9)
    (kk : ∀ (r : Int64) (u : S) (t : State) (H1 : Heap) (locs1 : List Loc), t.heap = H1 → s.vm.Alike t.vm → post r u → B u t → H.size ≤ H1.size → (∀ q : Nat, q < H.size → ¬ A1 q → H1[q]? = H[q]?) → va_S A0 H0 H1 locs1 → W p l e R s m args below meth c H1 locs1 (cells + mc) (slots + ms) Q (F0 m (pc + 3) ls (.long r :: rest))) : W p l e R s m args below meth c H locs cells slots Q (F0 m pc ls st0) := by
  intro T hT X
  rcases hr T hT X with ⟨v, st₀, t, T', L, h0, X', hL, e1, e2, ⟨⟨r, u, hv, hp, hb⟩, hF⟩, st⟩ | ⟨q, st₀, t, T', L, E, ce, h0, X', hL, e1, e2, ⟨u, hp, hb, hF⟩, hce, hcv, hcl, st⟩
  · cases hv
    obtain ⟨k1, k2, k3⟩ := vx_keep h0 e1 hS hA hf hL hF
    obtain ⟨t2, a1, b1⟩ := kk r u t T'.heap (locs ++ L) e1.symm (by rw [← e2]; exact X'.warmed.alike) hp hb k1 k2 k3 T' rfl X'
    exact ⟨t2, st t2 a1, b1⟩
  · obtain ⟨k1, k2, k3⟩ := vx_keep h0 e1 hS hAX hf hL hF
    obtain ⟨t2, a1, b1⟩ := kx E ce q u t T'.heap (locs ++ L) e1.symm (by rw [← e2]; exact X'.warmed.alike) hp hb k1 k2 k3 (by rw [e1]; exact hce) hcv hcl T' rfl X'
    exact ⟨t2, st.trans a1, b1⟩
theorem vx_callf {S SX : Type} {post : UInt32 → S → Prop} {px : SX → Prop} {B : S → State → Prop} {BX : String → SX → State → Prop} {AX : Nat → Prop} (hr : vx_Run p l e R s m args below meth c H locs cells slots mc ms (F0 m pc ls st0) rest (va_Qf post B A1 a) (vx_X px BX AX) free) (hS : va_S A0 H0 H locs) (hA : ∀ q, q < H.size → A1 q → A0 q) (hf : ∀ q, free q → A0 q) (hAX : ∀ q, q < H.size → AX q → A0 q)
    (kx : ∀ (E : String) (ce : Cell) (q9 : Addr) (u : SX) (t : State) (H1 : Heap) (locs1 : List Loc), t.heap = H1 → s.vm.Alike t.vm → px u → BX E u t → H.size ≤ H1.size → (∀ q : Nat, q < H.size → ¬ AX q → H1[q]? = H[q]?) → va_S A0 H0 H1 locs1 → H1[q9]? = some ce → ce.vm = .none → s.vm.findClass E = some ce.cls → vx_W p l e R s m args below meth c H1 locs1 (cells + mc) (slots + ms) Q (F0 m pc ls rest) q9)
    (kk : ∀ (r : UInt32) (u : S) (t : State) (H1 : Heap) (locs1 : List Loc), t.heap = H1 → s.vm.Alike t.vm → post r u → B u t → H.size ≤ H1.size → (∀ q : Nat, q < H.size → ¬ A1 q → H1[q]? = H[q]?) → va_S A0 H0 H1 locs1 → W p l e R s m args below meth c H1 locs1 (cells + mc) (slots + ms) Q (F0 m (pc + 3) ls (.float r :: rest))) : W p l e R s m args below meth c H locs cells slots Q (F0 m pc ls st0) := by
  intro T hT X
  rcases hr T hT X with ⟨v, st₀, t, T', L, h0, X', hL, e1, e2, ⟨⟨r, u, hv, hp, hb⟩, hF⟩, st⟩ | ⟨q, st₀, t, T', L, E, ce, h0, X', hL, e1, e2, ⟨u, hp, hb, hF⟩, hce, hcv, hcl, st⟩
  · cases hv
    obtain ⟨k1, k2, k3⟩ := vx_keep h0 e1 hS hA hf hL hF
    obtain ⟨t2, a1, b1⟩ := kk r u t T'.heap (locs ++ L) e1.symm (by rw [← e2]; exact X'.warmed.alike) hp hb k1 k2 k3 T' rfl X'
    exact ⟨t2, st t2 a1, b1⟩
  · obtain ⟨k1, k2, k3⟩ := vx_keep h0 e1 hS hAX hf hL hF
    obtain ⟨t2, a1, b1⟩ := kx E ce q u t T'.heap (locs ++ L) e1.symm (by rw [← e2]; exact X'.warmed.alike) hp hb k1 k2 k3 (by rw [e1]; exact hce) hcv hcl T' rfl X'
    exact ⟨t2, st.trans a1, b1⟩
theorem vx_calld {S SX : Type} {post : UInt64 → S → Prop} {px : SX → Prop} {B : S → State → Prop} {BX : String → SX → State → Prop} {AX : Nat → Prop} (hr : vx_Run p l e R s m args below meth c H locs cells slots mc ms (F0 m pc ls st0) rest (va_Qd post B A1 a) (vx_X px BX AX) free) (hS : va_S A0 H0 H locs) (hA : ∀ q, q < H.size → A1 q → A0 q) (hf : ∀ q, free q → A0 q) (hAX : ∀ q, q < H.size → AX q → A0 q)
    (kx : ∀ (E : String) (ce : Cell) (q9 : Addr) (u : SX) (t : State) (H1 : Heap) (locs1 : List Loc), t.heap = H1 → s.vm.Alike t.vm → px u → BX E u t → H.size ≤ H1.size → (∀ q : Nat, q < H.size → ¬ AX q → H1[q]? = H[q]?) → va_S A0 H0 H1 locs1 → H1[q9]? = some ce → ce.vm = .none → s.vm.findClass E = some ce.cls → vx_W p l e R s m args below meth c H1 locs1 (cells + mc) (slots + ms) Q (F0 m pc ls rest) q9)
    (kk : ∀ (r : UInt64) (u : S) (t : State) (H1 : Heap) (locs1 : List Loc), t.heap = H1 → s.vm.Alike t.vm → post r u → B u t → H.size ≤ H1.size → (∀ q : Nat, q < H.size → ¬ A1 q → H1[q]? = H[q]?) → va_S A0 H0 H1 locs1 → W p l e R s m args below meth c H1 locs1 (cells + mc) (slots + ms) Q (F0 m (pc + 3) ls (.double r :: rest))) : W p l e R s m args below meth c H locs cells slots Q (F0 m pc ls st0) := by
  intro T hT X
  rcases hr T hT X with ⟨v, st₀, t, T', L, h0, X', hL, e1, e2, ⟨⟨r, u, hv, hp, hb⟩, hF⟩, st⟩ | ⟨q, st₀, t, T', L, E, ce, h0, X', hL, e1, e2, ⟨u, hp, hb, hF⟩, hce, hcv, hcl, st⟩
  · cases hv
    obtain ⟨k1, k2, k3⟩ := vx_keep h0 e1 hS hA hf hL hF
    obtain ⟨t2, a1, b1⟩ := kk r u t T'.heap (locs ++ L) e1.symm (by rw [← e2]; exact X'.warmed.alike) hp hb k1 k2 k3 T' rfl X'
    exact ⟨t2, st t2 a1, b1⟩
  · obtain ⟨k1, k2, k3⟩ := vx_keep h0 e1 hS hAX hf hL hF
    obtain ⟨t2, a1, b1⟩ := kx E ce q u t T'.heap (locs ++ L) e1.symm (by rw [← e2]; exact X'.warmed.alike) hp hb k1 k2 k3 (by rw [e1]; exact hce) hcv hcl T' rfl X'
    exact ⟨t2, st.trans a1, b1⟩
theorem vx_callv {S SX : Type} {post : S → Prop} {px : SX → Prop} {B : S → State → Prop} {BX : String → SX → State → Prop} {AX : Nat → Prop} (hr : vx_Run p l e R s m args below meth c H locs cells slots mc ms (F0 m pc ls st0) rest (va_Qv post B A1 a) (vx_X px BX AX) free) (hS : va_S A0 H0 H locs) (hA : ∀ q, q < H.size → A1 q → A0 q) (hf : ∀ q, free q → A0 q) (hAX : ∀ q, q < H.size → AX q → A0 q)
    (kx : ∀ (E : String) (ce : Cell) (q9 : Addr) (u : SX) (t : State) (H1 : Heap) (locs1 : List Loc), t.heap = H1 → s.vm.Alike t.vm → px u → BX E u t → H.size ≤ H1.size → (∀ q : Nat, q < H.size → ¬ AX q → H1[q]? = H[q]?) → va_S A0 H0 H1 locs1 → H1[q9]? = some ce → ce.vm = .none → s.vm.findClass E = some ce.cls → vx_W p l e R s m args below meth c H1 locs1 (cells + mc) (slots + ms) Q (F0 m pc ls rest) q9)
    (kk : ∀ (u : S) (t : State) (H1 : Heap) (locs1 : List Loc), t.heap = H1 → s.vm.Alike t.vm → post u → B u t → H.size ≤ H1.size → (∀ q : Nat, q < H.size → ¬ A1 q → H1[q]? = H[q]?) → va_S A0 H0 H1 locs1 → W p l e R s m args below meth c H1 locs1 (cells + mc) (slots + ms) Q (F0 m (pc + 3) ls (rest))) : W p l e R s m args below meth c H locs cells slots Q (F0 m pc ls st0) := by
  intro T hT X
  rcases hr T hT X with ⟨v, st₀, t, T', L, h0, X', hL, e1, e2, ⟨⟨u, hv, hp, hb⟩, hF⟩, st⟩ | ⟨q, st₀, t, T', L, E, ce, h0, X', hL, e1, e2, ⟨u, hp, hb, hF⟩, hce, hcv, hcl, st⟩
  · cases hv
    obtain ⟨k1, k2, k3⟩ := vx_keep h0 e1 hS hA hf hL hF
    obtain ⟨t2, a1, b1⟩ := kk u t T'.heap (locs ++ L) e1.symm (by rw [← e2]; exact X'.warmed.alike) hp hb k1 k2 k3 T' rfl X'
    exact ⟨t2, st t2 a1, b1⟩
  · obtain ⟨k1, k2, k3⟩ := vx_keep h0 e1 hS hAX hf hL hF
    obtain ⟨t2, a1, b1⟩ := kx E ce q u t T'.heap (locs ++ L) e1.symm (by rw [← e2]; exact X'.warmed.alike) hp hb k1 k2 k3 (by rw [e1]; exact hce) hcv hcl T' rfl X'
    exact ⟨t2, st.trans a1, b1⟩
/-- caught by the row x of this method's table; the rows ahead don't take it -/
theorem vx_catch {own name : String} {E : String} {ce : Cell} {q : Addr} (hown : s.vm.findClass own = some m.cls) (pre : List ExceptionTableEntry) (x : ExceptionTableEntry) (suf : List ExceptionTableEntry) (hsplit : c.exceptionTable.toList = pre ++ x :: suf)
    (hpass : ∀ z ∈ pre, covers z pc = false ∨ (z.catchType ≠ 0 ∧ ∃ nm : String, (Cond.classLink own z.catchType nm).before args s = true ∧ va_Nc E nm s)) (hx : covers x pc = true) (h0 : x.catchType ≠ 0)
    (hlink : (Cond.classLink own x.catchType name).before args s = true) (hcast : (Cond.castable E name).before args s = true) (hcell : H[q]? = some ce) (hv : ce.vm = .none) (hcl : s.vm.findClass E = some ce.cls)
    (kk : W p l e R s m args below meth c H locs cells slots Q (F0 m x.handlerPc ls [.ref q])) : vx_W p l e R s m args below meth c H locs cells slots Q (F0 m pc ls rest) q := by
  intro T hT X
  have hpl : e.platform.magicAccessors = ({} : Platform).magicAccessors := by rw [X.admits.platform]
  obtain ⟨c3, c4, hc3, hc4, hasg⟩ := Cond.castable_spec hcast
  cases Option.some.inj (hc3.symm.trans hcl)
  obtain ⟨c5, hc5, hcl5⟩ := Cond.classLink_spec hown hlink e.platform hpl
  cases Option.some.inj (hc4.symm.trans hc5)
  obtain ⟨vm', X', st⟩ := X.thenCaughtThrough q (g := F0 m pc ls rest) rfl (Steps.refl _) (by rw [hT]; exact hcell) (by rw [hv]; rfl) (by obtain ⟨k9, h9, -⟩ := Vm.findClass_spec hcl; exact ⟨k9, h9⟩) pre x suf hsplit
    (fun z hz => by
      rcases hpass z hz with h | ⟨hz0, nm, hl1, hn1⟩
      · exact Or.inl h
      · obtain ⟨c6, hc6, hcl6⟩ := Cond.classLink_spec hown hl1 e.platform hpl
        obtain ⟨a8, b8, h1, h2, h3⟩ := hn1
        cases Option.some.inj (h1.symm.trans hcl)
        cases Option.some.inj (h2.symm.trans hc6)
        exact Or.inr ⟨hz0, _, hcl6, h3⟩) hx (Or.inr ⟨h0, c4, hcl5, hasg⟩)
  obtain ⟨t, a1, b1⟩ := kk (T.setVm vm') hT X'
  exact ⟨t, st.trans a1, b1⟩
end Rows
section Ends
variable {p : Program} {l : Launch} {e : Env} {R : Room} {s : State} {m : MethodId} {args : Array Value} {below : List Frame} {meth : Method} {c : Code} {H : Heap} {locs : List Loc} {cells slots : Nat} {Q : State → Prop}
variable {mc ms : Nat} {free : Addr → Prop} {A0 A1 : Nat → Prop} {H0 : Heap} {a : Array Value} {ls : Array Slot} {st0 rest : List Value}
variable {Qc : Array Value → State → Outcome → State → Prop} {XC : String → State → State → Prop}
/-- what a body that may throw owes at its end -/
def vx_MQ (below : List Frame) (Qc : Array Value → State → Outcome → State → Prop) (XC : String → State → State → Prop) (a : Array Value) (s : State) (mc ms : Nat) (free : Addr → Prop) : State → Prop := fun t =>
  ∃ o, t.status = .running ∧ Ended t below o ∧ vx_Q Qc XC mc ms free a s o t
theorem vx_ret {g : JFrame} {mc ms : Nat} (k : W p l e R s m args below meth c H locs cells slots (MQ below Qc args s mc ms free) g) : W p l e R s m args below meth c H locs cells slots (vx_MQ below Qc XC args s mc ms free) g := by
  intro T hT X
  obtain ⟨t, a1, o, b1, b2, b3, b4⟩ := k T hT X
  exact ⟨t, a1, o, b1, b2, Or.inl ⟨b3, b4⟩⟩
/-- not caught here: it goes on to the caller -/
theorem vx_widen {g : JFrame} {q : Addr} {k n : Nat} (h1 : cells ≤ k) (h2 : slots ≤ n) (kk : vx_W p l e R s m args below meth c H locs k n Q g q) : vx_W p l e R s m args below meth c H locs cells slots Q g q := fun T hT X => kk T hT (stand_widen X h1 h2)
theorem vx_out {pc : Nat} {E : String} {ce : Cell} {q : Addr} {mc ms : Nat} (hout : ∀ x ∈ c.exceptionTable.toList, covers x pc = false) (hlocks : meth.locks = false) (hcell : H[q]? = some ce) (hv : ce.vm = .none) (hcl : s.vm.findClass E = some ce.cls)
    (hx : ∀ t : State, t.heap = H → s.vm.Alike t.vm → XC E s t) (hf : ∀ z ∈ locs, free z.base) (hc : cells ≤ mc) (hs : slots ≤ ms) :
    vx_W p l e R s m args below meth c H locs cells slots (vx_MQ below Qc XC args s mc ms free) (F0 m pc ls rest) q := by
  intro T hT X
  obtain ⟨st1, hrun, hend, hW, hsm⟩ := X.leaveThrown q (g := F0 m pc ls rest) rfl rfl rfl hout hlocks
  have hcell9 : (T.setFrames (.throwing q :: below)).heap[q]? = some ce := by
    show T.heap[q]? = some ce
    rw [hT]; exact hcell
  exact ⟨_, st1, .threw q, hrun, hend, Or.inr ⟨q, rfl, E, ce, locs, hx _ hT hW.alike, hcell9, hv, hcl, hW, hsm.mono hc hs, hf⟩⟩
theorem vx_frame {U : State} {k n : Nat} (h : s.sameButNew ({ U with vm := s.vm } : State) locs k n) : s.heap.size ≤ U.heap.size ∧ ∀ q : Nat, q < s.heap.size → (∀ z ∈ locs, z.base ≠ q) → U.heap[q]? = s.heap[q]? := by
  obtain ⟨-, h2, -, -, -, h6⟩ := h
  refine ⟨h2, fun q hq hz => ?_⟩
  obtain ⟨c9, e1, e2, e3, e4⟩ := h6 q _ (Array.getElem?_eq_getElem hq)
  have hs : c9.slots = (s.heap[q]).slots := Array.ext_getElem? fun i => e4 i fun hm => hz _ hm rfl
  have h9 : c9 = s.heap[q] := by
    rw [hs] at e2
    exact e2
  have e5 : U.heap[q]? = some c9 := e1
  rw [e5, h9, Array.getElem?_eq_getElem hq]
/-- the words of a throw but the four that speak of the heap -/
def vx_no (w : Cond) : Bool := decide (w ≠ .isRef (.static Bundle.tN "UNASSIGNED_STACK" Bundle.steD)) && decide (w ≠ .isRef (.static Bundle.tN "SUPPRESSED_SENTINEL" Bundle.listD)) && decide (w ≠ .laysStatic Bundle.tN "UNASSIGNED_STACK" Bundle.steD) && decide (w ≠ .laysStatic Bundle.tN "SUPPRESSED_SENTINEL" Bundle.listD)
def vx_at0 (own : String) (ic : Nat) (X : String) (names : List String) : List Cond := (Bundle.ownAtoms0 own ic X names).filter vx_no
def vx_atS (own : String) (ic : Nat) (X : String) (names : List String) : List Cond := (Bundle.ownAtoms own ic X names).filter vx_no
/-- a word that the tables alone decide, or a good one -/
def vx_ot (w : Cond) : Bool := w.onTables || goodWord w
theorem vx_ot_at {args a' : Array Value} {s U : State} {w : Cond} (hW : s.WarmedH U.vm) (hvm : s.vm = U.vm) (hg : vx_ot w = true) (h : w.before args s = true) : w.before a' U = true := by
  simp only [vx_ot, Bool.or_eq_true] at hg
  rcases hg with hg | hg
  · exact va_tabs hg hvm h
  · exact word_at hW (good_of_word hg) h
/-- a list's words: the good ones out of the method's own list, the others by premises of their own -/
theorem vx_hat {args : Array Value} {s : State} {L B : List Cond} (h1 : ∀ w ∈ L.filter goodWord, w.before args s = true) (h2 : ∀ w ∈ L.filter (fun w => !goodWord w), w ∈ B) (h3 : ∀ w ∈ B, w.before args s = true) : ∀ w ∈ L, w.before args s = true := by
  intro w hw
  by_cases g : goodWord w = true
  · exact h1 w (List.mem_filter.mpr ⟨hw, g⟩)
  · refine h3 w (h2 w (List.mem_filter.mpr ⟨hw, ?_⟩))
    show (!goodWord w) = true
    cases hgw : goodWord w
    · rfl
    · exact absurd hgw g
theorem vx_c {args : Array Value} {s : State} {w : Cond} {B : List Cond} (h : w.before args s = true) (t : ∀ w ∈ B, w.before args s = true) : ∀ w' ∈ w :: B, w'.before args s = true := fun w' h' => (List.mem_cons.mp h').elim (fun e => by rw [e]; exact h) (t w')
theorem vx_n {args : Array Value} {s : State} : ∀ w ∈ ([] : List Cond), w.before args s = true := fun _ h => nomatch h
theorem vx_own {args : Array Value} {s : State} {L : List Cond} (h1 : ∀ w ∈ L.filter vx_no, w.before args s = true)
    (hU : (Cond.isRef (.static Bundle.tN "UNASSIGNED_STACK" Bundle.steD)).before args s = true) (hN : (Cond.isRef (.static Bundle.tN "SUPPRESSED_SENTINEL" Bundle.listD)).before args s = true)
    (lU : (Cond.laysStatic Bundle.tN "UNASSIGNED_STACK" Bundle.steD).before args s = true) (lN : (Cond.laysStatic Bundle.tN "SUPPRESSED_SENTINEL" Bundle.listD).before args s = true) : ∀ w ∈ L, w.before args s = true := by
  intro w hw
  by_cases e1 : w = .isRef (.static Bundle.tN "UNASSIGNED_STACK" Bundle.steD)
  · rw [e1]; exact hU
  · by_cases e2 : w = .isRef (.static Bundle.tN "SUPPRESSED_SENTINEL" Bundle.listD)
    · rw [e2]; exact hN
    · by_cases e3 : w = .laysStatic Bundle.tN "UNASSIGNED_STACK" Bundle.steD
      · rw [e3]; exact lU
      · by_cases e4 : w = .laysStatic Bundle.tN "SUPPRESSED_SENTINEL" Bundle.listD
        · rw [e4]; exact lN
        · exact h1 w (List.mem_filter.mpr ⟨hw, by unfold vx_no; rw [decide_eq_true e1, decide_eq_true e2, decide_eq_true e3, decide_eq_true e4]; rfl⟩)
/-- where a static field lies, its class's statics cell in H -/
def vx_L (C n d : String) (A : Nat → Prop) (U : State) (H : Heap) : Prop := ∃ (c : ClassId) (k : Class) (i : Nat) (f : Field) (a : Nat) (cell : Cell), U.vm.findClass C = some c ∧ U.fieldFound? C n d = some (c, k, i, f) ∧ f.isStatic = true ∧ k.statics = some a ∧ H[a]? = some cell ∧ cell.vm.isStatics = true ∧ cell.cls = c ∧ f.slot < cell.slots.size ∧ k.staticTypes[f.slot]? = some f.type ∧ ¬ A a
theorem vx_L.moved {C n d : String} {A : Nat → Prop} {u U : State} {H : Heap} (hvm : u.vm.Alike U.vm) (h : vx_L C n d A u H) : vx_L C n d A U H := by
  obtain ⟨c, k, i, f, a, cell, h1, h2, h3, h4, h5, h6, h7, h8, h9, h10⟩ := h
  obtain ⟨k', hi', he⟩ := State.fieldFound?_setVm hvm h2
  exact ⟨c, k', i, f, a, cell, by rw [hvm.findClass]; exact h1, hi', h3, by rw [he]; exact h4, h5, h6, h7, h8, by rw [he]; exact h9, h10⟩
theorem vx_L.kept {C n d : String} {A : Nat → Prop} {U : State} {H H1 : Heap} (h : vx_L C n d A U H) (hq : ∀ a : Nat, a < H.size → ¬ A a → H1[a]? = H[a]?) : vx_L C n d A U H1 := by
  obtain ⟨c, k, i, f, a, cell, h1, h2, h3, h4, h5, h6, h7, h8, h9, h10⟩ := h
  exact ⟨c, k, i, f, a, cell, h1, h2, h3, h4, by rw [hq a (Array.getElem?_eq_some_iff.mp h5).1 h10]; exact h5, h6, h7, h8, h9, h10⟩
theorem vx_L.narrow {C n d : String} {A B : Nat → Prop} {U : State} {H : Heap} (h : vx_L C n d A U H) (hAB : ∀ q, B q → A q) : vx_L C n d B U H := by
  obtain ⟨c, k, i, f, a, cell, h1, h2, h3, h4, h5, h6, h7, h8, h9, h10⟩ := h
  exact ⟨c, k, i, f, a, cell, h1, h2, h3, h4, h5, h6, h7, h8, h9, fun z => h10 (hAB _ z)⟩
theorem vx_L.word {C n d : String} {A : Nat → Prop} {s : State} {args : Array Value} (h : vx_L C n d A s s.heap) : (Cond.laysStatic C n d).before args s = true := by
  obtain ⟨c, k, i, f, a, cell, h1, h2, h3, h4, h5, h6, h7, h8, h9, -⟩ := h
  show (Cond.laysStatic C n d).holds args s none s [] = true
  exact Cond.laysStatic_of h1 h2 h3 h4 h5 h6 h7 h8 h9
/-- .. and what it holds: null or some reference -/
def vx_Zq (C n d : String) (A : Nat → Prop) (U : State) (H : Heap) : Prop := va_Zq C n d A U H ∧ vx_L C n d A U H
theorem vx_Zq.moved {C n d : String} {A : Nat → Prop} {u U : State} {H : Heap} (hvm : u.vm.Alike U.vm) (h : vx_Zq C n d A u H) : vx_Zq C n d A U H := ⟨va_Zq.moved hvm h.1, vx_L.moved hvm h.2⟩
theorem vx_Zq.kept {C n d : String} {A : Nat → Prop} {U : State} {H H1 : Heap} (h : vx_Zq C n d A U H) (hq : ∀ a : Nat, a < H.size → ¬ A a → H1[a]? = H[a]?) : vx_Zq C n d A U H1 := ⟨va_Zq.kept h.1 hq, vx_L.kept h.2 hq⟩
theorem vx_Zq.narrow {C n d : String} {A B : Nat → Prop} {U : State} {H : Heap} (h : vx_Zq C n d A U H) (hAB : ∀ q, B q → A q) : vx_Zq C n d B U H := ⟨va_Zq.narrow h.1 hAB, vx_L.narrow h.2 hAB⟩
theorem vx_Zqof {args : Array Value} {s : State} {C n d : String} {A : Nat → Prop} (hl : (Cond.laysStatic C n d).before args s = true) (hini : (Cond.initialized C).before args s = true) (h : (Cond.isRef (.static C n d)).before args s = true) (hA : ∀ a : Nat, a < s.heap.size → ¬ A a) : vx_Zq C n d A s s.heap := by
  refine ⟨va_Zqof hl hini h hA, ?_⟩
  obtain ⟨c, k, i, f, a, cell, h1, h2, h3, h4, h5, h6, h7, h8, h9⟩ := Cond.laysStatic_spec hl
  exact ⟨c, k, i, f, a, cell, h1, h2, h3, h4, h5, h6, h7, h8, h9, hA a (Array.getElem?_eq_some_iff.mp h5).1⟩
theorem vx_isRef {C n d : String} {v : Value} {A : Nat → Prop} {s : State} {args : Array Value} (h : va_Z C n d v A s s.heap) (hv : v.isRef = true) : (Cond.isRef (.static C n d)).before args s = true := by
  obtain ⟨cf, kf, fi, f, a, cell, h1, h2, h3, h4, h5, h6, h7, -⟩ := h
  have he : (Term.static C n d).eval args s none [] s = some v := by
    simp [Term.eval, State.fieldNamed?, h1, h2, h4, h5, h6, h7]
  simp only [Cond.before, Cond.holds, Cond.value, he]
  cases v <;> simp_all [Value.isRef]
theorem vx_isRefq {C n d : String} {A : Nat → Prop} {s : State} {args : Array Value} (h : va_Zq C n d A s s.heap) : (Cond.isRef (.static C n d)).before args s = true := by
  rcases h with h | ⟨t, h⟩
  · exact vx_isRef h rfl
  · exact vx_isRef h rfl
/-- the same frame, seen from here: as if the method were called anew in this heap -/
theorem vx_rebase {T : State} (X : Stand p l e R s m args below meth c T locs cells slots) {R' : Room} (hf : R'.frames ≤ R.frames) (hl : R'.locals ≤ R.locals) (hc : cells + R'.cells ≤ R.cells) (hs : slots + R'.slots ≤ R.slots) :
    Stand p l e R' ((T.setVm s.vm).setFrames (.invoking m args :: below)) m args below meth c T [] 0 0 := by
  have htop : (T.setVm s.vm).topJava?.isSome := X.here.top
  have hF : ((T.setVm s.vm).setFrames (.invoking m args :: below)).frames = .invoking m args :: below := State.frames_setFrames _ (State.cur_lt_of_top htop)
  obtain ⟨g₀, hg0⟩ := Option.isSome_iff_exists.mp htop
  obtain ⟨r, hr⟩ := State.topJava?_eq_some.mp hg0
  have hl9 : e.platform.stackLimits (T.setVm s.vm).me = e.platform.stackLimits s.me := X.limits
  have hb9 : (T.setVm s.vm).me.stackBytes = s.me.stackBytes := X.bytes
  refine ⟨X.admits, X.cas, X.clock, hF, ?_, X.hears, X.method, X.code, X.here, X.tail, X.warmed, ?_, ?_, ?_⟩
  · have h := X.room
    have hU : ((T.setVm s.vm).setFrames (.invoking m args :: below)).localsInUse = s.localsInUse := by
      rw [State.localsInUse_invoking hF (meth := meth) (c := c) X.method X.code, State.localsInUse_invoking X.frames X.method X.code]
    simp only [State.hasRoom, Bool.and_eq_true, decide_eq_true_eq] at h ⊢
    obtain ⟨⟨⟨⟨h1, h2, h3, h4, h5, h6⟩, h7⟩, h8⟩, h9⟩ := h
    rw [X.frames, List.length_cons] at h2 h3
    have q1 := X.heapSize
    have q2 := X.used
    simp only [hF, hU, List.length_cons, State.stackLimits_setFrames, State.stackBytes_setFrames, hl9, hb9]
    refine ⟨⟨⟨⟨by omega, by omega, by omega, by omega, by omega, h6⟩, ?_⟩, ?_⟩, X.book⟩
    · show T.heap.size + R'.cells ≤ e.platform.maxCells
      omega
    · show T.slotsUsed + R'.slots ≤ e.platform.maxSlots
      omega
  · rw [State.stackLimits_setFrames]; rfl
  · rw [State.stackBytes_setFrames]; rfl
  · refine ⟨?_, Nat.le_refl _, Nat.le_refl _, ?_, ?_, fun a c9 h9 => ⟨c9, h9, rfl, rfl, fun _ _ => rfl⟩⟩
    · obtain ⟨t, ht, -⟩ := State.frames_cons hr
      show T.setVm s.vm = { ((T.setVm s.vm).setFrames (.invoking m args :: below)).setFrames (T.setVm s.vm).frames with heap := T.heap, slotsUsed := T.slotsUsed }
      rw [State.setFrames_setFrames, State.setFrames_self ht]
      rfl
    · show T.slotsUsed = T.slotsUsed + ((T.heap.toList.drop T.heap.size).map (·.slots.size)).sum
      rw [List.drop_eq_nil_of_le (Nat.le_of_eq Array.length_toList)]
      rfl
    · show ((T.heap.toList.drop T.heap.size).map (·.slots.size)).sum ≤ 0
      rw [List.drop_eq_nil_of_le (Nat.le_of_eq Array.length_toList)]
      exact Nat.le_refl _
/-- 'throw new E()': new; dup; invokespecial; athrow -/
theorem vx_throw0 {cc : ByteArray} {pc : Nat} (hexec : p.tables.exec = Jvm.exec) (hb : c.code = cc) (hl : l.stackTraces = false) {own cls : String} {names : List String} {ik ic mc ms : Nat} {A : Nat → Prop}
    (hown : s.vm.findClass own = some m.cls) (hcls : Bundle.fit cls = true) (hnames : ∀ n ∈ names, Bundle.fit n = true)
    (hk : (Cond.classLink own ik cls).before args s = true) (hini : (Cond.initialized cls).before args s = true) (hat : ∀ w ∈ vx_at0 own ic cls names, w.before args s = true)
    (hgood : ∀ w ∈ Cond.classLink own ik cls :: Cond.initialized cls :: vx_at0 own ic cls names, vx_ot w = true)
    (hU : vx_Zq Bundle.tN "UNASSIGNED_STACK" Bundle.steD A s s.heap) (hN : vx_Zq Bundle.tN "SUPPRESSED_SENTINEL" Bundle.listD A s s.heap) (hS : va_S A s.heap H locs) (hsize : ls.size = c.maxLocals)
    (d0 : decode cc pc = .ok (.new ik, 3)) (d3 : decode cc (pc + 3) = .ok (.dup, 1)) (d4 : decode cc (pc + 4) = .ok (.invokespecial ic, 3)) (d7 : decode cc (pc + 7) = .ok (.athrow, 1))
    (hout : ∀ x ∈ c.exceptionTable.toList, covers x (pc + 7) = false)
    (hRframes : names.length + 3 < R.frames) (hRlocals : (rest.map fun v => v.category).sum + (13 * (names.length + 1) + 42) ≤ R.locals) (hRcells : cells + 1 ≤ R.cells) (hRslots : slots + 6 ≤ R.slots) (hlocks : meth.locks = false)
    (hx : ∀ t : State, s.vm.Alike t.vm → H.size ≤ t.heap.size → (∀ q : Nat, q < H.size → t.heap[q]? = H[q]?) → XC cls s t)
    (hf : ∀ z ∈ locs, free z.base) (hc : cells + 1 ≤ mc) (hs : slots + 6 ≤ ms) :
    W p l e R s m args below meth c H locs cells slots (vx_MQ below Qc XC args s mc ms free) (F0 m pc ls rest) := by
  intro T hT X
  have htr : e.platform.stackTraces = false := (show e.platform.stackTraces = l.stackTraces by rw [X.admits.platform]).trans hl
  have Y := vx_rebase X (R' := { frames := R.frames, locals := R.locals, cells := 1, slots := 6 }) (Nat.le_refl _) (Nat.le_refl _) hRcells hRslots
  obtain ⟨s', hA⟩ : ∃ z, z = (T.setVm s.vm).setFrames (.invoking m args :: below) := ⟨_, rfl⟩
  rw [← hA] at Y
  have hvm : s'.vm = s.vm := by rw [hA]; rfl
  have hhp : s'.heap = H := by rw [hA]; exact hT
  have hW0 : s.WarmedH s'.vm := by rw [hvm]; exact State.WarmedH.refl s
  have hat' : ∀ w ∈ vx_at0 own ic cls names, w.before args s' = true := fun w hw => vx_ot_at hW0 hvm.symm (hgood w (List.mem_cons_of_mem _ (List.mem_cons_of_mem _ hw))) (hat w hw)
  have hk' : (Cond.classLink own ik cls).before args s' = true := vx_ot_at hW0 hvm.symm (hgood _ List.mem_cons_self) hk
  have hini' : (Cond.initialized cls).before args s' = true := vx_ot_at hW0 hvm.symm (hgood _ (List.mem_cons_of_mem _ List.mem_cons_self)) hini
  have hU' : vx_Zq Bundle.tN "UNASSIGNED_STACK" Bundle.steD A s' s'.heap := by rw [hhp]; exact vx_Zq.moved hW0.alike (hU.kept hS.2.1)
  have hN' : vx_Zq Bundle.tN "SUPPRESSED_SENTINEL" Bundle.listD A s' s'.heap := by rw [hhp]; exact vx_Zq.moved hW0.alike (hN.kept hS.2.1)
  have h : ∀ w ∈ Bundle.ownAtoms0 own ic cls names, w.before args s' = true := vx_own hat' (vx_isRefq hU'.1) (vx_isRefq hN'.1) hU'.2.word hN'.2.word
  have hown' : s'.vm.findClass own = some m.cls := by rw [hvm]; exact hown
  have hins : (Cond.instantiable cls 6).before args s' = true := h _ (by simp [Bundle.ownAtoms0])
  obtain ⟨vm₁, cX, kX, hfX, hkX, -, -, X₁, st1⟩ := Y.newCold hexec (own := own) (C := cls) (index := ik) (n := 6) hown' hk' hins hini'
    (g := F0 m pc ls rest) rfl (by rw [hb]; exact d0) (Nat.le_refl _) (Nat.le_refl _)
  generalize hT1 : (T.setVm vm₁).pushCell { cls := cX, slots := kX.instanceTypes.map defaultValue, vm := .none } = T1 at X₁ st1
  have hcat : (Value.ref T.heap.size).category = 1 := rfl
  have hcellA : T1.heap[T.heap.size]? = some (freshCell cX kX) := by rw [← hT1]; exact State.heap_pushCell_size _ _
  have d3' : decode c.code (pc + 3) = .ok (.dup, 1) := by rw [hb]; exact d3
  obtain ⟨U, hsteps, hrun, hend, hW, hsame, ce, hce, hO⟩ := X₁.ctorThrow0 hexec htr (own := own) (cls := cls) (names := names) (ic := ic) hown' hcls hnames h (fun x hx => nomatch hx) hfX hkX hcellA (by rw [hhp, hT]; exact Nat.le_refl _)
    (g := { method := m, pc := pc + 4, locals := ls, stack := .ref T.heap.size :: .ref T.heap.size :: rest, locked := none }) rfl hsize rfl rfl (rest := rest) rfl
    (by rw [hb]; exact d4) (by rw [hb]; exact d7) hout hRframes (by simp only [List.map_cons, List.sum_cons, hcat]; omega) hlocks
  obtain ⟨f1, f2⟩ := vx_frame hsame
  rw [hhp] at f1 f2
  have hWs : s.WarmedH U.vm := State.WarmedH.trans hW0 hW
  have hcl : s.vm.findClass cls = some ce.cls := by
    have h9 := hO.cls
    rw [hvm] at h9
    exact h9
  have hall : s.sameButNew ({ U with vm := s.vm } : State) locs mc ms := by
    subst hA
    obtain ⟨e1, e2⟩ := hsame
    rw [State.setFrames_setFrames] at e1
    have h2 : (T.setVm s.vm).sameButNew ({ U with vm := s.vm } : State) [] (0 + 1) (0 + 6) := ⟨e1, e2⟩
    have h3 := X.same.trans h2
    rw [List.append_nil] at h3
    exact h3.mono hc hs
  refine ⟨U, ?_, .threw T.heap.size, hrun, hend, Or.inr ⟨T.heap.size, rfl, cls, ce, locs, hx U hWs.alike f1 (fun q hq => f2 q hq (fun z hz => nomatch hz)), hce, hO.vm, hcl, hWs, hall, hf⟩⟩
  refine st1 _ ?_
  show Steps p.tables e below (T1.setTop { method := m, pc := pc + 3, locals := ls, stack := .ref T.heap.size :: rest, locked := none }) _
  jvm_step X₁.here [X₁.here.top, hexec, d3', Value.category]
  exact hsteps
/-- 'throw new E("text")': new; dup; ldc; invokespecial; athrow -/
theorem vx_throwS {cc : ByteArray} {pc : Nat} (hexec : p.tables.exec = Jvm.exec) (hb : c.code = cc) (hl : l.stackTraces = false) {own cls text : String} {names : List String} {ik is ic mc ms sa : Nat} {A : Nat → Prop}
    (hown : s.vm.findClass own = some m.cls) (hcls : Bundle.fit cls = true) (hnames : ∀ n ∈ names, Bundle.fit n = true)
    (hk : (Cond.classLink own ik cls).before args s = true) (hini : (Cond.initialized cls).before args s = true) (hstr : vk_R own is text sa s) (hat : ∀ w ∈ vx_atS own ic cls names, w.before args s = true)
    (hgood : ∀ w ∈ Cond.classLink own ik cls :: Cond.initialized cls :: vx_atS own ic cls names, vx_ot w = true)
    (hU : vx_Zq Bundle.tN "UNASSIGNED_STACK" Bundle.steD A s s.heap) (hN : vx_Zq Bundle.tN "SUPPRESSED_SENTINEL" Bundle.listD A s s.heap) (hS : va_S A s.heap H locs) (hsize : ls.size = c.maxLocals)
    (d0 : decode cc pc = .ok (.new ik, 3)) (d3 : decode cc (pc + 3) = .ok (.dup, 1)) (d4 : decode cc (pc + 4) = .ok (.ldc is, 2)) (d6 : decode cc (pc + 6) = .ok (.invokespecial ic, 3)) (d9 : decode cc (pc + 9) = .ok (.athrow, 1))
    (hout : ∀ x ∈ c.exceptionTable.toList, covers x (pc + 9) = false)
    (hRframes : names.length + 3 < R.frames) (hRlocals : (rest.map fun v => v.category).sum + (13 * (names.length + 1) + 43) ≤ R.locals) (hRcells : cells + 1 ≤ R.cells) (hRslots : slots + 6 ≤ R.slots) (hlocks : meth.locks = false)
    (hx : ∀ t : State, s.vm.Alike t.vm → H.size ≤ t.heap.size → (∀ q : Nat, q < H.size → t.heap[q]? = H[q]?) → XC cls s t)
    (hf : ∀ z ∈ locs, free z.base) (hc : cells + 1 ≤ mc) (hs : slots + 6 ≤ ms) :
    W p l e R s m args below meth c H locs cells slots (vx_MQ below Qc XC args s mc ms free) (F0 m pc ls rest) := by
  intro T hT X
  have htr : e.platform.stackTraces = false := (show e.platform.stackTraces = l.stackTraces by rw [X.admits.platform]).trans hl
  have Y := vx_rebase X (R' := { frames := R.frames, locals := R.locals, cells := 1, slots := 6 }) (Nat.le_refl _) (Nat.le_refl _) hRcells hRslots
  obtain ⟨s', hA⟩ : ∃ z, z = (T.setVm s.vm).setFrames (.invoking m args :: below) := ⟨_, rfl⟩
  rw [← hA] at Y
  have hvm : s'.vm = s.vm := by rw [hA]; rfl
  have hhp : s'.heap = H := by rw [hA]; exact hT
  have hW0 : s.WarmedH s'.vm := by rw [hvm]; exact State.WarmedH.refl s
  have hat' : ∀ w ∈ vx_atS own ic cls names, w.before args s' = true := fun w hw => vx_ot_at hW0 hvm.symm (hgood w (List.mem_cons_of_mem _ (List.mem_cons_of_mem _ hw))) (hat w hw)
  have hk' : (Cond.classLink own ik cls).before args s' = true := vx_ot_at hW0 hvm.symm (hgood _ List.mem_cons_self) hk
  have hini' : (Cond.initialized cls).before args s' = true := vx_ot_at hW0 hvm.symm (hgood _ (List.mem_cons_of_mem _ List.mem_cons_self)) hini
  have hU' : vx_Zq Bundle.tN "UNASSIGNED_STACK" Bundle.steD A s' s'.heap := by rw [hhp]; exact vx_Zq.moved hW0.alike (hU.kept hS.2.1)
  have hN' : vx_Zq Bundle.tN "SUPPRESSED_SENTINEL" Bundle.listD A s' s'.heap := by rw [hhp]; exact vx_Zq.moved hW0.alike (hN.kept hS.2.1)
  have h : ∀ w ∈ Bundle.ownAtoms own ic cls names, w.before args s' = true := vx_own hat' (vx_isRefq hU'.1) (vx_isRefq hN'.1) hU'.2.word hN'.2.word
  have hown' : s'.vm.findClass own = some m.cls := by rw [hvm]; exact hown
  have hins : (Cond.instantiable cls 6).before args s' = true := h _ (by simp [Bundle.ownAtoms])
  obtain ⟨vm₁, cX, kX, hfX, hkX, -, -, X₁, st1⟩ := Y.newCold hexec (own := own) (C := cls) (index := ik) (n := 6) hown' hk' hins hini'
    (g := F0 m pc ls rest) rfl (by rw [hb]; exact d0) (Nat.le_refl _) (Nat.le_refl _)
  generalize hT1 : (T.setVm vm₁).pushCell { cls := cX, slots := kX.instanceTypes.map defaultValue, vm := .none } = T1 at X₁ st1
  have hcat : (Value.ref T.heap.size).category = 1 := rfl
  have hcellA : T1.heap[T.heap.size]? = some (freshCell cX kX) := by rw [← hT1]; exact State.heap_pushCell_size _ _
  have d3' : decode c.code (pc + 3) = .ok (.dup, 1) := by rw [hb]; exact d3
  have d4' : decode c.code (pc + 4) = .ok (.ldc is, 2) := by rw [hb]; exact d4
  have hstr' : vk_R own is text sa s' := vk_R.warm hW0 hstr
  obtain ⟨U, hsteps, hrun, hend, hW, hsame, ce, hce, hO⟩ := X₁.ctorThrowS hexec htr (own := own) (cls := cls) (names := names) (ic := ic) hown' hcls hnames h (fun x hx => nomatch hx) hfX hkX hcellA (by rw [hhp, hT]; exact Nat.le_refl _) (msg := .ref sa) rfl
    (g := { method := m, pc := pc + 6, locals := ls, stack := .ref sa :: .ref T.heap.size :: .ref T.heap.size :: rest, locked := none }) rfl hsize rfl rfl (rest := rest) rfl
    (by rw [hb]; exact d6) (by rw [hb]; exact d9) hout hRframes (by simp only [List.map_cons, List.sum_cons, hcat]; omega) hlocks
  obtain ⟨f1, f2⟩ := vx_frame hsame
  rw [hhp] at f1 f2
  have hWs : s.WarmedH U.vm := State.WarmedH.trans hW0 hW
  have hcl : s.vm.findClass cls = some ce.cls := by
    have h9 := hO.cls
    rw [hvm] at h9
    exact h9
  have hall : s.sameButNew ({ U with vm := s.vm } : State) locs mc ms := by
    subst hA
    obtain ⟨e1, e2⟩ := hsame
    rw [State.setFrames_setFrames] at e1
    have h2 : (T.setVm s.vm).sameButNew ({ U with vm := s.vm } : State) [] (0 + 1) (0 + 6) := ⟨e1, e2⟩
    have h3 := X.same.trans h2
    rw [List.append_nil] at h3
    exact h3.mono hc hs
  refine ⟨U, ?_, .threw T.heap.size, hrun, hend, Or.inr ⟨T.heap.size, rfl, cls, ce, locs, hx U hWs.alike f1 (fun q hq => f2 q hq (fun z hz => nomatch hz)), hce, hO.vm, hcl, hWs, hall, hf⟩⟩
  refine st1 _ ?_
  show Steps p.tables e below (T1.setTop { method := m, pc := pc + 3, locals := ls, stack := .ref T.heap.size :: rest, locked := none }) _
  jvm_step X₁.here [X₁.here.top, hexec, d3', Value.category]
  exact X₁.ldcString hexec (own := own) (text := text) (index := is) (a := sa) hown' hstr'.1 hstr'.2
    (g := { method := m, pc := pc + 4, locals := ls, stack := .ref T.heap.size :: .ref T.heap.size :: rest, locked := none }) rfl d4' _ hsteps
/-- 'throw new E("text")', the text by a wide index -/
theorem vx_throwSW {cc : ByteArray} {pc : Nat} (hexec : p.tables.exec = Jvm.exec) (hb : c.code = cc) (hl : l.stackTraces = false) {own cls text : String} {names : List String} {ik is ic mc ms sa : Nat} {A : Nat → Prop}
    (hown : s.vm.findClass own = some m.cls) (hcls : Bundle.fit cls = true) (hnames : ∀ n ∈ names, Bundle.fit n = true)
    (hk : (Cond.classLink own ik cls).before args s = true) (hini : (Cond.initialized cls).before args s = true) (hstr : vk_R own is text sa s) (hat : ∀ w ∈ vx_atS own ic cls names, w.before args s = true)
    (hgood : ∀ w ∈ Cond.classLink own ik cls :: Cond.initialized cls :: vx_atS own ic cls names, vx_ot w = true)
    (hU : vx_Zq Bundle.tN "UNASSIGNED_STACK" Bundle.steD A s s.heap) (hN : vx_Zq Bundle.tN "SUPPRESSED_SENTINEL" Bundle.listD A s s.heap) (hS : va_S A s.heap H locs) (hsize : ls.size = c.maxLocals)
    (d0 : decode cc pc = .ok (.new ik, 3)) (d3 : decode cc (pc + 3) = .ok (.dup, 1)) (d4 : decode cc (pc + 4) = .ok (.ldc_w is, 3)) (d7 : decode cc (pc + 7) = .ok (.invokespecial ic, 3)) (d10 : decode cc (pc + 10) = .ok (.athrow, 1))
    (hout : ∀ x ∈ c.exceptionTable.toList, covers x (pc + 10) = false)
    (hRframes : names.length + 3 < R.frames) (hRlocals : (rest.map fun v => v.category).sum + (13 * (names.length + 1) + 43) ≤ R.locals) (hRcells : cells + 1 ≤ R.cells) (hRslots : slots + 6 ≤ R.slots) (hlocks : meth.locks = false)
    (hx : ∀ t : State, s.vm.Alike t.vm → H.size ≤ t.heap.size → (∀ q : Nat, q < H.size → t.heap[q]? = H[q]?) → XC cls s t)
    (hf : ∀ z ∈ locs, free z.base) (hc : cells + 1 ≤ mc) (hs : slots + 6 ≤ ms) :
    W p l e R s m args below meth c H locs cells slots (vx_MQ below Qc XC args s mc ms free) (F0 m pc ls rest) := by
  intro T hT X
  have htr : e.platform.stackTraces = false := (show e.platform.stackTraces = l.stackTraces by rw [X.admits.platform]).trans hl
  have Y := vx_rebase X (R' := { frames := R.frames, locals := R.locals, cells := 1, slots := 6 }) (Nat.le_refl _) (Nat.le_refl _) hRcells hRslots
  obtain ⟨s', hA⟩ : ∃ z, z = (T.setVm s.vm).setFrames (.invoking m args :: below) := ⟨_, rfl⟩
  rw [← hA] at Y
  have hvm : s'.vm = s.vm := by rw [hA]; rfl
  have hhp : s'.heap = H := by rw [hA]; exact hT
  have hW0 : s.WarmedH s'.vm := by rw [hvm]; exact State.WarmedH.refl s
  have hat' : ∀ w ∈ vx_atS own ic cls names, w.before args s' = true := fun w hw => vx_ot_at hW0 hvm.symm (hgood w (List.mem_cons_of_mem _ (List.mem_cons_of_mem _ hw))) (hat w hw)
  have hk' : (Cond.classLink own ik cls).before args s' = true := vx_ot_at hW0 hvm.symm (hgood _ List.mem_cons_self) hk
  have hini' : (Cond.initialized cls).before args s' = true := vx_ot_at hW0 hvm.symm (hgood _ (List.mem_cons_of_mem _ List.mem_cons_self)) hini
  have hU' : vx_Zq Bundle.tN "UNASSIGNED_STACK" Bundle.steD A s' s'.heap := by rw [hhp]; exact vx_Zq.moved hW0.alike (hU.kept hS.2.1)
  have hN' : vx_Zq Bundle.tN "SUPPRESSED_SENTINEL" Bundle.listD A s' s'.heap := by rw [hhp]; exact vx_Zq.moved hW0.alike (hN.kept hS.2.1)
  have h : ∀ w ∈ Bundle.ownAtoms own ic cls names, w.before args s' = true := vx_own hat' (vx_isRefq hU'.1) (vx_isRefq hN'.1) hU'.2.word hN'.2.word
  have hown' : s'.vm.findClass own = some m.cls := by rw [hvm]; exact hown
  have hins : (Cond.instantiable cls 6).before args s' = true := h _ (by simp [Bundle.ownAtoms])
  obtain ⟨vm₁, cX, kX, hfX, hkX, -, -, X₁, st1⟩ := Y.newCold hexec (own := own) (C := cls) (index := ik) (n := 6) hown' hk' hins hini'
    (g := F0 m pc ls rest) rfl (by rw [hb]; exact d0) (Nat.le_refl _) (Nat.le_refl _)
  generalize hT1 : (T.setVm vm₁).pushCell { cls := cX, slots := kX.instanceTypes.map defaultValue, vm := .none } = T1 at X₁ st1
  have hcat : (Value.ref T.heap.size).category = 1 := rfl
  have hcellA : T1.heap[T.heap.size]? = some (freshCell cX kX) := by rw [← hT1]; exact State.heap_pushCell_size _ _
  have d3' : decode c.code (pc + 3) = .ok (.dup, 1) := by rw [hb]; exact d3
  have d4' : decode c.code (pc + 4) = .ok (.ldc_w is, 3) := by rw [hb]; exact d4
  have hstr' : vk_R own is text sa s' := vk_R.warm hW0 hstr
  obtain ⟨U, hsteps, hrun, hend, hW, hsame, ce, hce, hO⟩ := X₁.ctorThrowS hexec htr (own := own) (cls := cls) (names := names) (ic := ic) hown' hcls hnames h (fun x hx => nomatch hx) hfX hkX hcellA (by rw [hhp, hT]; exact Nat.le_refl _) (msg := .ref sa) rfl
    (g := { method := m, pc := pc + 7, locals := ls, stack := .ref sa :: .ref T.heap.size :: .ref T.heap.size :: rest, locked := none }) rfl hsize rfl rfl (rest := rest) rfl
    (by rw [hb]; exact d7) (by rw [hb]; exact d10) hout hRframes (by simp only [List.map_cons, List.sum_cons, hcat]; omega) hlocks
  obtain ⟨f1, f2⟩ := vx_frame hsame
  rw [hhp] at f1 f2
  have hWs : s.WarmedH U.vm := State.WarmedH.trans hW0 hW
  have hcl : s.vm.findClass cls = some ce.cls := by
    have h9 := hO.cls
    rw [hvm] at h9
    exact h9
  have hall : s.sameButNew ({ U with vm := s.vm } : State) locs mc ms := by
    subst hA
    obtain ⟨e1, e2⟩ := hsame
    rw [State.setFrames_setFrames] at e1
    have h2 : (T.setVm s.vm).sameButNew ({ U with vm := s.vm } : State) [] (0 + 1) (0 + 6) := ⟨e1, e2⟩
    have h3 := X.same.trans h2
    rw [List.append_nil] at h3
    exact h3.mono hc hs
  refine ⟨U, ?_, .threw T.heap.size, hrun, hend, Or.inr ⟨T.heap.size, rfl, cls, ce, locs, hx U hWs.alike f1 (fun q hq => f2 q hq (fun z hz => nomatch hz)), hce, hO.vm, hcl, hWs, hall, hf⟩⟩
  refine st1 _ ?_
  show Steps p.tables e below (T1.setTop { method := m, pc := pc + 3, locals := ls, stack := .ref T.heap.size :: rest, locked := none }) _
  jvm_step X₁.here [X₁.here.top, hexec, d3', Value.category]
  exact X₁.ldcStringW hexec (own := own) (text := text) (index := is) (a := sa) hown' hstr'.1 hstr'.2
    (g := { method := m, pc := pc + 4, locals := ls, stack := .ref T.heap.size :: .ref T.heap.size :: rest, locked := none }) rfl d4' _ hsteps
end Ends
section Bodies
variable {l : Launch}
theorem vx_ofW {y : MethodName} {ws ws' : List Cond} {rm : Room} {Pc : Array Value → State → Prop} {Qc : Array Value → State → Outcome → State → Prop} {XC : String → State → State → Prop} {mc ms : Nat} {free : Addr → Prop} {cc : ByteArray} {maxL : Nat} {ret : Option FieldType}
    (hy : plainName y.cls = true) (hw : ws = Cond.code y cc maxL ret :: ws')
    (body : ∀ p e s m args below meth c s₁, BodyLoose p l y (headSpec ws rm) cc maxL ret e s m args below meth c s₁ → c.maxLocals = maxL → (∀ x ∈ c.exceptionTable.toList, False) → Pc args s →
      W p l e (headSpec ws rm).room s m args below meth c s.heap [] 0 0 (vx_MQ below Qc XC args s mc ms free) (entryFrame m args maxL)) : vx_Met l y ws rm Pc Qc XC mc ms free := by
  refine MetFree.of_bodyS (code := cc) (maxLocals := maxL) (ret := ret) hy ?_ ?_
  · intro args s m h hn
    obtain ⟨meth, c, h1, h2, h3, h4, h5, h6, -, -⟩ := Cond.code_spec hn (atoms_spec (ws := ws) h _ (by rw [hw]; exact List.mem_cons_self))
    exact ⟨meth, c, h1, h2, h3, h4, h5, h6⟩
  · intro p e s m args below meth c s₁ B hml hP _
    have hh0 : s₁.heap = s.heap := by rw [B.state]; rfl
    have ht : ∀ x ∈ c.exceptionTable.toList, False := by
      obtain ⟨meth9, c9, h1, h2, -, -, -, -, h7, -⟩ := Cond.code_spec B.named (atoms_spec (ws := ws) B.pre _ (by rw [hw]; exact List.mem_cons_self))
      cases Option.some.inj (h1.symm.trans B.method)
      cases Option.some.inj (h2.symm.trans (Stand.of_body B).code)
      intro x hx
      rw [Array.isEmpty_iff.mp h7] at hx
      cases hx
    obtain ⟨t, a1, o, b1, b2, b3⟩ := body p e s m args below meth c s₁ B hml ht hP s₁ hh0 (Stand.of_body B)
    exact ⟨t, o, a1, b1, b2, b3⟩
/-- the table of a body with handlers -/
theorem vx_table {p : Program} {x y : MethodName} {S : Spec} {cc bytes : ByteArray} {maxL maxL' : Nat} {ret ret' : Option FieldType} {e : Env} {s s₁ : State} {m : MethodId} {args : Array Value} {below : List Frame} {meth : Method} {c : Code} {hh : List (Nat × Nat × Nat × Nat)}
    (B : BodyLoose p l y S cc maxL ret e s m args below meth c s₁) (h : (Cond.codeWith y bytes maxL' ret' hh).before args s = true) : c.exceptionTable.toList = tableOf hh := by
  obtain ⟨m9, meth9, c9, hn9, h1, h2, -, -, h6, -⟩ := Cond.codeWith_spec h
  cases Option.some.inj (hn9.symm.trans B.named)
  cases Option.some.inj (h1.symm.trans B.method)
  cases Option.some.inj (h2.symm.trans (Stand.of_body B).code)
  rw [← h6, table_eq]
end Bodies
end VXA
/-! ===== END ===== -/
/-! ===== BEGIN a static call of a method with an exception table ===== -/
section VXS
variable {p : Program} {l : Launch} {e : Env} {R : Room} {s : State} {m : MethodId} {args : Array Value} {below : List Frame} {meth : Method} {c : Code} {T : State} {H : Heap} {locs : List Loc} {cells slots : Nat}
abbrev vx_CSW (R : Room) (s : State) (args : Array Value) (own : String) (index : Nat) (y : MethodName) (bytes : ByteArray) (maxL : Nat) (ret : Option FieldType) (hh : List (Nat × Nat × Nat × Nat)) (ws : List Cond) (rm : Room) (mc ms n : Nat) : Prop :=
  (rm.cells = mc ∧ rm.slots = ms ∧ rm.frames + 1 ≤ R.frames ∧ 8 + (maxL + 11) + rm.locals ≤ R.locals ∧ (∀ w ∈ ws, ∀ (a' : Array Value) (U : State), s.WarmedH U.vm → w.before a' U = true) ∧ Cond.codeWith y bytes maxL ret hh ∈ ws) ∧
  (Cond.codeWith y bytes maxL ret hh).before args s = true ∧ (Cond.initialized y.cls).before args s = true ∧ (y.cls ≠ "java/lang/invoke/MethodHandle" ∧ y.cls ≠ "java/lang/invoke/VarHandle") ∧
  (∀ sig, parseMethodDescriptor y.desc = some sig → n = sig.parameters.length) ∧ (Cond.methodLink own index y).before args s = true ∧ (Cond.static y).before args s = true
theorem vx_cwSW {own : String} {index maxL mc ms : Nat} {y : MethodName} {bytes : ByteArray} {ret : Option FieldType} {hh : List (Nat × Nat × Nat × Nat)} {Ts ws ws' : List Cond} {rm : Room} (n : Nat) (ht : ∀ w ∈ Ts, w.before args s = true) (hT : GoodIn Ts (va_wsS own index y ws)) (hw : ws = Cond.codeWith y bytes maxL ret hh :: ws') (hrc : rm.cells = mc) (hrs : rm.slots = ms)
    (hd : y.cls ≠ "java/lang/invoke/MethodHandle" ∧ y.cls ≠ "java/lang/invoke/VarHandle" ∧ (parseMethodDescriptor y.desc).map (fun d => d.parameters.length) = some n) (hR : rm.frames + 1 ≤ R.frames ∧ 8 + (maxL + 11) + rm.locals ≤ R.locals) :
    vx_CSW R s args own index y bytes maxL ret hh ws rm mc ms n := by
  have ok : ∀ w ∈ va_wsS own index y ws, w.before args s = true := fun w h => ht w (hT w h).1
  have hG : GoodIn Ts ws := fun w h => hT w (by unfold va_wsS; exact List.mem_append_right _ h)
  have hc : Cond.codeWith y bytes maxL ret hh ∈ ws := by rw [hw]; exact List.mem_cons_self
  refine ⟨⟨hrc, hrs, hR.1, hR.2, pay_in ht hG, hc⟩, ht _ (hG _ hc).1, ok _ (by simp [va_wsS]), ⟨hd.1, hd.2.1⟩, fun sig h => ?_, ok _ (by simp [va_wsS]), ok _ (by simp [va_wsS])⟩
  have h2 := hd.2.2
  rw [h] at h2
  exact (Option.some.inj h2).symm
theorem vx_callSW (X : Stand p l e R s m args below meth c T locs cells slots) (hexec : p.tables.exec = Jvm.exec) {own : String} {index : Nat} {y : MethodName} {bytes : ByteArray} {maxL : Nat} {ret : Option FieldType} {hh : List (Nat × Nat × Nat × Nat)}
    (hown : s.vm.findClass own = some m.cls) (hlink : (Cond.methodLink own index y).before args s = true) (hstat : (Cond.static y).before args s = true) (hinit : (Cond.initialized y.cls).before args s = true)
    (hcode : (Cond.codeWith y bytes maxL ret hh).before args s = true) (hy : y.cls ≠ "java/lang/invoke/MethodHandle" ∧ y.cls ≠ "java/lang/invoke/VarHandle")
    {W9 : Nat} {Pre : Pt → Array Value → Prop} {Post : Pt → Array Value → Option Value → Pt → Prop} (hK : Back l R p e below s args y 3 W9 Pre Post)
    {g : JFrame} (hg : g.method = m) (hsize : g.locals.size = c.maxLocals) {argsL rest : List Value} (hlen : ∀ sig, parseMethodDescriptor y.desc = some sig → argsL.length = sig.parameters.length)
    (hstack : g.stack = argsL.reverse ++ rest) (hW : 2 * g.monitorRoom + (rest.map fun v => v.category).sum ≤ W9) (hdg : decode c.code g.pc = .ok (.invokestatic index, 3))
    (hpre : ∀ vm₁, s.WarmedH vm₁ → Pre ⟨T.setVm vm₁, locs, cells, slots⟩ argsL.toArray) :
    ∃ (v : Option Value) (vm₁ : Vm) (B : Pt), s.WarmedH vm₁ ∧ Stand p l e R s m args below meth c B.U B.locs B.cells B.slots ∧ Post ⟨T.setVm vm₁, locs, cells, slots⟩ argsL.toArray v B ∧
      ∀ target, Steps p.tables e below (B.U.setTop { g with pc := g.pc + 3, stack := v.toList ++ rest }) target → Steps p.tables e below (T.setTop g) target := by
  obtain ⟨mk, methM, cM, hnamed, hmethM, -, -, -, -, -, -, hsigM⟩ := Cond.codeWith_spec hcode
  have hstatic : methM.isStatic = true := Cond.static_spec hnamed hmethM hstat
  obtain ⟨kP, hkP, -⟩ := className_of_methodNamed hnamed
  have hinitP : kP.init = .initialized := Cond.initialized_spec (findClass_of_methodNamed hnamed) hkP hinit
  obtain ⟨vm₁, X₁, hstep₁⟩ := X.invokestatic hexec hown hlink hnamed hmethM hstatic hkP hinitP hy (g := g) hg (argsL := argsL) (rest := rest) (hlen _ hsigM) hstack hdg
  obtain ⟨v, B, X', hpost, hsteps⟩ := hK m meth c ⟨T.setVm vm₁, locs, cells, slots⟩ { g with stack := rest } (.invokestatic index) mk argsL.toArray X₁ hg hsize hdg hW (X₁.named hnamed) (hpre vm₁ X₁.warmed)
  exact ⟨v, vm₁, B, X₁.warmed, X', hpost, fun target h => hstep₁ _ fun acts => by rw [doInvoke_state]; exact hsteps.trans h⟩
theorem vx_runSW {y : MethodName} {bytes cc : ByteArray} {maxL nL mc ms n index : Nat} {ret : Option FieldType} {hh : List (Nat × Nat × Nat × Nat)} {ws : List Cond} {rm : Room} {Pc : Array Value → State → Prop} {Qc : Array Value → State → Outcome → State → Prop} {free : Addr → Prop} {Ts : List Cond} {own : String} {As rest : List Value} {g : JFrame}
    (S : CallFix p m c cc nL s args Ts own) (hM : Met l y ws rm Pc Qc mc ms free) (cw : vx_CSW R s args own index y bytes maxL ret hh ws rm mc ms n) (hp : PreS s H Pc As)
    (hg : g.method = m) (hn : As.length = n) (hsize : g.locals.size = nL) (hstack : g.stack = As.reverse ++ rest) (hW : 2 * g.monitorRoom + (rest.map fun v => v.category).sum ≤ 8) (hdg : decode cc g.pc = .ok (.invokestatic index, 3)) (hf : cells + mc ≤ R.cells ∧ slots + ms ≤ R.slots) :
    va_Run p l e R s m args below meth c H locs cells slots mc ms g rest (Qc As.toArray) (free) := by
  obtain ⟨⟨hrc, hrs, hfr, hlo, hws, hcw⟩, hcode, hini, hy, hlen, hl, hstt⟩ := cw
  have hK : Back l R p e below s args y 3 8 (PreOf R mc ms Pc) (PostOf Qc mc ms free) := va_backW (hh := hh) (bytes := bytes) (maxL := maxL) (ret := ret) hM hp.1 hrc hrs hfr hlo hws hcw (fun a' U hW => word_at hW (Or.inl (by first | rfl | simp [Cond.onTables, Cond.keeps, Cond.steady])) hini)
  obtain ⟨hx, hb, hml, ho, -⟩ := S
  intro T hT X
  obtain ⟨v, vm₁, ⟨U', l2, c2, s2⟩, hW₁, X', ⟨g', mk, t, L, e1, e2, hq, h1, hL, h2, h3⟩, st⟩ := vx_callSW X hx (hh := hh) (bytes := bytes) (maxL := maxL) (ret := ret) ho hl hstt hini hcode hy hK hg (hsize.trans hml.symm) (argsL := As) (rest := rest) (fun sig h => hn.trans (hlen sig h)) hstack hW (by rw [hb]; exact hdg)
    (fun vm₁ hW₁ => ⟨hf.1, hf.2, hp.2 (T.setVm vm₁) hT hW₁⟩)
  dsimp only [Pt.U, Pt.locs, Pt.cells, Pt.slots] at X' e1 e2 h1 h2 h3 st
  subst h1; subst h2; subst h3
  exact ⟨v, (T.setVm vm₁).calling g' mk As.toArray, t, U', L, hT, X', hL, e1, e2, hq, st⟩
/-- not caught here, past rows that name other classes: it goes on to the caller -/
theorem vx_outP {p : Program} {l : Launch} {e : Env} {R : Room} {s : State} {m : MethodId} {args : Array Value} {below : List Frame} {meth : Method} {c : Code} {H : Heap} {locs : List Loc} {cells slots : Nat} {free : Addr → Prop} {ls : Array Slot} {rest : List Value} {Qc : Array Value → State → Outcome → State → Prop} {XC : String → State → State → Prop}
    {pc : Nat} {own E : String} {ce : Cell} {q : Addr} {mc ms : Nat} (hown : s.vm.findClass own = some m.cls) (hlocks : meth.locks = false)
    (hpass : ∀ z ∈ c.exceptionTable.toList, covers z pc = false ∨ (z.catchType ≠ 0 ∧ ∃ nm : String, (Cond.classLink own z.catchType nm).before args s = true ∧ va_Nc E nm s)) (hcell : H[q]? = some ce) (hv : ce.vm = .none) (hcl : s.vm.findClass E = some ce.cls)
    (hx : ∀ t : State, t.heap = H → s.vm.Alike t.vm → XC E s t) (hf : ∀ z ∈ locs, free z.base) (hc : cells ≤ mc) (hs : slots ≤ ms) :
    vx_W p l e R s m args below meth c H locs cells slots (vx_MQ below Qc XC args s mc ms free) (F0 m pc ls rest) q := by
  intro T hT X
  have hpl : e.platform.magicAccessors = ({} : Platform).magicAccessors := by rw [X.admits.platform]
  obtain ⟨vm', hW', X', st⟩ := X.outThrough hlocks q (g := F0 m pc ls rest) rfl rfl rfl (cell := ce) (by rw [hT]; exact hcell) (by rw [hv]; rfl)
    (by obtain ⟨k9, h9, -⟩ := Vm.findClass_spec hcl; exact ⟨k9, h9⟩) (fun z hz => by
      rcases hpass z hz with h | ⟨hz0, nm, hl1, hn1⟩
      · exact Or.inl h
      · obtain ⟨c6, hc6, hcl6⟩ := Cond.classLink_spec hown hl1 e.platform hpl
        obtain ⟨a8, b8, h1, h2, h3⟩ := hn1
        cases Option.some.inj (h1.symm.trans hcl)
        cases Option.some.inj (h2.symm.trans hc6)
        exact Or.inr ⟨hz0, _, hcl6, h3⟩)
  obtain ⟨g₀, hfr⟩ := X'.frames_eq
  have hcell9 : ((T.setVm vm').setFrames (.throwing q :: below)).heap[q]? = some ce := by
    show T.heap[q]? = some ce
    rw [hT]; exact hcell
  have hend : Ended ((T.setVm vm').setFrames (.throwing q :: below)) below (.threw q) := State.frames_setFrames _ (State.cur_lt_of_frames hfr)
  refine ⟨(T.setVm vm').setFrames (.throwing q :: below), ?_, .threw q, X'.here.running, hend, Or.inr ⟨q, rfl, E, ce, locs, hx _ hT (X'.ends _).1.alike, hcell9, hv, hcl, (X'.ends _).1, (X'.ends _).2.mono hc hs, hf⟩⟩
  rw [X.pushThrowing_eq]
  exact st
/-- a thing of a world lies in the heap -/
theorem vx_lt {D : va_G} {cl : List vw_C} {ws : va_W} {H1 : Heap} (h : va_P D cl ws H1) {k : Nat} {q : Nat × va_E} (hk : ws[k]? = some q) : q.1 < H1.size := (h k q hk).lt
end VXS
/-! ===== END ===== -/
/-! ===== BEGIN methods with a table of their own: called by a name, returning or throwing ===== -/
section VXH
/-! vx_backW, vx_callVX, vx_callSX, vx_callVW, vx_runVW, vx_runVX, vx_runSX, vx_ofWH follow the same proofs as their sisters above (Free/Laws.lean, Shelf42/LK1.lean); vx_outP calls Shelf42/NT130.lean (outThrough). -/
section
variable {l : Launch} {R : Room} {p : Program} {e : Env} {below : List Frame} {s : State} {sargs : Array Value} {y : MethodName} {len W9 : Nat}
theorem vx_backW {ws : List Cond} {rm : Room} {Pc : Array Value → State → Prop} {Qc : Array Value → State → Outcome → State → Prop} {XC : String → State → State → Prop} {mc ms : Nat} {free : Addr → Prop} {bytes : ByteArray} {maxL : Nat} {ret : Option FieldType} {hh : List (Nat × Nat × Nat × Nat)}
    (hM : vx_Met l y ws rm Pc Qc XC mc ms free) (hblind : FrameBlind Pc) (hrc : rm.cells = mc) (hrs : rm.slots = ms)
    (hframes : rm.frames + 1 ≤ R.frames) (hlocals : W9 + (maxL + 11) + rm.locals ≤ R.locals)
    (hws : ∀ w ∈ ws, ∀ a' U, s.WarmedH U.vm → w.before a' U = true) (hcode : Cond.codeWith y bytes maxL ret hh ∈ ws) (hinit : ∀ a' U, s.WarmedH U.vm → (Cond.initialized y.cls).before a' U = true) :
    vx_Back l R p e below s sargs y len W9 (PreOf R mc ms Pc) (PostOf Qc mc ms free) (vx_Post XC mc ms free) := by
  intro m meth c A g ig mk a X hg hsize hdg hW hn hp
  have h1 : (headSpec ws rm).pre.before a A.U = true := atoms_intro fun w hw => hws w hw _ _ X.warmed
  have h2 : (Cond.codeWith y bytes maxL ret hh).before a A.U = true := hws _ hcode _ _ X.warmed
  have h3 : (Cond.initialized y.cls).before a A.U = true := hinit _ _ X.warmed
  have h4 : A.cells + (headSpec ws rm).room.cells ≤ R.cells := by rw [show (headSpec ws rm).room.cells = mc from hrc]; exact hp.1
  have h5 : A.slots + (headSpec ws rm).room.slots ≤ R.slots := by rw [show (headSpec ws rm).room.slots = ms from hrs]; exact hp.2.1
  have hPc : Pc a (A.U.calling g mk a) := hblind _ _ _ _ hp.2.2
  obtain ⟨U, Ls, c0, s0⟩ := A
  dsimp only [Pt.U, Pt.locs, Pt.cells, Pt.slots] at h1 h2 h3 h4 h5 X hn hPc ⊢
  obtain ⟨m9, methY, cY, hn9, hmY, hcY, -, hlY, -⟩ := Cond.codeWith_spec h2
  cases Option.some.inj (hn9.symm.trans hn)
  obtain ⟨kY, hkY, -⟩ := className_of_methodNamed hn
  have hinitY : kY.init = .initialized := Cond.initialized_spec (findClass_of_methodNamed hn) hkY h3
  have h : At U g.method c below := by rw [hg]; exact X.here
  have hlocals9 : W9 + (maxL + 11) + (headSpec ws rm).room.locals ≤ R.locals := hlocals
  have happ : (headSpec ws rm).appliesLoose y e.platform (U.calling g mk a) = true :=
    Spec.appliesLoose_calling (g := g) h hdg hn hkY hinitY
      (X.room_calling (g := g) (R' := (headSpec ws rm).room) hsize hmY hcY hframes (by rw [hlY]; omega) h4 h5) h1
  obtain ⟨mid, hmid⟩ := h.above
  have hfr : (U.setTop g).frames = (.java g :: mid) ++ below := by rw [State.frames_setTop' g h.top, hmid]; rfl
  obtain ⟨o, s₂, hsteps, -, hend, hq⟩ := Steps.callFree hM p X.admits X.cas X.clock (acts := []) hfr happ hPc trivial
  have hq' : vx_Q Qc XC mc ms free a (U.calling g mk a) o s₂ := hq
  rw [State.frames_setTop' g h.top] at hend
  obtain ⟨g₀, hg0⟩ := Option.isSome_iff_exists.mp h.top
  obtain ⟨r, hr⟩ := State.topJava?_eq_some.mp hg0
  have hr' : (({ U with heap := s₂.heap, slotsUsed := s₂.slotsUsed } : State).setVm s₂.vm).frames = .java g₀ :: r := hr
  rcases hq' with ⟨hqc, L, hfe, hL⟩ | ⟨q, rfl, E, ce, L, hx, hce, hcv, hcl, hW₂, hsm, hL⟩
  · obtain ⟨⟨v, rfl⟩, hW₂, e2, q2, q3, q4, q5, q6⟩ := id hfe
    have e3 : s₂ = ({ (U.calling g mk a).setFrames s₂.frames with heap := s₂.heap, slotsUsed := s₂.slotsUsed } : State).setVm s₂.vm := by
      have : s₂ = ({ s₂ with vm := (U.calling g mk a).vm } : State).setVm s₂.vm := rfl
      rw [e2] at this
      exact this
    obtain ⟨c₂, i₂, len₂, hc₂, hd₂, hf₂⟩ := hend
    have hW' : U.WarmedH s₂.vm := hW₂
    have hcc : c₂ = c := by
      have h1 : s₂.code? g.method = U.code? g.method := by
        rw [State.code?_eq, State.code?_eq, hW'.alike.method?]
      exact Option.some.inj (hc₂.symm.trans (h1.trans h.code))
    subst hcc
    have hlen : len₂ = len := by rw [hdg] at hd₂; cases hd₂; rfl
    subst hlen
    have hs₂ : s₂ = (({ U with heap := s₂.heap, slotsUsed := s₂.slotsUsed } : State).setVm s₂.vm).setTop { g with pc := g.pc + len₂, stack := v.toList ++ g.stack } := by
      refine e3.trans ?_
      rw [hf₂, State.calling_eq h.top, State.setFrames_setFrames, State.setTop_of_frames _ hr', hr]
      rfl
    have hsame : U.sameButNew ({ U with heap := s₂.heap, slotsUsed := s₂.slotsUsed } : State) L mc ms := by
      refine ⟨?_, q2, q3, q4, q5, q6⟩
      obtain ⟨t, ht, -⟩ := State.frames_cons hr
      show ({ U with heap := s₂.heap, slotsUsed := s₂.slotsUsed } : State) = { U.setFrames U.frames with heap := s₂.heap, slotsUsed := s₂.slotsUsed }
      rw [State.setFrames_self ht]
    subst hg
    refine Or.inl ⟨v, ⟨(({ U with heap := s₂.heap, slotsUsed := s₂.slotsUsed } : State).setVm s₂.vm), Ls ++ L, c0 + mc, s0 + ms⟩,
      ⟨X.admits, X.cas, X.clock, X.frames, X.room, X.hears, X.method, X.code, (X.here.setHeapUsed s₂.heap s₂.slotsUsed).setVm hW'.alike, X.tail, State.WarmedH.trans X.warmed hW', X.limits, X.bytes, X.same.trans (hsame.setVm s.vm)⟩,
      ⟨g, mk, s₂, L, rfl, rfl, hqc, rfl, hL, rfl, rfl⟩, ?_⟩
    show Steps p.tables e below _ ((({ U with heap := s₂.heap, slotsUsed := s₂.slotsUsed } : State).setVm s₂.vm).setTop { g with pc := g.pc + len₂, stack := v.toList ++ g.stack })
    rw [← hs₂]
    exact hsteps
  · obtain ⟨e2, q2, q3, q4, q5, q6⟩ := id hsm
    have e3 : s₂ = ({ (U.calling g mk a).setFrames s₂.frames with heap := s₂.heap, slotsUsed := s₂.slotsUsed } : State).setVm s₂.vm := by
      have : s₂ = ({ s₂ with vm := (U.calling g mk a).vm } : State).setVm s₂.vm := rfl
      rw [e2] at this
      exact this
    have hf₂ : s₂.frames = .throwing q :: .java g :: U.frames.tail := hend
    have hW' : U.WarmedH s₂.vm := hW₂
    have hs₂ : s₂ = ((({ U with heap := s₂.heap, slotsUsed := s₂.slotsUsed } : State).setVm s₂.vm).setTop g).pushFrame (.throwing q) := by
      refine e3.trans ?_
      rw [hf₂, State.calling_eq h.top, State.setFrames_setFrames, State.pushFrame, State.frames_setTop _ hr', State.setTop_of_frames _ hr', State.setFrames_setFrames, hr]
      rfl
    have hsame : U.sameButNew ({ U with heap := s₂.heap, slotsUsed := s₂.slotsUsed } : State) L mc ms := by
      refine ⟨?_, q2, q3, q4, q5, q6⟩
      obtain ⟨t, ht, -⟩ := State.frames_cons hr
      show ({ U with heap := s₂.heap, slotsUsed := s₂.slotsUsed } : State) = { U.setFrames U.frames with heap := s₂.heap, slotsUsed := s₂.slotsUsed }
      rw [State.setFrames_self ht]
    subst hg
    refine Or.inr ⟨q, ⟨(({ U with heap := s₂.heap, slotsUsed := s₂.slotsUsed } : State).setVm s₂.vm), Ls ++ L, c0 + mc, s0 + ms⟩,
      ⟨X.admits, X.cas, X.clock, X.frames, X.room, X.hears, X.method, X.code, (X.here.setHeapUsed s₂.heap s₂.slotsUsed).setVm hW'.alike, X.tail, State.WarmedH.trans X.warmed hW', X.limits, X.bytes, X.same.trans (hsame.setVm s.vm)⟩,
      ⟨g, mk, s₂, L, E, ce, rfl, rfl, hx, hce, hcv, hcl, rfl, hL, rfl, rfl⟩, ?_⟩
    show Steps p.tables e below _ (((({ U with heap := s₂.heap, slotsUsed := s₂.slotsUsed } : State).setVm s₂.vm).setTop g).pushFrame (.throwing q))
    rw [← hs₂]
    exact hsteps
end
variable {p : Program} {l : Launch} {e : Env} {R : Room} {s : State} {m : MethodId} {args : Array Value} {below : List Frame} {meth : Method} {c : Code} {T : State} {H : Heap} {locs : List Loc} {cells slots : Nat}
theorem vx_callVX (X : Stand p l e R s m args below meth c T locs cells slots) (hexec : p.tables.exec = Jvm.exec) {own C : String} {index : Nat} {y : MethodName} {bytes : ByteArray} {maxL : Nat} {ret : Option FieldType} {hh : List (Nat × Nat × Nat × Nat)}
    (hown : s.vm.findClass own = some m.cls) (hlink : (Cond.methodLink own index y).before args s = true) (hinst : (Cond.instanceMethod y).before args s = true) (hsel : (Cond.selects C y y).before args s = true)
    (hcode : (Cond.codeWith y bytes maxL ret hh).before args s = true) (hy : y.cls ≠ "java/lang/invoke/MethodHandle" ∧ y.cls ≠ "java/lang/invoke/VarHandle")
    {W9 : Nat} {Pre : Pt → Array Value → Prop} {Post : Pt → Array Value → Option Value → Pt → Prop} {PostX : Pt → Array Value → Addr → Pt → Prop} (hK : vx_Back l R p e below s args y 3 W9 Pre Post PostX)
    {b : Addr} {cellB : Cell} (hcell : T.heap[b]? = some cellB) (hobj : cellB.vm.isStatics = false) (hcls : s.vm.findClass C = some cellB.cls)
    {g : JFrame} (hg : g.method = m) (hsize : g.locals.size = c.maxLocals) {argsL rest : List Value} (hlen : ∀ sig, parseMethodDescriptor y.desc = some sig → argsL.length = sig.parameters.length)
    (hstack : g.stack = argsL.reverse ++ .ref b :: rest) (hW : 2 * g.monitorRoom + (rest.map fun v => v.category).sum ≤ W9) (hdg : decode c.code g.pc = .ok (.invokevirtual index, 3))
    (hpre : ∀ vm₁, s.WarmedH vm₁ → Pre ⟨T.setVm vm₁, locs, cells, slots⟩ (Value.ref b :: argsL).toArray) :
    (∃ (v : Option Value) (vm₁ : Vm) (B : Pt), s.WarmedH vm₁ ∧ Stand p l e R s m args below meth c B.U B.locs B.cells B.slots ∧ Post ⟨T.setVm vm₁, locs, cells, slots⟩ (Value.ref b :: argsL).toArray v B ∧
      ∀ target, Steps p.tables e below (B.U.setTop { g with pc := g.pc + 3, stack := v.toList ++ rest }) target → Steps p.tables e below (T.setTop g) target) ∨
    (∃ (q : Addr) (vm₁ : Vm) (B : Pt), s.WarmedH vm₁ ∧ Stand p l e R s m args below meth c B.U B.locs B.cells B.slots ∧ PostX ⟨T.setVm vm₁, locs, cells, slots⟩ (Value.ref b :: argsL).toArray q B ∧
      Steps p.tables e below (T.setTop g) ((B.U.setTop { g with stack := rest }).pushFrame (.throwing q))) := by
  obtain ⟨mk, methM, hnamed, hmethM, hstM, habM⟩ := Cond.instanceMethod_spec hinst
  obtain ⟨m8, methM', cM, hn8, hmethM', -, -, -, -, -, -, hsigM⟩ := Cond.codeWith_spec hcode
  cases Option.some.inj (hn8.symm.trans hnamed)
  cases hmethM.symm.trans hmethM'
  obtain ⟨c2, r2, m2, q1, q2, q3, q4, kP, hkP, hkPi⟩ := Cond.selects_spec hsel
  cases hcls.symm.trans q1
  cases (State.methodFound?_of_named hnamed hy).symm.trans q2
  cases hnamed.symm.trans q3
  have hselP : selectMethod e.platform s.vm cellB.cls mk = .method mk := by rw [Launch.admits_selectMethod X.admits]; exact q4
  obtain ⟨vm₁, X₁, hstep₁⟩ := X.invokevirtual hexec hown hlink hnamed hmethM hstM hkP hkPi hy (a := b) (cell := cellB) hcell
    (fun z h => by rw [h] at hobj; cases hobj) hselP hmethM habM hkP hkPi (g := g) hg (argsL := argsL) (rest := rest) (hlen _ hsigM) hstack hdg
  rcases hK m meth c ⟨T.setVm vm₁, locs, cells, slots⟩ { g with stack := rest } (.invokevirtual index) mk (Value.ref b :: argsL).toArray X₁ hg hsize hdg hW (X₁.named hnamed) (hpre vm₁ X₁.warmed) with ⟨v, B, X', hpost, hsteps⟩ | ⟨q, B, X', hpost, hsteps⟩
  · exact Or.inl ⟨v, vm₁, B, X₁.warmed, X', hpost, fun target h => hstep₁ _ fun acts => by rw [doInvoke_state]; exact hsteps.trans h⟩
  · exact Or.inr ⟨q, vm₁, B, X₁.warmed, X', hpost, hstep₁ _ fun acts => by rw [doInvoke_state]; exact hsteps⟩
theorem vx_callSX (X : Stand p l e R s m args below meth c T locs cells slots) (hexec : p.tables.exec = Jvm.exec) {own : String} {index : Nat} {y : MethodName} {bytes : ByteArray} {maxL : Nat} {ret : Option FieldType} {hh : List (Nat × Nat × Nat × Nat)}
    (hown : s.vm.findClass own = some m.cls) (hlink : (Cond.methodLink own index y).before args s = true) (hstat : (Cond.static y).before args s = true) (hinit : (Cond.initialized y.cls).before args s = true)
    (hcode : (Cond.codeWith y bytes maxL ret hh).before args s = true) (hy : y.cls ≠ "java/lang/invoke/MethodHandle" ∧ y.cls ≠ "java/lang/invoke/VarHandle")
    {W9 : Nat} {Pre : Pt → Array Value → Prop} {Post : Pt → Array Value → Option Value → Pt → Prop} {PostX : Pt → Array Value → Addr → Pt → Prop} (hK : vx_Back l R p e below s args y 3 W9 Pre Post PostX)
    {g : JFrame} (hg : g.method = m) (hsize : g.locals.size = c.maxLocals) {argsL rest : List Value} (hlen : ∀ sig, parseMethodDescriptor y.desc = some sig → argsL.length = sig.parameters.length)
    (hstack : g.stack = argsL.reverse ++ rest) (hW : 2 * g.monitorRoom + (rest.map fun v => v.category).sum ≤ W9) (hdg : decode c.code g.pc = .ok (.invokestatic index, 3))
    (hpre : ∀ vm₁, s.WarmedH vm₁ → Pre ⟨T.setVm vm₁, locs, cells, slots⟩ argsL.toArray) :
    (∃ (v : Option Value) (vm₁ : Vm) (B : Pt), s.WarmedH vm₁ ∧ Stand p l e R s m args below meth c B.U B.locs B.cells B.slots ∧ Post ⟨T.setVm vm₁, locs, cells, slots⟩ argsL.toArray v B ∧
      ∀ target, Steps p.tables e below (B.U.setTop { g with pc := g.pc + 3, stack := v.toList ++ rest }) target → Steps p.tables e below (T.setTop g) target) ∨
    (∃ (q : Addr) (vm₁ : Vm) (B : Pt), s.WarmedH vm₁ ∧ Stand p l e R s m args below meth c B.U B.locs B.cells B.slots ∧ PostX ⟨T.setVm vm₁, locs, cells, slots⟩ argsL.toArray q B ∧
      Steps p.tables e below (T.setTop g) ((B.U.setTop { g with stack := rest }).pushFrame (.throwing q))) := by
  obtain ⟨mk, methM, cM, hnamed, hmethM, -, -, -, -, -, -, hsigM⟩ := Cond.codeWith_spec hcode
  have hstatic : methM.isStatic = true := Cond.static_spec hnamed hmethM hstat
  obtain ⟨kP, hkP, -⟩ := className_of_methodNamed hnamed
  have hinitP : kP.init = .initialized := Cond.initialized_spec (findClass_of_methodNamed hnamed) hkP hinit
  obtain ⟨vm₁, X₁, hstep₁⟩ := X.invokestatic hexec hown hlink hnamed hmethM hstatic hkP hinitP hy (g := g) hg (argsL := argsL) (rest := rest) (hlen _ hsigM) hstack hdg
  rcases hK m meth c ⟨T.setVm vm₁, locs, cells, slots⟩ { g with stack := rest } (.invokestatic index) mk argsL.toArray X₁ hg hsize hdg hW (X₁.named hnamed) (hpre vm₁ X₁.warmed) with ⟨v, B, X', hpost, hsteps⟩ | ⟨q, B, X', hpost, hsteps⟩
  · exact Or.inl ⟨v, vm₁, B, X₁.warmed, X', hpost, fun target h => hstep₁ _ fun acts => by rw [doInvoke_state]; exact hsteps.trans h⟩
  · exact Or.inr ⟨q, vm₁, B, X₁.warmed, X', hpost, hstep₁ _ fun acts => by rw [doInvoke_state]; exact hsteps⟩
theorem vx_callVW (X : Stand p l e R s m args below meth c T locs cells slots) (hexec : p.tables.exec = Jvm.exec) {own C : String} {index : Nat} {y : MethodName} {bytes : ByteArray} {maxL : Nat} {ret : Option FieldType} {hh : List (Nat × Nat × Nat × Nat)}
    (hown : s.vm.findClass own = some m.cls) (hlink : (Cond.methodLink own index y).before args s = true) (hinst : (Cond.instanceMethod y).before args s = true) (hsel : (Cond.selects C y y).before args s = true)
    (hcode : (Cond.codeWith y bytes maxL ret hh).before args s = true) (hy : y.cls ≠ "java/lang/invoke/MethodHandle" ∧ y.cls ≠ "java/lang/invoke/VarHandle")
    {W9 : Nat} {Pre : Pt → Array Value → Prop} {Post : Pt → Array Value → Option Value → Pt → Prop} (hK : Back l R p e below s args y 3 W9 Pre Post)
    {b : Addr} {cellB : Cell} (hcell : T.heap[b]? = some cellB) (hobj : cellB.vm.isStatics = false) (hcls : s.vm.findClass C = some cellB.cls)
    {g : JFrame} (hg : g.method = m) (hsize : g.locals.size = c.maxLocals) {argsL rest : List Value} (hlen : ∀ sig, parseMethodDescriptor y.desc = some sig → argsL.length = sig.parameters.length)
    (hstack : g.stack = argsL.reverse ++ .ref b :: rest) (hW : 2 * g.monitorRoom + (rest.map fun v => v.category).sum ≤ W9) (hdg : decode c.code g.pc = .ok (.invokevirtual index, 3))
    (hpre : ∀ vm₁, s.WarmedH vm₁ → Pre ⟨T.setVm vm₁, locs, cells, slots⟩ (Value.ref b :: argsL).toArray) :
    ∃ (v : Option Value) (vm₁ : Vm) (B : Pt), s.WarmedH vm₁ ∧ Stand p l e R s m args below meth c B.U B.locs B.cells B.slots ∧ Post ⟨T.setVm vm₁, locs, cells, slots⟩ (Value.ref b :: argsL).toArray v B ∧
      ∀ target, Steps p.tables e below (B.U.setTop { g with pc := g.pc + 3, stack := v.toList ++ rest }) target → Steps p.tables e below (T.setTop g) target := by
  obtain ⟨mk, methM, hnamed, hmethM, hstM, habM⟩ := Cond.instanceMethod_spec hinst
  obtain ⟨m8, methM', cM, hn8, hmethM', -, -, -, -, -, -, hsigM⟩ := Cond.codeWith_spec hcode
  cases Option.some.inj (hn8.symm.trans hnamed)
  cases hmethM.symm.trans hmethM'
  obtain ⟨c2, r2, m2, q1, q2, q3, q4, kP, hkP, hkPi⟩ := Cond.selects_spec hsel
  cases hcls.symm.trans q1
  cases (State.methodFound?_of_named hnamed hy).symm.trans q2
  cases hnamed.symm.trans q3
  have hselP : selectMethod e.platform s.vm cellB.cls mk = .method mk := by rw [Launch.admits_selectMethod X.admits]; exact q4
  obtain ⟨vm₁, X₁, hstep₁⟩ := X.invokevirtual hexec hown hlink hnamed hmethM hstM hkP hkPi hy (a := b) (cell := cellB) hcell
    (fun z h => by rw [h] at hobj; cases hobj) hselP hmethM habM hkP hkPi (g := g) hg (argsL := argsL) (rest := rest) (hlen _ hsigM) hstack hdg
  obtain ⟨v, B, X', hpost, hsteps⟩ := hK m meth c ⟨T.setVm vm₁, locs, cells, slots⟩ { g with stack := rest } (.invokevirtual index) mk (Value.ref b :: argsL).toArray X₁ hg hsize hdg hW (X₁.named hnamed) (hpre vm₁ X₁.warmed)
  exact ⟨v, vm₁, B, X₁.warmed, X', hpost, fun target h => hstep₁ _ fun acts => by rw [doInvoke_state]; exact hsteps.trans h⟩
abbrev vx_CVW (R : Room) (s : State) (args : Array Value) (own C : String) (index : Nat) (y : MethodName) (bytes : ByteArray) (maxL : Nat) (ret : Option FieldType) (hh : List (Nat × Nat × Nat × Nat)) (ws : List Cond) (rm : Room) (mc ms n : Nat) : Prop :=
  (rm.cells = mc ∧ rm.slots = ms ∧ rm.frames + 1 ≤ R.frames ∧ 8 + (maxL + 11) + rm.locals ≤ R.locals ∧ (∀ w ∈ ws, ∀ (a' : Array Value) (U : State), s.WarmedH U.vm → w.before a' U = true) ∧ Cond.codeWith y bytes maxL ret hh ∈ ws) ∧
  (Cond.codeWith y bytes maxL ret hh).before args s = true ∧ (Cond.initialized y.cls).before args s = true ∧ (y.cls ≠ "java/lang/invoke/MethodHandle" ∧ y.cls ≠ "java/lang/invoke/VarHandle") ∧
  (∀ sig, parseMethodDescriptor y.desc = some sig → n = sig.parameters.length) ∧ (Cond.methodLink own index y).before args s = true ∧ (Cond.instanceMethod y).before args s = true ∧ (Cond.selects C y y).before args s = true
theorem vx_cwVW {own C : String} {index maxL mc ms : Nat} {y : MethodName} {bytes : ByteArray} {ret : Option FieldType} {hh : List (Nat × Nat × Nat × Nat)} {Ts ws ws' : List Cond} {rm : Room} (n : Nat) (ht : ∀ w ∈ Ts, w.before args s = true) (hT : GoodIn Ts (wsV own index C y ws)) (hw : ws = Cond.codeWith y bytes maxL ret hh :: ws') (hrc : rm.cells = mc) (hrs : rm.slots = ms)
    (hd : y.cls = C ∧ y.cls ≠ "java/lang/invoke/MethodHandle" ∧ y.cls ≠ "java/lang/invoke/VarHandle" ∧ (parseMethodDescriptor y.desc).map (fun d => d.parameters.length) = some n) (hR : rm.frames + 1 ≤ R.frames ∧ 8 + (maxL + 11) + rm.locals ≤ R.locals) :
    vx_CVW R s args own C index y bytes maxL ret hh ws rm mc ms n := by
  obtain ⟨hC, hd⟩ := hd
  subst hC
  have ok : ∀ w ∈ wsV own index y.cls y ws, w.before args s = true := fun w h => ht w (hT w h).1
  have hG : GoodIn Ts ws := fun w h => hT w (by unfold wsV; exact List.mem_append_right _ h)
  have hc : Cond.codeWith y bytes maxL ret hh ∈ ws := by rw [hw]; exact List.mem_cons_self
  refine ⟨⟨hrc, hrs, hR.1, hR.2, pay_in ht hG, hc⟩, ht _ (hG _ hc).1, ok _ (by simp [wsV]), ⟨hd.1, hd.2.1⟩, fun sig h => ?_, ok _ (by simp [wsV]), ok _ (by simp [wsV]), ok _ (by simp [wsV])⟩
  have h2 := hd.2.2
  rw [h] at h2
  exact (Option.some.inj h2).symm
theorem vx_runVW {y : MethodName} {bytes cc : ByteArray} {maxL nL mc ms n index : Nat} {ret : Option FieldType} {hh : List (Nat × Nat × Nat × Nat)} {ws : List Cond} {rm : Room} {Pc : Array Value → State → Prop} {Qc : Array Value → State → Outcome → State → Prop} {free : Addr → Prop} {Ts : List Cond} {own C : String} {b : Addr} {As rest : List Value} {g : JFrame}
    (S : CallFix p m c cc nL s args Ts own) (hM : Met l y ws rm Pc Qc mc ms free) (cw : vx_CVW R s args own C index y bytes maxL ret hh ws rm mc ms n) (hp : PreV s H C b Pc As)
    (hg : g.method = m) (hn : As.length = n) (hsize : g.locals.size = nL) (hstack : g.stack = As.reverse ++ .ref b :: rest) (hW : 2 * g.monitorRoom + (rest.map fun v => v.category).sum ≤ 8) (hdg : decode cc g.pc = .ok (.invokevirtual index, 3)) (hf : cells + mc ≤ R.cells ∧ slots + ms ≤ R.slots) :
    va_Run p l e R s m args below meth c H locs cells slots mc ms g rest (Qc (Value.ref b :: As).toArray) free := by
  obtain ⟨⟨hrc, hrs, hfr, hlo, hws, hcw⟩, hcode, hini, hy, hlen, hl, hin, hse⟩ := cw
  have hK : Back l R p e below s args y 3 8 (PreOf R mc ms Pc) (PostOf Qc mc ms free) := va_backW (hh := hh) (bytes := bytes) (maxL := maxL) (ret := ret) hM hp.1 hrc hrs hfr hlo hws hcw (fun a' U hW => word_at hW (Or.inl (by first | rfl | simp [Cond.onTables, Cond.keeps, Cond.steady])) hini)
  obtain ⟨hx, hb, hml, ho, -⟩ := S
  obtain ⟨-, ⟨cellB, hcB, hoB, hclB⟩, hPc⟩ := hp
  intro T hT X
  obtain ⟨v, vm₁, ⟨U', l2, c2, s2⟩, hW₁, X', ⟨g', mk, t, L, e1, e2, hq, h1, hL, h2, h3⟩, st⟩ := vx_callVW X hx (C := C) (hh := hh) (bytes := bytes) (maxL := maxL) (ret := ret) ho hl hin hse hcode hy hK (by rw [hT]; exact hcB) hoB hclB hg (hsize.trans hml.symm) (argsL := As) (rest := rest) (fun sig h => hn.trans (hlen sig h)) hstack hW (by rw [hb]; exact hdg)
    (fun vm₁ hW₁ => ⟨hf.1, hf.2, hPc (T.setVm vm₁) hT hW₁⟩)
  dsimp only [Pt.U, Pt.locs, Pt.cells, Pt.slots] at X' e1 e2 h1 h2 h3 st
  subst h1; subst h2; subst h3
  exact ⟨v, (T.setVm vm₁).calling g' mk (Value.ref b :: As).toArray, t, U', L, hT, X', hL, e1, e2, hq, st⟩
section
variable {y : MethodName} {bytes cc : ByteArray} {maxL nL mc ms n index : Nat} {ret : Option FieldType} {ws : List Cond} {rm : Room} {Pc : Array Value → State → Prop} {Qc : Array Value → State → Outcome → State → Prop} {XC : String → State → State → Prop} {free : Addr → Prop} {Ts : List Cond} {own C : String} {b : Addr} {As rest : List Value} {g : JFrame}
theorem vx_runVX {hh : List (Nat × Nat × Nat × Nat)} (S : CallFix p m c cc nL s args Ts own) (hM : vx_Met l y ws rm Pc Qc XC mc ms free) (cw : vx_CVW R s args own C index y bytes maxL ret hh ws rm mc ms n) (hp : PreV s H C b Pc As)
    (hg : g.method = m) (hn : As.length = n) (hsize : g.locals.size = nL) (hstack : g.stack = As.reverse ++ .ref b :: rest) (hW : 2 * g.monitorRoom + (rest.map fun v => v.category).sum ≤ 8) (hdg : decode cc g.pc = .ok (.invokevirtual index, 3)) (hf : cells + mc ≤ R.cells ∧ slots + ms ≤ R.slots) :
    vx_Run p l e R s m args below meth c H locs cells slots mc ms g rest (Qc (Value.ref b :: As).toArray) XC free := by
  obtain ⟨⟨hrc, hrs, hfr, hlo, hws, hcw⟩, hcode, hini, hy, hlen, hl, hin, hse⟩ := cw
  have hK : vx_Back l R p e below s args y 3 8 (PreOf R mc ms Pc) (PostOf Qc mc ms free) (vx_Post XC mc ms free) := vx_backW (hh := hh) (bytes := bytes) (maxL := maxL) (ret := ret) hM hp.1 hrc hrs hfr hlo hws hcw (fun a' U hW => word_at hW (Or.inl (by first | rfl | simp [Cond.onTables, Cond.keeps, Cond.steady])) hini)
  obtain ⟨hx, hb, hml, ho, -⟩ := S
  obtain ⟨-, ⟨cellB, hcB, hoB, hclB⟩, hPc⟩ := hp
  intro T hT X
  rcases vx_callVX X hx (C := C) (hh := hh) (bytes := bytes) (maxL := maxL) (ret := ret) ho hl hin hse hcode hy hK (by rw [hT]; exact hcB) hoB hclB hg (hsize.trans hml.symm) (argsL := As) (rest := rest) (fun sig h => hn.trans (hlen sig h)) hstack hW (by rw [hb]; exact hdg)
    (fun vm₁ hW₁ => ⟨hf.1, hf.2, hPc (T.setVm vm₁) hT hW₁⟩) with ⟨v, vm₁, ⟨U', l2, c2, s2⟩, hW₁, X', ⟨g', mk, t, L, e1, e2, hq, h1, hL, h2, h3⟩, st⟩ | ⟨q, vm₁, ⟨U', l2, c2, s2⟩, hW₁, X', ⟨g', mk, t, L, E, ce, e1, e2, hq, hce, hcv, hcl, h1, hL, h2, h3⟩, st⟩
  · dsimp only [Pt.U, Pt.locs, Pt.cells, Pt.slots] at X' e1 e2 h1 h2 h3 st
    subst h1; subst h2; subst h3
    exact Or.inl ⟨v, (T.setVm vm₁).calling g' mk (Value.ref b :: As).toArray, t, U', L, hT, X', hL, e1, e2, hq, st⟩
  · dsimp only [Pt.U, Pt.locs, Pt.cells, Pt.slots] at X' e1 e2 h1 h2 h3 st hcl
    subst h1; subst h2; subst h3
    exact Or.inr ⟨q, (T.setVm vm₁).calling g' mk (Value.ref b :: As).toArray, t, U', L, E, ce, hT, X', hL, e1, e2, hq, hce, hcv, vx_cls hW₁ hcl, st⟩
theorem vx_runSX {hh : List (Nat × Nat × Nat × Nat)} (S : CallFix p m c cc nL s args Ts own) (hM : vx_Met l y ws rm Pc Qc XC mc ms free) (cw : vx_CSW R s args own index y bytes maxL ret hh ws rm mc ms n) (hp : PreS s H Pc As)
    (hg : g.method = m) (hn : As.length = n) (hsize : g.locals.size = nL) (hstack : g.stack = As.reverse ++ rest) (hW : 2 * g.monitorRoom + (rest.map fun v => v.category).sum ≤ 8) (hdg : decode cc g.pc = .ok (.invokestatic index, 3)) (hf : cells + mc ≤ R.cells ∧ slots + ms ≤ R.slots) :
    vx_Run p l e R s m args below meth c H locs cells slots mc ms g rest (Qc As.toArray) XC free := by
  obtain ⟨⟨hrc, hrs, hfr, hlo, hws, hcw⟩, hcode, hini, hy, hlen, hl, hstt⟩ := cw
  have hK : vx_Back l R p e below s args y 3 8 (PreOf R mc ms Pc) (PostOf Qc mc ms free) (vx_Post XC mc ms free) := vx_backW (hh := hh) (bytes := bytes) (maxL := maxL) (ret := ret) hM hp.1 hrc hrs hfr hlo hws hcw (fun a' U hW => word_at hW (Or.inl (by first | rfl | simp [Cond.onTables, Cond.keeps, Cond.steady])) hini)
  obtain ⟨hx, hb, hml, ho, -⟩ := S
  intro T hT X
  rcases vx_callSX X hx (hh := hh) (bytes := bytes) (maxL := maxL) (ret := ret) ho hl hstt hini hcode hy hK hg (hsize.trans hml.symm) (argsL := As) (rest := rest) (fun sig h => hn.trans (hlen sig h)) hstack hW (by rw [hb]; exact hdg)
    (fun vm₁ hW₁ => ⟨hf.1, hf.2, hp.2 (T.setVm vm₁) hT hW₁⟩) with ⟨v, vm₁, ⟨U', l2, c2, s2⟩, hW₁, X', ⟨g', mk, t, L, e1, e2, hq, h1, hL, h2, h3⟩, st⟩ | ⟨q, vm₁, ⟨U', l2, c2, s2⟩, hW₁, X', ⟨g', mk, t, L, E, ce, e1, e2, hq, hce, hcv, hcl, h1, hL, h2, h3⟩, st⟩
  · dsimp only [Pt.U, Pt.locs, Pt.cells, Pt.slots] at X' e1 e2 h1 h2 h3 st
    subst h1; subst h2; subst h3
    exact Or.inl ⟨v, (T.setVm vm₁).calling g' mk As.toArray, t, U', L, hT, X', hL, e1, e2, hq, st⟩
  · dsimp only [Pt.U, Pt.locs, Pt.cells, Pt.slots] at X' e1 e2 h1 h2 h3 st hcl
    subst h1; subst h2; subst h3
    exact Or.inr ⟨q, (T.setVm vm₁).calling g' mk As.toArray, t, U', L, E, ce, hT, X', hL, e1, e2, hq, hce, hcv, vx_cls hW₁ hcl, st⟩
end
end VXH
theorem vx_ofWH {l : Launch} {y : MethodName} {ws ws' : List Cond} {rm : Room} {Pc : Array Value → State → Prop} {Qc : Array Value → State → Outcome → State → Prop} {XC : String → State → State → Prop} {mc ms : Nat} {free : Addr → Prop} {cc : ByteArray} {maxL : Nat} {ret : Option FieldType} {hh : List (Nat × Nat × Nat × Nat)}
    (hy : plainName y.cls = true) (hw : ws = Cond.codeWith y cc maxL ret hh :: ws')
    (body : ∀ p e s m args below meth c s₁, BodyLoose p l y (headSpec ws rm) cc maxL ret e s m args below meth c s₁ → c.maxLocals = maxL → Pc args s →
      W p l e (headSpec ws rm).room s m args below meth c s.heap [] 0 0 (vx_MQ below Qc XC args s mc ms free) (entryFrame m args maxL)) : vx_Met l y ws rm Pc Qc XC mc ms free := by
  refine MetFree.of_bodyS (code := cc) (maxLocals := maxL) (ret := ret) hy ?_ ?_
  · intro args s m h hn
    obtain ⟨m9, meth, c, hn9, h1, h2, h3, h4, -, h5, h6, -⟩ := Cond.codeWith_spec (atoms_spec (ws := ws) h _ (by rw [hw]; exact List.mem_cons_self))
    cases hn.symm.trans hn9
    exact ⟨meth, c, h1, h2, h3, h4, h5, h6⟩
  · intro p e s m args below meth c s₁ B hml hP _
    have hh0 : s₁.heap = s.heap := by rw [B.state]; rfl
    obtain ⟨t, a1, o, b1, b2, b3⟩ := body p e s m args below meth c s₁ B hml hP s₁ hh0 (Stand.of_body B)
    exact ⟨t, o, a1, b1, b2, b3⟩
/-! ===== END ===== -/

/-! ===== BEGIN printed: names, fields, word lists, decode rows ===== -/
def RX0 : String := "EchoCave$Cave"
def TX0 : u_T := fun k => match k with
  | 0 => ("EchoCave$Cave", "chambers", "I", false)
  | 1 => ("EchoCave$Cave", "wall", "[I", true)
  | 2 => ("EchoCave$Cave", "height", "[I", true)
  | 3 => ("EchoCave$Cave", "bats", "[I", true)
  | 4 => ("EchoCave$Cave", "syllable", "[I", true)
  | 5 => ("EchoCave$Cave", "delay", "[I", true)
  | 6 => ("EchoCave$Cave", "doors", "[I", true)
  | 7 => ("EchoCave$Cave", "passageBehind", "[[I", true)
  | 8 => ("EchoCave$Cave", "passages", "I", false)
  | 9 => ("EchoCave$Cave", "from", "[I", true)
  | 10 => ("EchoCave$Cave", "to", "[I", true)
  | 11 => ("EchoCave$Cave", "length", "[I", true)
  | 12 => ("EchoCave$Cave", "narrow", "[I", true)
  | 13 => ("EchoCave$Cave", "water", "I", false)
  | _ => ("EchoCave$Cave", "found", "[I", true)
def tyX0 : Nat → FieldType := fun k => match k with
  | 0 => .int
  | 1 => .array .int
  | 2 => .array .int
  | 3 => .array .int
  | 4 => .array .int
  | 5 => .array .int
  | 6 => .array .int
  | 7 => .array (.array .int)
  | 8 => .int
  | 9 => .array .int
  | 10 => .array .int
  | 11 => .array .int
  | 12 => .array .int
  | 13 => .int
  | _ => .array .int
abbrev wsX00 : List Cond := u_ws RX0 TX0 15
theorem nmX0 : ∀ a, a < 15 → ∀ b, b < 15 → a ≠ b → (TX0 a).2.1 ≠ (TX0 b).2.1 := by decide +kernel
theorem tyX0_ok : ∀ k, k < 15 → parseFieldDescriptor (TX0 k).2.2.1 = some (tyX0 k) := by decide +kernel
abbrev cX0_init : ByteArray := prog_2_method_1_code
def yX0_init : MethodName := ⟨RX0, "<init>", "()V"⟩
abbrev cX0_hasChamber : ByteArray := prog_2_method_2_code
def yX0_hasChamber : MethodName := ⟨RX0, "hasChamber", "(I)Z"⟩
abbrev cX0_hasPassage : ByteArray := prog_2_method_3_code
def yX0_hasPassage : MethodName := ⟨RX0, "hasPassage", "(I)Z"⟩
abbrev cX0_findChamber : ByteArray := prog_2_method_4_code
def yX0_findChamber : MethodName := ⟨RX0, "findChamber", "(III)I"⟩
abbrev cX0_findPassage : ByteArray := prog_2_method_5_code
def yX0_findPassage : MethodName := ⟨RX0, "findPassage", "(IIII)I"⟩
abbrev cX0_addDoor : ByteArray := prog_2_method_6_code
def yX0_addDoor : MethodName := ⟨RX0, "addDoor", "(II)V"⟩
abbrev cX0_putClapper : ByteArray := prog_2_method_7_code
def yX0_putClapper : MethodName := ⟨RX0, "putClapper", "(III)V"⟩
abbrev cX0_isOpen : ByteArray := prog_2_method_8_code
def yX0_isOpen : MethodName := ⟨RX0, "isOpen", "(I)Z"⟩
abbrev cX0_otherEnd : ByteArray := prog_2_method_9_code
def yX0_otherEnd : MethodName := ⟨RX0, "otherEnd", "(II)I"⟩
abbrev cX0_drowns : ByteArray := prog_2_method_10_code
def yX0_drowns : MethodName := ⟨RX0, "drowns", "(II)Z"⟩
abbrev cX0_strengthBehind : ByteArray := prog_2_method_11_code
def yX0_strengthBehind : MethodName := ⟨RX0, "strengthBehind", "(II)I"⟩
abbrev cX0_strengthFromWall : ByteArray := prog_2_method_12_code
def yX0_strengthFromWall : MethodName := ⟨RX0, "strengthFromWall", "(II)I"⟩
abbrev cX0_openPassages : ByteArray := prog_2_method_13_code
def yX0_openPassages : MethodName := ⟨RX0, "openPassages", "()I"⟩
abbrev cX0_clappers : ByteArray := prog_2_method_14_code
def yX0_clappers : MethodName := ⟨RX0, "clappers", "()I"⟩
abbrev cX0_openDoors : ByteArray := prog_2_method_15_code
def yX0_openDoors : MethodName := ⟨RX0, "openDoors", "(I)I"⟩
abbrev cX0_chamberFact : ByteArray := prog_2_method_16_code
def yX0_chamberFact : MethodName := ⟨RX0, "chamberFact", "(II)I"⟩
abbrev cX0_passageFact : ByteArray := prog_2_method_17_code
def yX0_passageFact : MethodName := ⟨RX0, "passageFact", "(II)I"⟩
abbrev cX0_shortestWay : ByteArray := prog_2_method_18_code
def yX0_shortestWay : MethodName := ⟨RX0, "shortestWay", "(II)I"⟩
abbrev cX0_shorten : ByteArray := prog_2_method_19_code
def yX0_shorten : MethodName := ⟨RX0, "shorten", "(III)V"⟩
abbrev cX0_highestWater : ByteArray := prog_2_method_20_code
def yX0_highestWater : MethodName := ⟨RX0, "highestWater", "(I)I"⟩
abbrev cX0_raise : ByteArray := prog_2_method_21_code
def yX0_raise : MethodName := ⟨RX0, "raise", "(II)V"⟩
def RX1 : String := "EchoCave$Comings"
def TX1 : u_T := fun k => match k with
  | 0 => ("EchoCave$Comings", "heap", "[I", true)
  | _ => ("EchoCave$Comings", "size", "I", false)
def tyX1 : Nat → FieldType := fun k => match k with
  | 0 => .array .int
  | _ => .int
abbrev wsX10 : List Cond := u_ws RX1 TX1 2
theorem nmX1 : ∀ a, a < 2 → ∀ b, b < 2 → a ≠ b → (TX1 a).2.1 ≠ (TX1 b).2.1 := by decide +kernel
theorem tyX1_ok : ∀ k, k < 2 → parseFieldDescriptor (TX1 k).2.2.1 = some (tyX1 k) := by decide +kernel
abbrev cX1_init : ByteArray := prog_3_method_1_code
def yX1_init : MethodName := ⟨RX1, "<init>", "()V"⟩
abbrev cX1_pack : ByteArray := prog_3_method_2_code
def yX1_pack : MethodName := ⟨RX1, "pack", "(IIIII)I"⟩
abbrev cX1_timeOf : ByteArray := prog_3_method_3_code
def yX1_timeOf : MethodName := ⟨RX1, "timeOf", "(I)I"⟩
abbrev cX1_chamberOf : ByteArray := prog_3_method_4_code
def yX1_chamberOf : MethodName := ⟨RX1, "chamberOf", "(I)I"⟩
abbrev cX1_runOf : ByteArray := prog_3_method_5_code
def yX1_runOf : MethodName := ⟨RX1, "runOf", "(I)I"⟩
abbrev cX1_passageOf : ByteArray := prog_3_method_6_code
def yX1_passageOf : MethodName := ⟨RX1, "passageOf", "(I)I"⟩
abbrev cX1_strengthOf : ByteArray := prog_3_method_7_code
def yX1_strengthOf : MethodName := ⟨RX1, "strengthOf", "(I)I"⟩
abbrev cX1_clear : ByteArray := prog_3_method_8_code
def yX1_clear : MethodName := ⟨RX1, "clear", "()V"⟩
abbrev cX1_isEmpty : ByteArray := prog_3_method_9_code
def yX1_isEmpty : MethodName := ⟨RX1, "isEmpty", "()Z"⟩
abbrev cX1_put : ByteArray := prog_3_method_10_code
def yX1_put : MethodName := ⟨RX1, "put", "(I)V"⟩
abbrev cX1_takeNext : ByteArray := prog_3_method_11_code
def yX1_takeNext : MethodName := ⟨RX1, "takeNext", "()I"⟩
abbrev cX1_sink : ByteArray := prog_3_method_12_code
def yX1_sink : MethodName := ⟨RX1, "sink", "(I)V"⟩
def RX2 : String := "EchoCave$Echo"
def TX2 : u_T := fun k => match k with
  | 0 => ("EchoCave$Echo", "facts", "[I", true)
  | 1 => ("EchoCave$Echo", "firstTime", "[I", true)
  | 2 => ("EchoCave$Echo", "places", "I", false)
  | 3 => ("EchoCave$Echo", "ear", "I", false)
  | 4 => ("EchoCave$Echo", "kept", "I", false)
  | 5 => ("EchoCave$Echo", "counted", "I", false)
  | 6 => ("EchoCave$Echo", "placesInOrder", "I", false)
  | _ => ("EchoCave$Echo", "lastTime", "I", false)
def tyX2 : Nat → FieldType := fun k => match k with
  | 0 => .array .int
  | 1 => .array .int
  | 2 => .int
  | 3 => .int
  | 4 => .int
  | 5 => .int
  | 6 => .int
  | _ => .int
abbrev wsX20 : List Cond := u_ws RX2 TX2 8
theorem nmX2 : ∀ a, a < 8 → ∀ b, b < 8 → a ≠ b → (TX2 a).2.1 ≠ (TX2 b).2.1 := by decide +kernel
theorem tyX2_ok : ∀ k, k < 8 → parseFieldDescriptor (TX2 k).2.2.1 = some (tyX2 k) := by decide +kernel
abbrev cX2_init : ByteArray := prog_4_method_1_code
def yX2_init : MethodName := ⟨RX2, "<init>", "()V"⟩
abbrev cX2_begin : ByteArray := prog_4_method_2_code
def yX2_begin : MethodName := ⟨RX2, "begin", "(II)V"⟩
abbrev cX2_hear : ByteArray := prog_4_method_3_code
def yX2_hear : MethodName := ⟨RX2, "hear", "(IIII)V"⟩
abbrev cX2_letCount : ByteArray := prog_4_method_4_code
def yX2_letCount : MethodName := ⟨RX2, "letCount", "(II)V"⟩
abbrev cX2_cameInOrder : ByteArray := prog_4_method_5_code
def yX2_cameInOrder : MethodName := ⟨RX2, "cameInOrder", "()Z"⟩
abbrev cX2_heardFact : ByteArray := prog_4_method_6_code
def yX2_heardFact : MethodName := ⟨RX2, "heardFact", "(II)I"⟩
abbrev cX2_meanStrength : ByteArray := prog_4_method_7_code
def yX2_meanStrength : MethodName := ⟨RX2, "meanStrength", "()D"⟩
def RX3 : String := "EchoCave$Sound"
def TX3 : u_T := fun k => match k with
  | 0 => ("EchoCave$Sound", "cave", "LEchoCave$Cave;", true)
  | 1 => ("EchoCave$Sound", "comings", "LEchoCave$Comings;", true)
  | 2 => ("EchoCave$Sound", "syllable", "[I", true)
  | 3 => ("EchoCave$Sound", "place", "[I", true)
  | 4 => ("EchoCave$Sound", "passagesUsed", "[J", true)
  | 5 => ("EchoCave$Sound", "runs", "I", false)
  | _ => ("EchoCave$Sound", "clappersSetOff", "I", false)
def tyX3 : Nat → FieldType := fun k => match k with
  | 0 => .object "EchoCave$Cave"
  | 1 => .object "EchoCave$Comings"
  | 2 => .array .int
  | 3 => .array .int
  | 4 => .array .long
  | 5 => .int
  | _ => .int
abbrev wsX30 : List Cond := u_ws RX3 TX3 7
theorem nmX3 : ∀ a, a < 7 → ∀ b, b < 7 → a ≠ b → (TX3 a).2.1 ≠ (TX3 b).2.1 := by decide +kernel
theorem tyX3_ok : ∀ k, k < 7 → parseFieldDescriptor (TX3 k).2.2.1 = some (tyX3 k) := by decide +kernel
abbrev cX3_init : ByteArray := prog_5_method_1_code
def yX3_init : MethodName := ⟨RX3, "<init>", "(LEchoCave$Cave;)V"⟩
abbrev cX3_runThrough : ByteArray := prog_5_method_2_code
def yX3_runThrough : MethodName := ⟨RX3, "runThrough", "(IIILEchoCave$Echo;)V"⟩
abbrev cX3_begin : ByteArray := prog_5_method_3_code
def yX3_begin : MethodName := ⟨RX3, "begin", "(III)V"⟩
abbrev cX3_startRun : ByteArray := prog_5_method_4_code
def yX3_startRun : MethodName := ⟨RX3, "startRun", "(IIIII)V"⟩
abbrev cX3_come : ByteArray := prog_5_method_5_code
def yX3_come : MethodName := ⟨RX3, "come", "(ILEchoCave$Echo;)V"⟩
abbrev cX3_setOffClapper : ByteArray := prog_5_method_6_code
def yX3_setOffClapper : MethodName := ⟨RX3, "setOffClapper", "(III)V"⟩
abbrev cX3_goOn : ByteArray := prog_5_method_7_code
def yX3_goOn : MethodName := ⟨RX3, "goOn", "(IIIII)V"⟩
abbrev cX3_goInto : ByteArray := prog_5_method_8_code
def yX3_goInto : MethodName := ⟨RX3, "goInto", "(IIIII)V"⟩
def RX4 : String := "EchoCave"
def TX4 : u_T := fun k => match k with
  | 0 => ("EchoCave", "cave", "LEchoCave$Cave;", true)
  | 1 => ("EchoCave", "sound", "LEchoCave$Sound;", true)
  | 2 => ("EchoCave", "latest", "LEchoCave$Echo;", true)
  | 3 => ("EchoCave", "trial", "LEchoCave$Echo;", true)
  | 4 => ("EchoCave", "ear", "I", false)
  | 5 => ("EchoCave", "wordsSaid", "I", false)
  | _ => ("EchoCave", "latestWord", "I", false)
def tyX4 : Nat → FieldType := fun k => match k with
  | 0 => .object "EchoCave$Cave"
  | 1 => .object "EchoCave$Sound"
  | 2 => .object "EchoCave$Echo"
  | 3 => .object "EchoCave$Echo"
  | 4 => .int
  | 5 => .int
  | _ => .int
abbrev wsX40 : List Cond := u_ws RX4 TX4 7
theorem nmX4 : ∀ a, a < 7 → ∀ b, b < 7 → a ≠ b → (TX4 a).2.1 ≠ (TX4 b).2.1 := by decide +kernel
theorem tyX4_ok : ∀ k, k < 7 → parseFieldDescriptor (TX4 k).2.2.1 = some (tyX4 k) := by decide +kernel
abbrev cX4_init : ByteArray := prog_1_method_1_code
def yX4_init : MethodName := ⟨RX4, "<init>", "()V"⟩
abbrev cX4_addChamber : ByteArray := prog_1_method_2_code
def yX4_addChamber : MethodName := ⟨RX4, "addChamber", "(III)I"⟩
abbrev cX4_addPassage : ByteArray := prog_1_method_3_code
def yX4_addPassage : MethodName := ⟨RX4, "addPassage", "(IIII)I"⟩
abbrev cX4_setWater : ByteArray := prog_1_method_4_code
def yX4_setWater : MethodName := ⟨RX4, "setWater", "(I)I"⟩
abbrev cX4_setBats : ByteArray := prog_1_method_5_code
def yX4_setBats : MethodName := ⟨RX4, "setBats", "(II)I"⟩
abbrev cX4_setClapper : ByteArray := prog_1_method_6_code
def yX4_setClapper : MethodName := ⟨RX4, "setClapper", "(III)I"⟩
abbrev cX4_setEar : ByteArray := prog_1_method_7_code
def yX4_setEar : MethodName := ⟨RX4, "setEar", "(I)I"⟩
abbrev cX4_chamber : ByteArray := prog_1_method_8_code
def yX4_chamber : MethodName := ⟨RX4, "chamber", "(II)I"⟩
abbrev cX4_passage : ByteArray := prog_1_method_9_code
def yX4_passage : MethodName := ⟨RX4, "passage", "(II)I"⟩
abbrev cX4_say : ByteArray := prog_1_method_10_code
def yX4_say : MethodName := ⟨RX4, "say", "(II)I"⟩
abbrev cX4_heard : ByteArray := prog_1_method_11_code
def yX4_heard : MethodName := ⟨RX4, "heard", "(II)I"⟩
abbrev cX4_inOrder : ByteArray := prog_1_method_12_code
def yX4_inOrder : MethodName := ⟨RX4, "inOrder", "()Z"⟩
abbrev cX4_first : ByteArray := prog_1_method_13_code
def yX4_first : MethodName := ⟨RX4, "first", "(I)I"⟩
abbrev cX4_count : ByteArray := prog_1_method_14_code
def yX4_count : MethodName := ⟨RX4, "count", "(I)I"⟩
abbrev cX4_would : ByteArray := prog_1_method_15_code
def yX4_would : MethodName := ⟨RX4, "would", "(III)I"⟩
abbrev cX4_advise : ByteArray := prog_1_method_16_code
def yX4_advise : MethodName := ⟨RX4, "advise", "(IIII)I"⟩
abbrev cX4_longest : ByteArray := prog_1_method_17_code
def yX4_longest : MethodName := ⟨RX4, "longest", "(II)I"⟩
abbrev cX4_quickest : ByteArray := prog_1_method_18_code
def yX4_quickest : MethodName := ⟨RX4, "quickest", "(I)I"⟩
abbrev cX4_way : ByteArray := prog_1_method_19_code
def yX4_way : MethodName := ⟨RX4, "way", "(II)I"⟩
abbrev cX4_highest : ByteArray := prog_1_method_20_code
def yX4_highest : MethodName := ⟨RX4, "highest", "(I)I"⟩
abbrev cX4_mean : ByteArray := prog_1_method_21_code
def yX4_mean : MethodName := ⟨RX4, "mean", "()D"⟩
abbrev cX4_digest : ByteArray := prog_1_method_22_code
def yX4_digest : MethodName := ⟨RX4, "digest", "()J"⟩
abbrev cX4_countFact : ByteArray := prog_1_method_23_code
def yX4_countFact : MethodName := ⟨RX4, "countFact", "(I)I"⟩
abbrev cX4_wouldComeInOrder : ByteArray := prog_1_method_24_code
def yX4_wouldComeInOrder : MethodName := ⟨RX4, "wouldComeInOrder", "(II)Z"⟩
abbrev cX4_isWithin : ByteArray := prog_1_method_25_code
def yX4_isWithin : MethodName := ⟨RX4, "isWithin", "(III)Z"⟩
abbrev cX4_isWord : ByteArray := prog_1_method_26_code
def yX4_isWord : MethodName := ⟨RX4, "isWord", "(I)Z"⟩
abbrev cX4_placesOf : ByteArray := prog_1_method_27_code
def yX4_placesOf : MethodName := ⟨RX4, "placesOf", "(I)I"⟩
abbrev cX4_requireIndex : ByteArray := prog_1_method_28_code
def yX4_requireIndex : MethodName := ⟨RX4, "requireIndex", "(Z)V"⟩
abbrev cX4_requireArgument : ByteArray := prog_1_method_29_code
def yX4_requireArgument : MethodName := ⟨RX4, "requireArgument", "(Z)V"⟩
abbrev cX4_requireWordAndBeat : ByteArray := prog_1_method_30_code
def yX4_requireWordAndBeat : MethodName := ⟨RX4, "requireWordAndBeat", "(II)V"⟩
def RX5 : String := "EchoCaveModel$Sound"
def TX5 : u_T := fun k => match k with
  | 0 => ("EchoCaveModel$Sound", "word", "I", false)
  | 1 => ("EchoCaveModel$Sound", "places", "I", false)
  | 2 => ("EchoCaveModel$Sound", "runs", "I", false)
  | 3 => ("EchoCaveModel$Sound", "kept", "I", false)
  | 4 => ("EchoCaveModel$Sound", "counted", "I", false)
  | 5 => ("EchoCaveModel$Sound", "inOrder", "I", false)
  | 6 => ("EchoCaveModel$Sound", "latest", "I", false)
  | 7 => ("EchoCaveModel$Sound", "waiting", "I", false)
  | 8 => ("EchoCaveModel$Sound", "clapped", "I", false)
  | 9 => ("EchoCaveModel$Sound", "chamber", "I", false)
  | 10 => ("EchoCaveModel$Sound", "with", "I", false)
  | 11 => ("EchoCaveModel$Sound", "late", "I", false)
  | 12 => ("EchoCaveModel$Sound", "firsts", "[I", true)
  | 13 => ("EchoCaveModel$Sound", "heard", "[I", true)
  | 14 => ("EchoCaveModel$Sound", "place", "[I", true)
  | 15 => ("EchoCaveModel$Sound", "syllable", "[I", true)
  | 16 => ("EchoCaveModel$Sound", "there", "[I", true)
  | 17 => ("EchoCaveModel$Sound", "back", "[I", true)
  | 18 => ("EchoCaveModel$Sound", "order", "[I", true)
  | 19 => ("EchoCaveModel$Sound", "power", "[I", true)
  | _ => ("EchoCaveModel$Sound", "this$0", "LEchoCaveModel;", true)
def tyX5 : Nat → FieldType := fun k => match k with
  | 0 => .int
  | 1 => .int
  | 2 => .int
  | 3 => .int
  | 4 => .int
  | 5 => .int
  | 6 => .int
  | 7 => .int
  | 8 => .int
  | 9 => .int
  | 10 => .int
  | 11 => .int
  | 12 => .array .int
  | 13 => .array .int
  | 14 => .array .int
  | 15 => .array .int
  | 16 => .array .int
  | 17 => .array .int
  | 18 => .array .int
  | 19 => .array .int
  | _ => .object "EchoCaveModel"
abbrev wsX50 : List Cond := u_ws RX5 TX5 21
theorem nmX5 : ∀ a, a < 21 → ∀ b, b < 21 → a ≠ b → (TX5 a).2.1 ≠ (TX5 b).2.1 := by decide +kernel
theorem tyX5_ok : ∀ k, k < 21 → parseFieldDescriptor (TX5 k).2.2.1 = some (tyX5 k) := by decide +kernel
abbrev cX5_init : ByteArray := prog_8_method_1_code
def yX5_init : MethodName := ⟨RX5, "<init>", "(LEchoCaveModel;)V"⟩
abbrev cX5_instead : ByteArray := prog_8_method_2_code
def yX5_instead : MethodName := ⟨RX5, "instead", "(III)V"⟩
abbrev cX5_come : ByteArray := prog_8_method_3_code
def yX5_come : MethodName := ⟨RX5, "come", "(IIIII)V"⟩
abbrev cX5_start : ByteArray := prog_8_method_4_code
def yX5_start : MethodName := ⟨RX5, "start", "(IIIII)V"⟩
abbrev cX5_go : ByteArray := prog_8_method_5_code
def yX5_go : MethodName := ⟨RX5, "go", "(IIIII)V"⟩
abbrev cX5_hear : ByteArray := prog_8_method_6_code
def yX5_hear : MethodName := ⟨RX5, "hear", "(III)V"⟩
abbrev cX5_clap : ByteArray := prog_8_method_7_code
def yX5_clap : MethodName := ⟨RX5, "clap", "(III)V"⟩
abbrev cX5_arrive : ByteArray := prog_8_method_8_code
def yX5_arrive : MethodName := ⟨RX5, "arrive", "(II)V"⟩
abbrev cX5_say : ByteArray := prog_8_method_9_code
def yX5_say : MethodName := ⟨RX5, "say", "(II)V"⟩
abbrev cX5_isInOrder : ByteArray := prog_8_method_10_code
def yX5_isInOrder : MethodName := ⟨RX5, "isInOrder", "()Z"⟩
def RX6 : String := "EchoCaveModel"
def TX6 : u_T := fun k => match k with
  | 0 => ("EchoCaveModel", "thrown", "I", false)
  | 1 => ("EchoCaveModel", "chambers", "I", false)
  | 2 => ("EchoCaveModel", "passages", "I", false)
  | 3 => ("EchoCaveModel", "water", "I", false)
  | 4 => ("EchoCaveModel", "ear", "I", false)
  | 5 => ("EchoCaveModel", "said", "I", false)
  | 6 => ("EchoCaveModel", "room", "[I", true)
  | 7 => ("EchoCaveModel", "tunnel", "[I", true)
  | 8 => ("EchoCaveModel", "s", "LEchoCaveModel$Sound;", true)
  | _ => ("EchoCaveModel", "ahead", "LEchoCaveModel$Sound;", true)
def tyX6 : Nat → FieldType := fun k => match k with
  | 0 => .int
  | 1 => .int
  | 2 => .int
  | 3 => .int
  | 4 => .int
  | 5 => .int
  | 6 => .array .int
  | 7 => .array .int
  | 8 => .object "EchoCaveModel$Sound"
  | _ => .object "EchoCaveModel$Sound"
abbrev wsX60 : List Cond := u_ws RX6 TX6 10
theorem nmX6 : ∀ a, a < 10 → ∀ b, b < 10 → a ≠ b → (TX6 a).2.1 ≠ (TX6 b).2.1 := by decide +kernel
theorem tyX6_ok : ∀ k, k < 10 → parseFieldDescriptor (TX6 k).2.2.1 = some (tyX6 k) := by decide +kernel
abbrev cX6_init : ByteArray := prog_7_method_1_code
def yX6_init : MethodName := ⟨RX6, "<init>", "()V"⟩
abbrev cX6_thrown : ByteArray := prog_7_method_2_code
def yX6_thrown : MethodName := ⟨RX6, "thrown", "()I"⟩
abbrev cX6_no : ByteArray := prog_7_method_3_code
def yX6_no : MethodName := ⟨RX6, "no", "(I)I"⟩
abbrev cX6_isIn : ByteArray := prog_7_method_4_code
def yX6_isIn : MethodName := ⟨RX6, "isIn", "(III)Z"⟩
abbrev cX6_isChamber : ByteArray := prog_7_method_5_code
def yX6_isChamber : MethodName := ⟨RX6, "isChamber", "(I)Z"⟩
abbrev cX6_touches : ByteArray := prog_7_method_6_code
def yX6_touches : MethodName := ⟨RX6, "touches", "(II)Z"⟩
abbrev cX6_isOpen : ByteArray := prog_7_method_7_code
def yX6_isOpen : MethodName := ⟨RX6, "isOpen", "(II)Z"⟩
abbrev cX6_isWord : ByteArray := prog_7_method_8_code
def yX6_isWord : MethodName := ⟨RX6, "isWord", "(I)Z"⟩
abbrev cX6_addChamber : ByteArray := prog_7_method_9_code
def yX6_addChamber : MethodName := ⟨RX6, "addChamber", "(III)I"⟩
abbrev cX6_addPassage : ByteArray := prog_7_method_10_code
def yX6_addPassage : MethodName := ⟨RX6, "addPassage", "(IIII)I"⟩
abbrev cX6_setWater : ByteArray := prog_7_method_11_code
def yX6_setWater : MethodName := ⟨RX6, "setWater", "(I)I"⟩
abbrev cX6_setBats : ByteArray := prog_7_method_12_code
def yX6_setBats : MethodName := ⟨RX6, "setBats", "(II)I"⟩
abbrev cX6_setClapper : ByteArray := prog_7_method_13_code
def yX6_setClapper : MethodName := ⟨RX6, "setClapper", "(III)I"⟩
abbrev cX6_setEar : ByteArray := prog_7_method_14_code
def yX6_setEar : MethodName := ⟨RX6, "setEar", "(I)I"⟩
abbrev cX6_chamberTold : ByteArray := prog_7_method_15_code
def yX6_chamberTold : MethodName := ⟨RX6, "chamberTold", "(II)I"⟩
abbrev cX6_chamber : ByteArray := prog_7_method_16_code
def yX6_chamber : MethodName := ⟨RX6, "chamber", "(II)I"⟩
abbrev cX6_passageTold : ByteArray := prog_7_method_17_code
def yX6_passageTold : MethodName := ⟨RX6, "passageTold", "(II)I"⟩
abbrev cX6_passage : ByteArray := prog_7_method_18_code
def yX6_passage : MethodName := ⟨RX6, "passage", "(II)I"⟩
abbrev cX6_say : ByteArray := prog_7_method_19_code
def yX6_say : MethodName := ⟨RX6, "say", "(II)I"⟩
abbrev cX6_heard : ByteArray := prog_7_method_20_code
def yX6_heard : MethodName := ⟨RX6, "heard", "(II)I"⟩
abbrev cX6_inOrder : ByteArray := prog_7_method_21_code
def yX6_inOrder : MethodName := ⟨RX6, "inOrder", "()Z"⟩
abbrev cX6_first : ByteArray := prog_7_method_22_code
def yX6_first : MethodName := ⟨RX6, "first", "(I)I"⟩
abbrev cX6_counted : ByteArray := prog_7_method_23_code
def yX6_counted : MethodName := ⟨RX6, "counted", "(I)I"⟩
abbrev cX6_count : ByteArray := prog_7_method_24_code
def yX6_count : MethodName := ⟨RX6, "count", "(I)I"⟩
abbrev cX6_comes : ByteArray := prog_7_method_25_code
def yX6_comes : MethodName := ⟨RX6, "comes", "(II)Z"⟩
abbrev cX6_would : ByteArray := prog_7_method_26_code
def yX6_would : MethodName := ⟨RX6, "would", "(III)I"⟩
abbrev cX6_advise : ByteArray := prog_7_method_27_code
def yX6_advise : MethodName := ⟨RX6, "advise", "(IIII)I"⟩
abbrev cX6_longest : ByteArray := prog_7_method_28_code
def yX6_longest : MethodName := ⟨RX6, "longest", "(II)I"⟩
abbrev cX6_quickest : ByteArray := prog_7_method_29_code
def yX6_quickest : MethodName := ⟨RX6, "quickest", "(I)I"⟩
abbrev cX6_shortest : ByteArray := prog_7_method_30_code
def yX6_shortest : MethodName := ⟨RX6, "shortest", "(III)I"⟩
abbrev cX6_way : ByteArray := prog_7_method_31_code
def yX6_way : MethodName := ⟨RX6, "way", "(II)I"⟩
abbrev cX6_highest : ByteArray := prog_7_method_32_code
def yX6_highest : MethodName := ⟨RX6, "highest", "(I)I"⟩
abbrev cX6_mean : ByteArray := prog_7_method_33_code
def yX6_mean : MethodName := ⟨RX6, "mean", "()D"⟩
abbrev cX6_digest : ByteArray := prog_7_method_34_code
def yX6_digest : MethodName := ⟨RX6, "digest", "()J"⟩
def RJx145de : String := "java/io/Serializable"
def TJx145de : u_T := fun k => match k with
  | _ => ("", "", "", false)
def tyJx145de : Nat → FieldType := fun k => match k with
  | _ => .int
abbrev wsJx145de0 : List Cond := u_ws RJx145de TJx145de 0
theorem nmJx145de : ∀ a, a < 0 → ∀ b, b < 0 → a ≠ b → (TJx145de a).2.1 ≠ (TJx145de b).2.1 := by decide +kernel
theorem tyJx145de_ok : ∀ k, k < 0 → parseFieldDescriptor (TJx145de k).2.2.1 = some (tyJx145de k) := by decide +kernel
def RJ9 : String := "java/lang/Math"
def TJ9 : u_T := fun k => match k with
  | _ => ("", "", "", false)
def tyJ9 : Nat → FieldType := fun k => match k with
  | _ => .int
abbrev wsJ90 : List Cond := u_ws RJ9 TJ9 0
theorem nmJ9 : ∀ a, a < 0 → ∀ b, b < 0 → a ≠ b → (TJ9 a).2.1 ≠ (TJ9 b).2.1 := by decide +kernel
theorem tyJ9_ok : ∀ k, k < 0 → parseFieldDescriptor (TJ9 k).2.2.1 = some (tyJ9 k) := by decide +kernel
abbrev cJ9_max_7cf53 : ByteArray := prog_13_method_65_code
def yJ9_max_7cf53 : MethodName := ⟨RJ9, "max", "(II)I"⟩
abbrev cJ9_min_7cf53 : ByteArray := prog_13_method_69_code
def yJ9_min_7cf53 : MethodName := ⟨RJ9, "min", "(II)I"⟩
def RJ0 : String := "java/lang/String"
def TJ0 : u_T := fun k => match k with
  | _ => ("", "", "", false)
def tyJ0 : Nat → FieldType := fun k => match k with
  | _ => .int
abbrev wsJ00 : List Cond := u_ws RJ0 TJ0 0
theorem nmJ0 : ∀ a, a < 0 → ∀ b, b < 0 → a ≠ b → (TJ0 a).2.1 ≠ (TJ0 b).2.1 := by decide +kernel
theorem tyJ0_ok : ∀ k, k < 0 → parseFieldDescriptor (TJ0 k).2.2.1 = some (tyJ0 k) := by decide +kernel
def RJ10 : String := "java/lang/System"
def TJ10 : u_T := fun k => match k with
  | _ => ("", "", "", false)
def tyJ10 : Nat → FieldType := fun k => match k with
  | _ => .int
abbrev wsJ100 : List Cond := u_ws RJ10 TJ10 0
theorem nmJ10 : ∀ a, a < 0 → ∀ b, b < 0 → a ≠ b → (TJ10 a).2.1 ≠ (TJ10 b).2.1 := by decide +kernel
theorem tyJ10_ok : ∀ k, k < 0 → parseFieldDescriptor (TJ10 k).2.2.1 = some (tyJ10 k) := by decide +kernel
def RJ7 : String := "java/util/Arrays"
def TJ7 : u_T := fun k => match k with
  | _ => ("", "", "", false)
def tyJ7 : Nat → FieldType := fun k => match k with
  | _ => .int
abbrev wsJ70 : List Cond := u_ws RJ7 TJ7 0
theorem nmJ7 : ∀ a, a < 0 → ∀ b, b < 0 → a ≠ b → (TJ7 a).2.1 ≠ (TJ7 b).2.1 := by decide +kernel
theorem tyJ7_ok : ∀ k, k < 0 → parseFieldDescriptor (TJ7 k).2.2.1 = some (tyJ7 k) := by decide +kernel
abbrev cJ7_fill_53178 : ByteArray := prog_18_method_103_code
def yJ7_fill_53178 : MethodName := ⟨RJ7, "fill", "([II)V"⟩
def RL : String := "EchoCaveLaw"
abbrev cL_addChamber : ByteArray := method_3_code
def yL_addChamber : MethodName := ⟨RL, "addChamber", "(LEchoCave;III[J)I"⟩
abbrev cL_addPassage : ByteArray := method_4_code
def yL_addPassage : MethodName := ⟨RL, "addPassage", "(LEchoCave;IIII[J)I"⟩
abbrev cL_setWater : ByteArray := method_5_code
def yL_setWater : MethodName := ⟨RL, "setWater", "(LEchoCave;I[J)I"⟩
abbrev cL_setBats : ByteArray := method_6_code
def yL_setBats : MethodName := ⟨RL, "setBats", "(LEchoCave;II[J)I"⟩
abbrev cL_setClapper : ByteArray := method_7_code
def yL_setClapper : MethodName := ⟨RL, "setClapper", "(LEchoCave;III[J)I"⟩
abbrev cL_setEar : ByteArray := method_8_code
def yL_setEar : MethodName := ⟨RL, "setEar", "(LEchoCave;I[J)I"⟩
abbrev cL_chamber : ByteArray := method_9_code
def yL_chamber : MethodName := ⟨RL, "chamber", "(LEchoCave;II[J)I"⟩
abbrev cL_passage : ByteArray := method_10_code
def yL_passage : MethodName := ⟨RL, "passage", "(LEchoCave;II[J)I"⟩
abbrev cL_say : ByteArray := method_11_code
def yL_say : MethodName := ⟨RL, "say", "(LEchoCave;II[J)I"⟩
abbrev cL_heard : ByteArray := method_12_code
def yL_heard : MethodName := ⟨RL, "heard", "(LEchoCave;II[J)I"⟩
abbrev cL_first : ByteArray := method_13_code
def yL_first : MethodName := ⟨RL, "first", "(LEchoCave;I[J)I"⟩
abbrev cL_count : ByteArray := method_14_code
def yL_count : MethodName := ⟨RL, "count", "(LEchoCave;I[J)I"⟩
abbrev cL_would : ByteArray := method_15_code
def yL_would : MethodName := ⟨RL, "would", "(LEchoCave;III[J)I"⟩
abbrev cL_advise : ByteArray := method_16_code
def yL_advise : MethodName := ⟨RL, "advise", "(LEchoCave;IIII[J)I"⟩
abbrev cL_longest : ByteArray := method_17_code
def yL_longest : MethodName := ⟨RL, "longest", "(LEchoCave;II[J)I"⟩
abbrev cL_quickest : ByteArray := method_18_code
def yL_quickest : MethodName := ⟨RL, "quickest", "(LEchoCave;I[J)I"⟩
abbrev cL_way : ByteArray := method_19_code
def yL_way : MethodName := ⟨RL, "way", "(LEchoCave;II[J)I"⟩
abbrev cL_highest : ByteArray := method_20_code
def yL_highest : MethodName := ⟨RL, "highest", "(LEchoCave;I[J)I"⟩
abbrev cL_law : ByteArray := code
def yL_law : MethodName := ⟨RL, "law", "([I)Z"⟩
def wsX0_init : List Cond := .code yX0_init cX0_init 1 none :: ([.methodLink RX0 3 objectInit, .instanceMethod objectInit, .code objectInit ⟨#[0xb1]⟩ 1 none, .arrayClass .int, .fieldLink RX0 9 "EchoCave$Cave" "wall" "[I", .fieldLink RX0 15 "EchoCave$Cave" "height" "[I", .fieldLink RX0 18 "EchoCave$Cave" "bats" "[I", .fieldLink RX0 21 "EchoCave$Cave" "syllable" "[I", .fieldLink RX0 24 "EchoCave$Cave" "delay" "[I", .fieldLink RX0 27 "EchoCave$Cave" "doors" "[I", .classLink RX0 30 "[[I", .fieldLink RX0 32 "EchoCave$Cave" "passageBehind" "[[I", .fieldLink RX0 35 "EchoCave$Cave" "from" "[I", .fieldLink RX0 38 "EchoCave$Cave" "to" "[I", .fieldLink RX0 41 "EchoCave$Cave" "length" "[I", .fieldLink RX0 44 "EchoCave$Cave" "narrow" "[I", .fieldLink RX0 47 "EchoCave$Cave" "found" "[I", .fieldLink RX0 50 "EchoCave$Cave" "chambers" "I", .fieldLink RX0 54 "EchoCave$Cave" "passages" "I", .fieldLink RX0 57 "EchoCave$Cave" "water" "I"] ++ wsX00)
def wsX4_isWithin : List Cond := .code yX4_isWithin cX4_isWithin 3 (some .boolean) :: ([])
def wsX0_hasChamber : List Cond := .code yX0_hasChamber cX0_hasChamber 2 (some .boolean) :: ([.fieldLink RX0 50 "EchoCave$Cave" "chambers" "I", .static yX4_isWithin, .initialized RX4, .code yX4_isWithin cX4_isWithin 3 (some .boolean)] ++ wsX00)
def wsX0_hasPassage : List Cond := .code yX0_hasPassage cX0_hasPassage 2 (some .boolean) :: ([.fieldLink RX0 54 "EchoCave$Cave" "passages" "I", .static yX4_isWithin, .initialized RX4, .code yX4_isWithin cX4_isWithin 3 (some .boolean)] ++ wsX00)
def wsX0_findChamber : List Cond := .code yX0_findChamber cX0_findChamber 5 (some .int) :: ([.fieldLink RX0 50 "EchoCave$Cave" "chambers" "I", .fieldLink RX0 9 "EchoCave$Cave" "wall" "[I", .fieldLink RX0 15 "EchoCave$Cave" "height" "[I", .fieldLink RX0 18 "EchoCave$Cave" "bats" "[I"] ++ wsX00)
def wsX0_addDoor : List Cond := .code yX0_addDoor cX0_addDoor 3 none :: ([.fieldLink RX0 32 "EchoCave$Cave" "passageBehind" "[[I", .fieldLink RX0 27 "EchoCave$Cave" "doors" "[I"] ++ wsX00)
def wsX0_findPassage : List Cond := .code yX0_findPassage cX0_findPassage 6 (some .int) :: ([.fieldLink RX0 54 "EchoCave$Cave" "passages" "I", .fieldLink RX0 35 "EchoCave$Cave" "from" "[I", .fieldLink RX0 38 "EchoCave$Cave" "to" "[I", .fieldLink RX0 41 "EchoCave$Cave" "length" "[I", .fieldLink RX0 44 "EchoCave$Cave" "narrow" "[I", .methodLink RX0 64 yX0_addDoor, .instanceMethod yX0_addDoor, .selects RX0 yX0_addDoor yX0_addDoor, .initialized RX0, .code yX0_addDoor cX0_addDoor 3 none, .fieldLink RX0 32 "EchoCave$Cave" "passageBehind" "[[I", .fieldLink RX0 27 "EchoCave$Cave" "doors" "[I"] ++ wsX00)
def wsX0_putClapper : List Cond := .code yX0_putClapper cX0_putClapper 4 none :: ([.fieldLink RX0 21 "EchoCave$Cave" "syllable" "[I", .fieldLink RX0 24 "EchoCave$Cave" "delay" "[I"] ++ wsX00)
def wsX0_isOpen : List Cond := .code yX0_isOpen cX0_isOpen 2 (some .boolean) :: ([.fieldLink RX0 15 "EchoCave$Cave" "height" "[I", .fieldLink RX0 35 "EchoCave$Cave" "from" "[I", .fieldLink RX0 57 "EchoCave$Cave" "water" "I", .fieldLink RX0 38 "EchoCave$Cave" "to" "[I"] ++ wsX00)
def wsX0_otherEnd : List Cond := .code yX0_otherEnd cX0_otherEnd 3 (some .int) :: ([.fieldLink RX0 35 "EchoCave$Cave" "from" "[I", .fieldLink RX0 38 "EchoCave$Cave" "to" "[I"] ++ wsX00)
def wsX0_drowns : List Cond := .code yX0_drowns cX0_drowns 3 (some .boolean) :: ([.fieldLink RX0 18 "EchoCave$Cave" "bats" "[I"] ++ wsX00)
def wsX0_strengthBehind : List Cond := .code yX0_strengthBehind cX0_strengthBehind 3 (some .int) :: ([.fieldLink RX0 44 "EchoCave$Cave" "narrow" "[I"] ++ wsX00)
def wsX0_strengthFromWall : List Cond := .code yX0_strengthFromWall cX0_strengthFromWall 3 (some .int) :: ([.fieldLink RX0 9 "EchoCave$Cave" "wall" "[I"] ++ wsX00)
def wsX0_openPassages : List Cond := .code yX0_openPassages cX0_openPassages 3 (some .int) :: ([.fieldLink RX0 54 "EchoCave$Cave" "passages" "I", .methodLink RX0 68 yX0_isOpen, .instanceMethod yX0_isOpen, .selects RX0 yX0_isOpen yX0_isOpen, .initialized RX0, .code yX0_isOpen cX0_isOpen 2 (some .boolean), .fieldLink RX0 15 "EchoCave$Cave" "height" "[I", .fieldLink RX0 35 "EchoCave$Cave" "from" "[I", .fieldLink RX0 57 "EchoCave$Cave" "water" "I", .fieldLink RX0 38 "EchoCave$Cave" "to" "[I"] ++ wsX00)
def wsX0_clappers : List Cond := .code yX0_clappers cX0_clappers 3 (some .int) :: ([.fieldLink RX0 50 "EchoCave$Cave" "chambers" "I", .fieldLink RX0 21 "EchoCave$Cave" "syllable" "[I"] ++ wsX00)
def wsX0_openDoors : List Cond := .code yX0_openDoors cX0_openDoors 4 (some .int) :: ([.fieldLink RX0 27 "EchoCave$Cave" "doors" "[I", .fieldLink RX0 32 "EchoCave$Cave" "passageBehind" "[[I", .methodLink RX0 68 yX0_isOpen, .instanceMethod yX0_isOpen, .selects RX0 yX0_isOpen yX0_isOpen, .initialized RX0, .code yX0_isOpen cX0_isOpen 2 (some .boolean), .fieldLink RX0 15 "EchoCave$Cave" "height" "[I", .fieldLink RX0 35 "EchoCave$Cave" "from" "[I", .fieldLink RX0 57 "EchoCave$Cave" "water" "I", .fieldLink RX0 38 "EchoCave$Cave" "to" "[I"] ++ wsX00)
def wsX0_chamberFact : List Cond := .code yX0_chamberFact cX0_chamberFact 3 (some .int) :: ([.fieldLink RX0 9 "EchoCave$Cave" "wall" "[I", .fieldLink RX0 15 "EchoCave$Cave" "height" "[I", .fieldLink RX0 18 "EchoCave$Cave" "bats" "[I", .fieldLink RX0 21 "EchoCave$Cave" "syllable" "[I", .fieldLink RX0 24 "EchoCave$Cave" "delay" "[I", .fieldLink RX0 27 "EchoCave$Cave" "doors" "[I", .methodLink RX0 72 yX0_openDoors, .instanceMethod yX0_openDoors, .selects RX0 yX0_openDoors yX0_openDoors, .initialized RX0, .code yX0_openDoors cX0_openDoors 4 (some .int), .fieldLink RX0 32 "EchoCave$Cave" "passageBehind" "[[I", .methodLink RX0 68 yX0_isOpen, .instanceMethod yX0_isOpen, .selects RX0 yX0_isOpen yX0_isOpen, .code yX0_isOpen cX0_isOpen 2 (some .boolean), .fieldLink RX0 35 "EchoCave$Cave" "from" "[I", .fieldLink RX0 57 "EchoCave$Cave" "water" "I", .fieldLink RX0 38 "EchoCave$Cave" "to" "[I"] ++ wsX00)
def wsX0_passageFact : List Cond := .code yX0_passageFact cX0_passageFact 3 (some .int) :: ([.fieldLink RX0 35 "EchoCave$Cave" "from" "[I", .fieldLink RX0 38 "EchoCave$Cave" "to" "[I", .fieldLink RX0 41 "EchoCave$Cave" "length" "[I", .fieldLink RX0 44 "EchoCave$Cave" "narrow" "[I", .methodLink RX0 68 yX0_isOpen, .instanceMethod yX0_isOpen, .selects RX0 yX0_isOpen yX0_isOpen, .initialized RX0, .code yX0_isOpen cX0_isOpen 2 (some .boolean), .fieldLink RX0 15 "EchoCave$Cave" "height" "[I", .fieldLink RX0 57 "EchoCave$Cave" "water" "I"] ++ wsX00)
def wsJ7_fill_53178 : List Cond := .code yJ7_fill_53178 cJ7_fill_53178 4 none :: ([])
def wsX0_shorten : List Cond := .code yX0_shorten cX0_shorten 5 none :: ([.fieldLink RX0 47 "EchoCave$Cave" "found" "[I"] ++ wsX00)
def wsX0_shortestWay : List Cond := .code yX0_shortestWay cX0_shortestWay 5 (some .int) :: ([.fieldLink RX0 47 "EchoCave$Cave" "found" "[I", .fieldLink RX0 50 "EchoCave$Cave" "chambers" "I", .fieldLink RX0 54 "EchoCave$Cave" "passages" "I", .fieldLink RX0 35 "EchoCave$Cave" "from" "[I", .fieldLink RX0 38 "EchoCave$Cave" "to" "[I", .fieldLink RX0 41 "EchoCave$Cave" "length" "[I", .methodLink RX0 76 yJ7_fill_53178, .static yJ7_fill_53178, .initialized RJ7, .code yJ7_fill_53178 cJ7_fill_53178 4 none, .methodLink RX0 68 yX0_isOpen, .instanceMethod yX0_isOpen, .selects RX0 yX0_isOpen yX0_isOpen, .initialized RX0, .code yX0_isOpen cX0_isOpen 2 (some .boolean), .fieldLink RX0 15 "EchoCave$Cave" "height" "[I", .fieldLink RX0 57 "EchoCave$Cave" "water" "I", .methodLink RX0 82 yX0_shorten, .instanceMethod yX0_shorten, .selects RX0 yX0_shorten yX0_shorten, .code yX0_shorten cX0_shorten 5 none] ++ wsX00)
def wsX0_raise : List Cond := .code yX0_raise cX0_raise 4 none :: ([.fieldLink RX0 15 "EchoCave$Cave" "height" "[I", .methodLink RX0 89 Lib.Math.min.name, .static Lib.Math.min.name, .initialized "java/lang/Math", .code Lib.Math.min.name Lib.Math.min.code 2 (some .int), .fieldLink RX0 47 "EchoCave$Cave" "found" "[I", .methodLink RX0 95 Lib.Math.max.name, .static Lib.Math.max.name, .code Lib.Math.max.name Lib.Math.max.code 2 (some .int)] ++ wsX00)
def wsX0_highestWater : List Cond := .code yX0_highestWater cX0_highestWater 4 (some .int) :: ([.fieldLink RX0 47 "EchoCave$Cave" "found" "[I", .fieldLink RX0 50 "EchoCave$Cave" "chambers" "I", .fieldLink RX0 54 "EchoCave$Cave" "passages" "I", .fieldLink RX0 35 "EchoCave$Cave" "from" "[I", .fieldLink RX0 38 "EchoCave$Cave" "to" "[I", .methodLink RX0 76 yJ7_fill_53178, .static yJ7_fill_53178, .initialized RJ7, .code yJ7_fill_53178 cJ7_fill_53178 4 none, .methodLink RX0 86 yX0_raise, .instanceMethod yX0_raise, .selects RX0 yX0_raise yX0_raise, .initialized RX0, .code yX0_raise cX0_raise 4 none, .fieldLink RX0 15 "EchoCave$Cave" "height" "[I", .methodLink RX0 89 Lib.Math.min.name, .static Lib.Math.min.name, .initialized "java/lang/Math", .code Lib.Math.min.name Lib.Math.min.code 2 (some .int), .methodLink RX0 95 Lib.Math.max.name, .static Lib.Math.max.name, .code Lib.Math.max.name Lib.Math.max.code 2 (some .int)] ++ wsX00)
def wsX1_init : List Cond := .code yX1_init cX1_init 1 none :: ([.methodLink RX1 5 objectInit, .instanceMethod objectInit, .code objectInit ⟨#[0xb1]⟩ 1 none, .arrayClass .int, .fieldLink RX1 11 "EchoCave$Comings" "heap" "[I", .fieldLink RX1 15 "EchoCave$Comings" "size" "I"] ++ wsX10)
def wsX1_pack : List Cond := .code yX1_pack cX1_pack 5 (some .int) :: ([])
def wsX1_timeOf : List Cond := .code yX1_timeOf cX1_timeOf 1 (some .int) :: ([])
def wsX1_chamberOf : List Cond := .code yX1_chamberOf cX1_chamberOf 1 (some .int) :: ([])
def wsX1_runOf : List Cond := .code yX1_runOf cX1_runOf 1 (some .int) :: ([])
def wsX1_passageOf : List Cond := .code yX1_passageOf cX1_passageOf 1 (some .int) :: ([])
def wsX1_strengthOf : List Cond := .code yX1_strengthOf cX1_strengthOf 1 (some .int) :: ([])
def wsX1_clear : List Cond := .code yX1_clear cX1_clear 1 none :: ([.fieldLink RX1 15 "EchoCave$Comings" "size" "I"] ++ wsX10)
def wsX1_isEmpty : List Cond := .code yX1_isEmpty cX1_isEmpty 1 (some .boolean) :: ([.fieldLink RX1 15 "EchoCave$Comings" "size" "I"] ++ wsX10)
def wsX1_put : List Cond := .code yX1_put cX1_put 3 none :: ([.fieldLink RX1 15 "EchoCave$Comings" "size" "I", .fieldLink RX1 11 "EchoCave$Comings" "heap" "[I"] ++ wsX10)
def wsX1_sink : List Cond := .code yX1_sink cX1_sink 4 none :: ([.fieldLink RX1 15 "EchoCave$Comings" "size" "I", .fieldLink RX1 11 "EchoCave$Comings" "heap" "[I"] ++ wsX10)
def wsX1_takeNext : List Cond := .code yX1_takeNext cX1_takeNext 2 (some .int) :: ([.fieldLink RX1 11 "EchoCave$Comings" "heap" "[I", .fieldLink RX1 15 "EchoCave$Comings" "size" "I", .methodLink RX1 19 yX1_sink, .instanceMethod yX1_sink, .selects RX1 yX1_sink yX1_sink, .initialized RX1, .code yX1_sink cX1_sink 4 none] ++ wsX10)
def wsX2_init : List Cond := .code yX2_init cX2_init 1 none :: ([.methodLink RX2 3 objectInit, .instanceMethod objectInit, .code objectInit ⟨#[0xb1]⟩ 1 none, .arrayClass .int, .fieldLink RX2 9 "EchoCave$Echo" "facts" "[I", .fieldLink RX2 15 "EchoCave$Echo" "firstTime" "[I", .fieldLink RX2 18 "EchoCave$Echo" "places" "I", .fieldLink RX2 22 "EchoCave$Echo" "ear" "I", .fieldLink RX2 25 "EchoCave$Echo" "kept" "I", .fieldLink RX2 28 "EchoCave$Echo" "counted" "I", .fieldLink RX2 31 "EchoCave$Echo" "placesInOrder" "I", .fieldLink RX2 34 "EchoCave$Echo" "lastTime" "I"] ++ wsX20)
def wsX2_begin : List Cond := .code yX2_begin cX2_begin 3 none :: ([.fieldLink RX2 18 "EchoCave$Echo" "places" "I", .fieldLink RX2 22 "EchoCave$Echo" "ear" "I", .fieldLink RX2 25 "EchoCave$Echo" "kept" "I", .fieldLink RX2 28 "EchoCave$Echo" "counted" "I", .fieldLink RX2 31 "EchoCave$Echo" "placesInOrder" "I", .fieldLink RX2 34 "EchoCave$Echo" "lastTime" "I", .fieldLink RX2 15 "EchoCave$Echo" "firstTime" "[I", .methodLink RX2 37 yJ7_fill_53178, .static yJ7_fill_53178, .initialized RJ7, .code yJ7_fill_53178 cJ7_fill_53178 4 none] ++ wsX20)
def wsX2_letCount : List Cond := .code yX2_letCount cX2_letCount 3 none :: ([.fieldLink RX2 28 "EchoCave$Echo" "counted" "I", .fieldLink RX2 34 "EchoCave$Echo" "lastTime" "I", .fieldLink RX2 15 "EchoCave$Echo" "firstTime" "[I", .fieldLink RX2 31 "EchoCave$Echo" "placesInOrder" "I", .static yX4_isWithin, .initialized RX4, .code yX4_isWithin cX4_isWithin 3 (some .boolean)] ++ wsX20)
def wsX2_hear : List Cond := .code yX2_hear cX2_hear 6 none :: ([.fieldLink RX2 25 "EchoCave$Echo" "kept" "I", .fieldLink RX2 9 "EchoCave$Echo" "facts" "[I", .fieldLink RX2 22 "EchoCave$Echo" "ear" "I", .methodLink RX2 43 yX2_letCount, .instanceMethod yX2_letCount, .selects RX2 yX2_letCount yX2_letCount, .initialized RX2, .code yX2_letCount cX2_letCount 3 none, .fieldLink RX2 28 "EchoCave$Echo" "counted" "I", .fieldLink RX2 34 "EchoCave$Echo" "lastTime" "I", .fieldLink RX2 15 "EchoCave$Echo" "firstTime" "[I", .fieldLink RX2 31 "EchoCave$Echo" "placesInOrder" "I", .static yX4_isWithin, .initialized RX4, .code yX4_isWithin cX4_isWithin 3 (some .boolean)] ++ wsX20)
def wsX2_cameInOrder : List Cond := .code yX2_cameInOrder cX2_cameInOrder 1 (some .boolean) :: ([.fieldLink RX2 18 "EchoCave$Echo" "places" "I", .fieldLink RX2 31 "EchoCave$Echo" "placesInOrder" "I"] ++ wsX20)
def wsX2_heardFact : List Cond := .code yX2_heardFact cX2_heardFact 3 (some .int) :: ([.fieldLink RX2 9 "EchoCave$Echo" "facts" "[I"] ++ wsX20)
def wsX2_meanStrength : List Cond := .code yX2_meanStrength cX2_meanStrength 3 (some .double) :: ([.fieldLink RX2 25 "EchoCave$Echo" "kept" "I", .methodLink RX2 51 yX2_heardFact, .instanceMethod yX2_heardFact, .selects RX2 yX2_heardFact yX2_heardFact, .initialized RX2, .code yX2_heardFact cX2_heardFact 3 (some .int), .fieldLink RX2 9 "EchoCave$Echo" "facts" "[I"] ++ wsX20)
def wsX3_init : List Cond := .code yX3_init cX3_init 2 none :: ([.methodLink RX3 3 objectInit, .instanceMethod objectInit, .code objectInit ⟨#[0xb1]⟩ 1 none, .fieldLink RX3 9 "EchoCave$Sound" "cave" "LEchoCave$Cave;", .classLink RX3 15 RX1, .instantiable RX1 2, .initialized RX1, .fieldLink RX3 18 "EchoCave$Sound" "comings" "LEchoCave$Comings;", .arrayClass .int, .fieldLink RX3 22 "EchoCave$Sound" "syllable" "[I", .fieldLink RX3 26 "EchoCave$Sound" "place" "[I", .arrayClass .long, .fieldLink RX3 29 "EchoCave$Sound" "passagesUsed" "[J", .fieldLink RX3 33 "EchoCave$Sound" "runs" "I", .fieldLink RX3 37 "EchoCave$Sound" "clappersSetOff" "I", .methodLink RX3 17 yX1_init, .instanceMethod yX1_init, .code yX1_init cX1_init 1 none, .methodLink RX1 5 objectInit, .fieldLink RX1 11 "EchoCave$Comings" "heap" "[I", .fieldLink RX1 15 "EchoCave$Comings" "size" "I"] ++ wsX30 ++ wsX10)
def wsX4_placesOf : List Cond := .code yX4_placesOf cX4_placesOf 3 (some .int) :: ([])
def wsX3_startRun : List Cond := .code yX3_startRun cX3_startRun 6 none :: ([.fieldLink RX3 33 "EchoCave$Sound" "runs" "I", .fieldLink RX3 22 "EchoCave$Sound" "syllable" "[I", .fieldLink RX3 26 "EchoCave$Sound" "place" "[I", .fieldLink RX3 29 "EchoCave$Sound" "passagesUsed" "[J", .fieldLink RX3 18 "EchoCave$Sound" "comings" "LEchoCave$Comings;", .methodLink RX3 72 yX1_pack, .static yX1_pack, .initialized RX1, .code yX1_pack cX1_pack 5 (some .int), .methodLink RX3 76 yX1_put, .instanceMethod yX1_put, .selects RX1 yX1_put yX1_put, .code yX1_put cX1_put 3 none, .fieldLink RX1 15 "EchoCave$Comings" "size" "I", .fieldLink RX1 11 "EchoCave$Comings" "heap" "[I"] ++ wsX30 ++ wsX10)
def wsX3_begin_r1 : List Cond := [Cond.fieldLink RX3 18 "EchoCave$Sound" "comings" "LEchoCave$Comings;", Cond.fieldLink RX3 33 "EchoCave$Sound" "runs" "I", Cond.fieldLink RX3 37 "EchoCave$Sound" "clappersSetOff" "I", Cond.methodLink RX3 65 yX1_clear, Cond.instanceMethod yX1_clear, Cond.selects RX1 yX1_clear yX1_clear, Cond.initialized RX1, Cond.code yX1_clear cX1_clear 1 none, Cond.fieldLink RX1 15 "EchoCave$Comings" "size" "I", Cond.methodLink RX3 68 yX3_startRun, Cond.instanceMethod yX3_startRun, Cond.selects RX3 yX3_startRun yX3_startRun, Cond.initialized RX3, Cond.code yX3_startRun cX3_startRun 6 none, Cond.fieldLink RX3 22 "EchoCave$Sound" "syllable" "[I", Cond.fieldLink RX3 26 "EchoCave$Sound" "place" "[I", Cond.fieldLink RX3 29 "EchoCave$Sound" "passagesUsed" "[J", Cond.methodLink RX3 72 yX1_pack, Cond.static yX1_pack, Cond.code yX1_pack cX1_pack 5 (some .int), Cond.methodLink RX3 76 yX1_put, Cond.instanceMethod yX1_put, Cond.selects RX1 yX1_put yX1_put, Cond.code yX1_put cX1_put 3 none]
def wsX3_begin_r2 : List Cond := [Cond.fieldLink RX1 11 "EchoCave$Comings" "heap" "[I"]
def wsX3_begin : List Cond := .code yX3_begin cX3_begin 6 none :: ((wsX3_begin_r1 ++ wsX3_begin_r2) ++ wsX30 ++ wsX10)
def wsX3_setOffClapper : List Cond := .code yX3_setOffClapper cX3_setOffClapper 6 none :: ([.fieldLink RX3 9 "EchoCave$Sound" "cave" "LEchoCave$Cave;", .fieldLink RX3 22 "EchoCave$Sound" "syllable" "[I", .fieldLink RX3 37 "EchoCave$Sound" "clappersSetOff" "I", .fieldLink RX3 26 "EchoCave$Sound" "place" "[I", .methodLink RX3 68 yX3_startRun, .instanceMethod yX3_startRun, .selects RX3 yX3_startRun yX3_startRun, .initialized RX3, .code yX3_startRun cX3_startRun 6 none, .fieldLink RX3 33 "EchoCave$Sound" "runs" "I", .fieldLink RX3 29 "EchoCave$Sound" "passagesUsed" "[J", .fieldLink RX3 18 "EchoCave$Sound" "comings" "LEchoCave$Comings;", .methodLink RX3 72 yX1_pack, .static yX1_pack, .initialized RX1, .code yX1_pack cX1_pack 5 (some .int), .methodLink RX3 76 yX1_put, .instanceMethod yX1_put, .selects RX1 yX1_put yX1_put, .code yX1_put cX1_put 3 none, .fieldLink RX1 15 "EchoCave$Comings" "size" "I", .fieldLink RX1 11 "EchoCave$Comings" "heap" "[I"] ++ wsX30 ++ wsX00 ++ wsX10)
def wsX3_goInto_r1 : List Cond := [Cond.fieldLink RX3 9 "EchoCave$Sound" "cave" "LEchoCave$Cave;", Cond.fieldLink RX3 29 "EchoCave$Sound" "passagesUsed" "[J", Cond.fieldLink RX3 18 "EchoCave$Sound" "comings" "LEchoCave$Comings;", Cond.methodLink RX3 145 yX0_otherEnd, Cond.instanceMethod yX0_otherEnd, Cond.selects RX0 yX0_otherEnd yX0_otherEnd, Cond.initialized RX0, Cond.code yX0_otherEnd cX0_otherEnd 3 (some .int), Cond.fieldLink RX0 35 "EchoCave$Cave" "from" "[I", Cond.fieldLink RX0 38 "EchoCave$Cave" "to" "[I", Cond.methodLink RX3 148 yX0_strengthBehind, Cond.instanceMethod yX0_strengthBehind, Cond.selects RX0 yX0_strengthBehind yX0_strengthBehind, Cond.code yX0_strengthBehind cX0_strengthBehind 3 (some .int), Cond.fieldLink RX0 44 "EchoCave$Cave" "narrow" "[I", Cond.methodLink RX3 72 yX1_pack, Cond.static yX1_pack, Cond.initialized RX1, Cond.code yX1_pack cX1_pack 5 (some .int), Cond.methodLink RX3 76 yX1_put, Cond.instanceMethod yX1_put, Cond.selects RX1 yX1_put yX1_put, Cond.code yX1_put cX1_put 3 none, Cond.fieldLink RX1 15 "EchoCave$Comings" "size" "I"]
def wsX3_goInto_r2 : List Cond := [Cond.fieldLink RX1 11 "EchoCave$Comings" "heap" "[I"]
def wsX3_goInto : List Cond := .code yX3_goInto cX3_goInto 10 none :: ((wsX3_goInto_r1 ++ wsX3_goInto_r2) ++ wsX30 ++ wsX00 ++ wsX10)
def wsX3_goOn_r1 : List Cond := [Cond.fieldLink RX3 9 "EchoCave$Sound" "cave" "LEchoCave$Cave;", Cond.methodLink RX3 136 yX0_isOpen, Cond.instanceMethod yX0_isOpen, Cond.selects RX0 yX0_isOpen yX0_isOpen, Cond.initialized RX0, Cond.code yX0_isOpen cX0_isOpen 2 (some .boolean), Cond.fieldLink RX0 15 "EchoCave$Cave" "height" "[I", Cond.fieldLink RX0 35 "EchoCave$Cave" "from" "[I", Cond.fieldLink RX0 57 "EchoCave$Cave" "water" "I", Cond.fieldLink RX0 38 "EchoCave$Cave" "to" "[I", Cond.methodLink RX3 122 yX3_goInto, Cond.instanceMethod yX3_goInto, Cond.selects RX3 yX3_goInto yX3_goInto, Cond.initialized RX3, Cond.code yX3_goInto cX3_goInto 10 none, Cond.fieldLink RX3 29 "EchoCave$Sound" "passagesUsed" "[J", Cond.fieldLink RX3 18 "EchoCave$Sound" "comings" "LEchoCave$Comings;", Cond.methodLink RX3 145 yX0_otherEnd, Cond.instanceMethod yX0_otherEnd, Cond.selects RX0 yX0_otherEnd yX0_otherEnd, Cond.code yX0_otherEnd cX0_otherEnd 3 (some .int), Cond.methodLink RX3 148 yX0_strengthBehind, Cond.instanceMethod yX0_strengthBehind, Cond.selects RX0 yX0_strengthBehind yX0_strengthBehind]
def wsX3_goOn_r2 : List Cond := [Cond.code yX0_strengthBehind cX0_strengthBehind 3 (some .int), Cond.fieldLink RX0 44 "EchoCave$Cave" "narrow" "[I", Cond.methodLink RX3 72 yX1_pack, Cond.static yX1_pack, Cond.initialized RX1, Cond.code yX1_pack cX1_pack 5 (some .int), Cond.methodLink RX3 76 yX1_put, Cond.instanceMethod yX1_put, Cond.selects RX1 yX1_put yX1_put, Cond.code yX1_put cX1_put 3 none, Cond.fieldLink RX1 15 "EchoCave$Comings" "size" "I", Cond.fieldLink RX1 11 "EchoCave$Comings" "heap" "[I"]
def wsX3_goOn : List Cond := .code yX3_goOn cX3_goOn 8 none :: ((wsX3_goOn_r1 ++ wsX3_goOn_r2) ++ wsX30 ++ wsX00 ++ wsX10)
def wsX3_come_r1 : List Cond := [Cond.fieldLink RX3 33 "EchoCave$Sound" "runs" "I", Cond.fieldLink RX3 9 "EchoCave$Sound" "cave" "LEchoCave$Cave;", Cond.fieldLink RX3 26 "EchoCave$Sound" "place" "[I", Cond.fieldLink RX3 22 "EchoCave$Sound" "syllable" "[I", Cond.methodLink RX3 80 yX1_timeOf, Cond.static yX1_timeOf, Cond.initialized RX1, Cond.code yX1_timeOf cX1_timeOf 1 (some .int), Cond.methodLink RX3 83 yX1_chamberOf, Cond.static yX1_chamberOf, Cond.code yX1_chamberOf cX1_chamberOf 1 (some .int), Cond.methodLink RX3 86 yX1_runOf, Cond.static yX1_runOf, Cond.code yX1_runOf cX1_runOf 1 (some .int), Cond.methodLink RX3 89 yX1_passageOf, Cond.static yX1_passageOf, Cond.code yX1_passageOf cX1_passageOf 1 (some .int), Cond.methodLink RX3 92 yX1_strengthOf, Cond.static yX1_strengthOf, Cond.code yX1_strengthOf cX1_strengthOf 1 (some .int), Cond.methodLink RX3 95 yX0_hasChamber, Cond.instanceMethod yX0_hasChamber, Cond.selects RX0 yX0_hasChamber yX0_hasChamber, Cond.initialized RX0]
def wsX3_come_r2 : List Cond := [Cond.code yX0_hasChamber cX0_hasChamber 2 (some .boolean), Cond.fieldLink RX0 50 "EchoCave$Cave" "chambers" "I", Cond.static yX4_isWithin, Cond.initialized RX4, Cond.code yX4_isWithin cX4_isWithin 3 (some .boolean), Cond.methodLink RX3 104 yX2_hear, Cond.instanceMethod yX2_hear, Cond.selects RX2 yX2_hear yX2_hear, Cond.initialized RX2, Cond.code yX2_hear cX2_hear 6 none, Cond.fieldLink RX2 25 "EchoCave$Echo" "kept" "I", Cond.fieldLink RX2 9 "EchoCave$Echo" "facts" "[I", Cond.fieldLink RX2 22 "EchoCave$Echo" "ear" "I", Cond.methodLink RX2 43 yX2_letCount, Cond.instanceMethod yX2_letCount, Cond.selects RX2 yX2_letCount yX2_letCount, Cond.code yX2_letCount cX2_letCount 3 none, Cond.fieldLink RX2 28 "EchoCave$Echo" "counted" "I", Cond.fieldLink RX2 34 "EchoCave$Echo" "lastTime" "I", Cond.fieldLink RX2 15 "EchoCave$Echo" "firstTime" "[I", Cond.fieldLink RX2 31 "EchoCave$Echo" "placesInOrder" "I", Cond.methodLink RX3 108 yX0_drowns, Cond.instanceMethod yX0_drowns, Cond.selects RX0 yX0_drowns yX0_drowns]
def wsX3_come_r3 : List Cond := [Cond.code yX0_drowns cX0_drowns 3 (some .boolean), Cond.fieldLink RX0 18 "EchoCave$Cave" "bats" "[I", Cond.methodLink RX3 112 yX3_setOffClapper, Cond.instanceMethod yX3_setOffClapper, Cond.selects RX3 yX3_setOffClapper yX3_setOffClapper, Cond.initialized RX3, Cond.code yX3_setOffClapper cX3_setOffClapper 6 none, Cond.fieldLink RX3 37 "EchoCave$Sound" "clappersSetOff" "I", Cond.methodLink RX3 68 yX3_startRun, Cond.instanceMethod yX3_startRun, Cond.selects RX3 yX3_startRun yX3_startRun, Cond.code yX3_startRun cX3_startRun 6 none, Cond.fieldLink RX3 29 "EchoCave$Sound" "passagesUsed" "[J", Cond.fieldLink RX3 18 "EchoCave$Sound" "comings" "LEchoCave$Comings;", Cond.methodLink RX3 72 yX1_pack, Cond.static yX1_pack, Cond.code yX1_pack cX1_pack 5 (some .int), Cond.methodLink RX3 76 yX1_put, Cond.instanceMethod yX1_put, Cond.selects RX1 yX1_put yX1_put, Cond.code yX1_put cX1_put 3 none, Cond.fieldLink RX1 15 "EchoCave$Comings" "size" "I", Cond.fieldLink RX1 11 "EchoCave$Comings" "heap" "[I", Cond.methodLink RX3 115 yX3_goOn]
def wsX3_come_r4 : List Cond := [Cond.instanceMethod yX3_goOn, Cond.selects RX3 yX3_goOn yX3_goOn, Cond.code yX3_goOn cX3_goOn 8 none, Cond.methodLink RX3 136 yX0_isOpen, Cond.instanceMethod yX0_isOpen, Cond.selects RX0 yX0_isOpen yX0_isOpen, Cond.code yX0_isOpen cX0_isOpen 2 (some .boolean), Cond.fieldLink RX0 15 "EchoCave$Cave" "height" "[I", Cond.fieldLink RX0 35 "EchoCave$Cave" "from" "[I", Cond.fieldLink RX0 57 "EchoCave$Cave" "water" "I", Cond.fieldLink RX0 38 "EchoCave$Cave" "to" "[I", Cond.methodLink RX3 122 yX3_goInto, Cond.instanceMethod yX3_goInto, Cond.selects RX3 yX3_goInto yX3_goInto, Cond.code yX3_goInto cX3_goInto 10 none, Cond.methodLink RX3 145 yX0_otherEnd, Cond.instanceMethod yX0_otherEnd, Cond.selects RX0 yX0_otherEnd yX0_otherEnd, Cond.code yX0_otherEnd cX0_otherEnd 3 (some .int), Cond.methodLink RX3 148 yX0_strengthBehind, Cond.instanceMethod yX0_strengthBehind, Cond.selects RX0 yX0_strengthBehind yX0_strengthBehind, Cond.code yX0_strengthBehind cX0_strengthBehind 3 (some .int), Cond.fieldLink RX0 44 "EchoCave$Cave" "narrow" "[I"]
def wsX3_come_r5 : List Cond := [Cond.methodLink RX3 118 yX0_strengthFromWall, Cond.instanceMethod yX0_strengthFromWall, Cond.selects RX0 yX0_strengthFromWall yX0_strengthFromWall, Cond.code yX0_strengthFromWall cX0_strengthFromWall 3 (some .int), Cond.fieldLink RX0 9 "EchoCave$Cave" "wall" "[I"]
def wsX3_come : List Cond := .code yX3_come cX3_come 8 none :: ((wsX3_come_r1 ++ (wsX3_come_r2 ++ (wsX3_come_r3 ++ (wsX3_come_r4 ++ wsX3_come_r5)))) ++ wsX30 ++ wsX00 ++ wsX20 ++ wsX10)
def wsX3_runThrough_r1 : List Cond := [Cond.fieldLink RX3 18 "EchoCave$Sound" "comings" "LEchoCave$Comings;", Cond.static yX4_placesOf, Cond.initialized RX4, Cond.code yX4_placesOf cX4_placesOf 3 (some .int), Cond.methodLink RX3 44 yX2_begin, Cond.instanceMethod yX2_begin, Cond.selects RX2 yX2_begin yX2_begin, Cond.initialized RX2, Cond.code yX2_begin cX2_begin 3 none, Cond.fieldLink RX2 18 "EchoCave$Echo" "places" "I", Cond.fieldLink RX2 22 "EchoCave$Echo" "ear" "I", Cond.fieldLink RX2 25 "EchoCave$Echo" "kept" "I", Cond.fieldLink RX2 28 "EchoCave$Echo" "counted" "I", Cond.fieldLink RX2 31 "EchoCave$Echo" "placesInOrder" "I", Cond.fieldLink RX2 34 "EchoCave$Echo" "lastTime" "I", Cond.fieldLink RX2 15 "EchoCave$Echo" "firstTime" "[I", Cond.methodLink RX2 37 yJ7_fill_53178, Cond.static yJ7_fill_53178, Cond.initialized RJ7, Cond.code yJ7_fill_53178 cJ7_fill_53178 4 none, Cond.methodLink RX3 50 yX3_begin, Cond.instanceMethod yX3_begin, Cond.selects RX3 yX3_begin yX3_begin, Cond.initialized RX3]
def wsX3_runThrough_r2 : List Cond := [Cond.code yX3_begin cX3_begin 6 none, Cond.fieldLink RX3 33 "EchoCave$Sound" "runs" "I", Cond.fieldLink RX3 37 "EchoCave$Sound" "clappersSetOff" "I", Cond.methodLink RX3 65 yX1_clear, Cond.instanceMethod yX1_clear, Cond.selects RX1 yX1_clear yX1_clear, Cond.initialized RX1, Cond.code yX1_clear cX1_clear 1 none, Cond.fieldLink RX1 15 "EchoCave$Comings" "size" "I", Cond.methodLink RX3 68 yX3_startRun, Cond.instanceMethod yX3_startRun, Cond.selects RX3 yX3_startRun yX3_startRun, Cond.code yX3_startRun cX3_startRun 6 none, Cond.fieldLink RX3 22 "EchoCave$Sound" "syllable" "[I", Cond.fieldLink RX3 26 "EchoCave$Sound" "place" "[I", Cond.fieldLink RX3 29 "EchoCave$Sound" "passagesUsed" "[J", Cond.methodLink RX3 72 yX1_pack, Cond.static yX1_pack, Cond.code yX1_pack cX1_pack 5 (some .int), Cond.methodLink RX3 76 yX1_put, Cond.instanceMethod yX1_put, Cond.selects RX1 yX1_put yX1_put, Cond.code yX1_put cX1_put 3 none, Cond.fieldLink RX1 11 "EchoCave$Comings" "heap" "[I"]
def wsX3_runThrough_r3 : List Cond := [Cond.methodLink RX3 53 yX1_isEmpty, Cond.instanceMethod yX1_isEmpty, Cond.selects RX1 yX1_isEmpty yX1_isEmpty, Cond.code yX1_isEmpty cX1_isEmpty 1 (some .boolean), Cond.methodLink RX3 57 yX1_takeNext, Cond.instanceMethod yX1_takeNext, Cond.selects RX1 yX1_takeNext yX1_takeNext, Cond.code yX1_takeNext cX1_takeNext 2 (some .int), Cond.methodLink RX1 19 yX1_sink, Cond.instanceMethod yX1_sink, Cond.selects RX1 yX1_sink yX1_sink, Cond.code yX1_sink cX1_sink 4 none, Cond.methodLink RX3 61 yX3_come, Cond.instanceMethod yX3_come, Cond.selects RX3 yX3_come yX3_come, Cond.code yX3_come cX3_come 8 none, Cond.fieldLink RX3 9 "EchoCave$Sound" "cave" "LEchoCave$Cave;", Cond.methodLink RX3 80 yX1_timeOf, Cond.static yX1_timeOf, Cond.code yX1_timeOf cX1_timeOf 1 (some .int), Cond.methodLink RX3 83 yX1_chamberOf, Cond.static yX1_chamberOf, Cond.code yX1_chamberOf cX1_chamberOf 1 (some .int), Cond.methodLink RX3 86 yX1_runOf]
def wsX3_runThrough_r4 : List Cond := [Cond.static yX1_runOf, Cond.code yX1_runOf cX1_runOf 1 (some .int), Cond.methodLink RX3 89 yX1_passageOf, Cond.static yX1_passageOf, Cond.code yX1_passageOf cX1_passageOf 1 (some .int), Cond.methodLink RX3 92 yX1_strengthOf, Cond.static yX1_strengthOf, Cond.code yX1_strengthOf cX1_strengthOf 1 (some .int), Cond.methodLink RX3 95 yX0_hasChamber, Cond.instanceMethod yX0_hasChamber, Cond.selects RX0 yX0_hasChamber yX0_hasChamber, Cond.initialized RX0, Cond.code yX0_hasChamber cX0_hasChamber 2 (some .boolean), Cond.fieldLink RX0 50 "EchoCave$Cave" "chambers" "I", Cond.static yX4_isWithin, Cond.code yX4_isWithin cX4_isWithin 3 (some .boolean), Cond.methodLink RX3 104 yX2_hear, Cond.instanceMethod yX2_hear, Cond.selects RX2 yX2_hear yX2_hear, Cond.code yX2_hear cX2_hear 6 none, Cond.fieldLink RX2 9 "EchoCave$Echo" "facts" "[I", Cond.methodLink RX2 43 yX2_letCount, Cond.instanceMethod yX2_letCount, Cond.selects RX2 yX2_letCount yX2_letCount]
def wsX3_runThrough_r5 : List Cond := [Cond.code yX2_letCount cX2_letCount 3 none, Cond.methodLink RX3 108 yX0_drowns, Cond.instanceMethod yX0_drowns, Cond.selects RX0 yX0_drowns yX0_drowns, Cond.code yX0_drowns cX0_drowns 3 (some .boolean), Cond.fieldLink RX0 18 "EchoCave$Cave" "bats" "[I", Cond.methodLink RX3 112 yX3_setOffClapper, Cond.instanceMethod yX3_setOffClapper, Cond.selects RX3 yX3_setOffClapper yX3_setOffClapper, Cond.code yX3_setOffClapper cX3_setOffClapper 6 none, Cond.methodLink RX3 115 yX3_goOn, Cond.instanceMethod yX3_goOn, Cond.selects RX3 yX3_goOn yX3_goOn, Cond.code yX3_goOn cX3_goOn 8 none, Cond.methodLink RX3 136 yX0_isOpen, Cond.instanceMethod yX0_isOpen, Cond.selects RX0 yX0_isOpen yX0_isOpen, Cond.code yX0_isOpen cX0_isOpen 2 (some .boolean), Cond.fieldLink RX0 15 "EchoCave$Cave" "height" "[I", Cond.fieldLink RX0 35 "EchoCave$Cave" "from" "[I", Cond.fieldLink RX0 57 "EchoCave$Cave" "water" "I", Cond.fieldLink RX0 38 "EchoCave$Cave" "to" "[I", Cond.methodLink RX3 122 yX3_goInto, Cond.instanceMethod yX3_goInto]
def wsX3_runThrough_r6 : List Cond := [Cond.selects RX3 yX3_goInto yX3_goInto, Cond.code yX3_goInto cX3_goInto 10 none, Cond.methodLink RX3 145 yX0_otherEnd, Cond.instanceMethod yX0_otherEnd, Cond.selects RX0 yX0_otherEnd yX0_otherEnd, Cond.code yX0_otherEnd cX0_otherEnd 3 (some .int), Cond.methodLink RX3 148 yX0_strengthBehind, Cond.instanceMethod yX0_strengthBehind, Cond.selects RX0 yX0_strengthBehind yX0_strengthBehind, Cond.code yX0_strengthBehind cX0_strengthBehind 3 (some .int), Cond.fieldLink RX0 44 "EchoCave$Cave" "narrow" "[I", Cond.methodLink RX3 118 yX0_strengthFromWall, Cond.instanceMethod yX0_strengthFromWall, Cond.selects RX0 yX0_strengthFromWall yX0_strengthFromWall, Cond.code yX0_strengthFromWall cX0_strengthFromWall 3 (some .int), Cond.fieldLink RX0 9 "EchoCave$Cave" "wall" "[I"]
def wsX3_runThrough : List Cond := .code yX3_runThrough cX3_runThrough 7 none :: ((wsX3_runThrough_r1 ++ (wsX3_runThrough_r2 ++ (wsX3_runThrough_r3 ++ (wsX3_runThrough_r4 ++ (wsX3_runThrough_r5 ++ wsX3_runThrough_r6))))) ++ wsX30 ++ wsX20 ++ wsX10 ++ wsX00)
def wsX4_init_r1 : List Cond := [Cond.methodLink RX4 3 objectInit, Cond.instanceMethod objectInit, Cond.code objectInit ⟨#[0xb1]⟩ 1 none, Cond.classLink RX4 9 RX0, Cond.instantiable RX0 15, Cond.initialized RX0, Cond.fieldLink RX4 12 "EchoCave" "cave" "LEchoCave$Cave;", Cond.classLink RX4 16 RX3, Cond.instantiable RX3 7, Cond.initialized RX3, Cond.fieldLink RX4 21 "EchoCave" "sound" "LEchoCave$Sound;", Cond.classLink RX4 25 RX2, Cond.instantiable RX2 8, Cond.initialized RX2, Cond.fieldLink RX4 28 "EchoCave" "latest" "LEchoCave$Echo;", Cond.fieldLink RX4 32 "EchoCave" "trial" "LEchoCave$Echo;", Cond.fieldLink RX4 35 "EchoCave" "ear" "I", Cond.fieldLink RX4 39 "EchoCave" "wordsSaid" "I", Cond.fieldLink RX4 42 "EchoCave" "latestWord" "I", Cond.methodLink RX4 11 yX0_init, Cond.instanceMethod yX0_init, Cond.code yX0_init cX0_init 1 none, Cond.methodLink RX0 3 objectInit, Cond.arrayClass .int]
def wsX4_init_r2 : List Cond := [Cond.fieldLink RX0 9 "EchoCave$Cave" "wall" "[I", Cond.fieldLink RX0 15 "EchoCave$Cave" "height" "[I", Cond.fieldLink RX0 18 "EchoCave$Cave" "bats" "[I", Cond.fieldLink RX0 21 "EchoCave$Cave" "syllable" "[I", Cond.fieldLink RX0 24 "EchoCave$Cave" "delay" "[I", Cond.fieldLink RX0 27 "EchoCave$Cave" "doors" "[I", Cond.classLink RX0 30 "[[I", Cond.fieldLink RX0 32 "EchoCave$Cave" "passageBehind" "[[I", Cond.fieldLink RX0 35 "EchoCave$Cave" "from" "[I", Cond.fieldLink RX0 38 "EchoCave$Cave" "to" "[I", Cond.fieldLink RX0 41 "EchoCave$Cave" "length" "[I", Cond.fieldLink RX0 44 "EchoCave$Cave" "narrow" "[I", Cond.fieldLink RX0 47 "EchoCave$Cave" "found" "[I", Cond.fieldLink RX0 50 "EchoCave$Cave" "chambers" "I", Cond.fieldLink RX0 54 "EchoCave$Cave" "passages" "I", Cond.fieldLink RX0 57 "EchoCave$Cave" "water" "I", Cond.methodLink RX4 18 yX3_init, Cond.instanceMethod yX3_init, Cond.code yX3_init cX3_init 2 none, Cond.methodLink RX3 3 objectInit, Cond.fieldLink RX3 9 "EchoCave$Sound" "cave" "LEchoCave$Cave;", Cond.classLink RX3 15 RX1, Cond.instantiable RX1 2, Cond.initialized RX1]
def wsX4_init_r3 : List Cond := [Cond.fieldLink RX3 18 "EchoCave$Sound" "comings" "LEchoCave$Comings;", Cond.fieldLink RX3 22 "EchoCave$Sound" "syllable" "[I", Cond.fieldLink RX3 26 "EchoCave$Sound" "place" "[I", Cond.arrayClass .long, Cond.fieldLink RX3 29 "EchoCave$Sound" "passagesUsed" "[J", Cond.fieldLink RX3 33 "EchoCave$Sound" "runs" "I", Cond.fieldLink RX3 37 "EchoCave$Sound" "clappersSetOff" "I", Cond.methodLink RX3 17 yX1_init, Cond.instanceMethod yX1_init, Cond.code yX1_init cX1_init 1 none, Cond.methodLink RX1 5 objectInit, Cond.fieldLink RX1 11 "EchoCave$Comings" "heap" "[I", Cond.fieldLink RX1 15 "EchoCave$Comings" "size" "I", Cond.methodLink RX4 27 yX2_init, Cond.instanceMethod yX2_init, Cond.code yX2_init cX2_init 1 none, Cond.methodLink RX2 3 objectInit, Cond.fieldLink RX2 9 "EchoCave$Echo" "facts" "[I", Cond.fieldLink RX2 15 "EchoCave$Echo" "firstTime" "[I", Cond.fieldLink RX2 18 "EchoCave$Echo" "places" "I", Cond.fieldLink RX2 22 "EchoCave$Echo" "ear" "I", Cond.fieldLink RX2 25 "EchoCave$Echo" "kept" "I", Cond.fieldLink RX2 28 "EchoCave$Echo" "counted" "I", Cond.fieldLink RX2 31 "EchoCave$Echo" "placesInOrder" "I"]
def wsX4_init_r4 : List Cond := [Cond.fieldLink RX2 34 "EchoCave$Echo" "lastTime" "I"]
def wsX4_init : List Cond := .code yX4_init cX4_init 1 none :: ((wsX4_init_r1 ++ (wsX4_init_r2 ++ (wsX4_init_r3 ++ wsX4_init_r4))) ++ wsX00 ++ wsX40 ++ wsX30 ++ wsX20 ++ wsX10)
def wsX4_requireArgument : List Cond := .code yX4_requireArgument cX4_requireArgument 1 none :: ([.classLink RX4 181 "java/lang/IllegalArgumentException", .initialized "java/lang/IllegalArgumentException"] ++ (vx_atS RX4 185 "java/lang/IllegalArgumentException" ["java/lang/RuntimeException", "java/lang/Exception"]).filter goodWord)
def wsX4_addChamber : List Cond := .code yX4_addChamber cX4_addChamber 4 (some .int) :: ([.classLink RX4 56 "java/lang/IllegalStateException", .initialized "java/lang/IllegalStateException", .fieldLink RX4 12 "EchoCave" "cave" "LEchoCave$Cave;", .methodLink RX4 45 yX4_isWithin, .static yX4_isWithin, .initialized RX4, .code yX4_isWithin cX4_isWithin 3 (some .boolean), .methodLink RX4 49 yX4_requireArgument, .static yX4_requireArgument, .code yX4_requireArgument cX4_requireArgument 1 none, .classLink RX4 181 "java/lang/IllegalArgumentException", .initialized "java/lang/IllegalArgumentException", .methodLink RX4 63 yX0_findChamber, .instanceMethod yX0_findChamber, .selects RX0 yX0_findChamber yX0_findChamber, .initialized RX0, .code yX0_findChamber cX0_findChamber 5 (some .int), .fieldLink RX0 50 "EchoCave$Cave" "chambers" "I", .fieldLink RX0 9 "EchoCave$Cave" "wall" "[I", .fieldLink RX0 15 "EchoCave$Cave" "height" "[I", .fieldLink RX0 18 "EchoCave$Cave" "bats" "[I"] ++ wsX40 ++ wsX00 ++ (vx_atS RX4 60 "java/lang/IllegalStateException" ["java/lang/RuntimeException", "java/lang/Exception"]).filter goodWord ++ (vx_atS RX4 185 "java/lang/IllegalArgumentException" ["java/lang/RuntimeException", "java/lang/Exception"]).filter goodWord)
def wsX4_requireIndex : List Cond := .code yX4_requireIndex cX4_requireIndex 1 none :: ([.classLink RX4 176 "java/lang/IndexOutOfBoundsException", .initialized "java/lang/IndexOutOfBoundsException"] ++ (vx_atS RX4 180 "java/lang/IndexOutOfBoundsException" ["java/lang/RuntimeException", "java/lang/Exception"]).filter goodWord)
def wsX4_addPassage_r1 : List Cond := [Cond.classLink RX4 56 "java/lang/IllegalStateException", Cond.initialized "java/lang/IllegalStateException", Cond.fieldLink RX4 12 "EchoCave" "cave" "LEchoCave$Cave;", Cond.methodLink RX4 67 yX0_hasChamber, Cond.instanceMethod yX0_hasChamber, Cond.selects RX0 yX0_hasChamber yX0_hasChamber, Cond.initialized RX0, Cond.code yX0_hasChamber cX0_hasChamber 2 (some .boolean), Cond.fieldLink RX0 50 "EchoCave$Cave" "chambers" "I", Cond.static yX4_isWithin, Cond.initialized RX4, Cond.code yX4_isWithin cX4_isWithin 3 (some .boolean), Cond.methodLink RX4 71 yX4_requireIndex, Cond.static yX4_requireIndex, Cond.code yX4_requireIndex cX4_requireIndex 1 none, Cond.classLink RX4 176 "java/lang/IndexOutOfBoundsException", Cond.initialized "java/lang/IndexOutOfBoundsException", Cond.methodLink RX4 49 yX4_requireArgument, Cond.static yX4_requireArgument, Cond.code yX4_requireArgument cX4_requireArgument 1 none, Cond.classLink RX4 181 "java/lang/IllegalArgumentException", Cond.initialized "java/lang/IllegalArgumentException", Cond.methodLink RX4 45 yX4_isWithin, Cond.methodLink RX4 79 yX0_findPassage]
def wsX4_addPassage_r2 : List Cond := [Cond.instanceMethod yX0_findPassage, Cond.selects RX0 yX0_findPassage yX0_findPassage, Cond.code yX0_findPassage cX0_findPassage 6 (some .int), Cond.fieldLink RX0 54 "EchoCave$Cave" "passages" "I", Cond.fieldLink RX0 35 "EchoCave$Cave" "from" "[I", Cond.fieldLink RX0 38 "EchoCave$Cave" "to" "[I", Cond.fieldLink RX0 41 "EchoCave$Cave" "length" "[I", Cond.fieldLink RX0 44 "EchoCave$Cave" "narrow" "[I", Cond.methodLink RX0 64 yX0_addDoor, Cond.instanceMethod yX0_addDoor, Cond.selects RX0 yX0_addDoor yX0_addDoor, Cond.code yX0_addDoor cX0_addDoor 3 none, Cond.fieldLink RX0 32 "EchoCave$Cave" "passageBehind" "[[I", Cond.fieldLink RX0 27 "EchoCave$Cave" "doors" "[I"]
def wsX4_addPassage : List Cond := .code yX4_addPassage cX4_addPassage 5 (some .int) :: ((wsX4_addPassage_r1 ++ wsX4_addPassage_r2) ++ wsX40 ++ wsX00 ++ (vx_atS RX4 60 "java/lang/IllegalStateException" ["java/lang/RuntimeException", "java/lang/Exception"]).filter goodWord ++ (vx_atS RX4 180 "java/lang/IndexOutOfBoundsException" ["java/lang/RuntimeException", "java/lang/Exception"]).filter goodWord ++ (vx_atS RX4 185 "java/lang/IllegalArgumentException" ["java/lang/RuntimeException", "java/lang/Exception"]).filter goodWord)
def wsX4_setWater : List Cond := .code yX4_setWater cX4_setWater 3 (some .int) :: ([.fieldLink RX4 12 "EchoCave" "cave" "LEchoCave$Cave;", .methodLink RX4 45 yX4_isWithin, .static yX4_isWithin, .initialized RX4, .code yX4_isWithin cX4_isWithin 3 (some .boolean), .methodLink RX4 49 yX4_requireArgument, .static yX4_requireArgument, .code yX4_requireArgument cX4_requireArgument 1 none, .classLink RX4 181 "java/lang/IllegalArgumentException", .initialized "java/lang/IllegalArgumentException"] ++ wsX40 ++ wsX00 ++ (vx_atS RX4 185 "java/lang/IllegalArgumentException" ["java/lang/RuntimeException", "java/lang/Exception"]).filter goodWord)
def wsX4_setBats : List Cond := .code yX4_setBats cX4_setBats 4 (some .int) :: ([.fieldLink RX4 12 "EchoCave" "cave" "LEchoCave$Cave;", .methodLink RX4 67 yX0_hasChamber, .instanceMethod yX0_hasChamber, .selects RX0 yX0_hasChamber yX0_hasChamber, .initialized RX0, .code yX0_hasChamber cX0_hasChamber 2 (some .boolean), .fieldLink RX0 50 "EchoCave$Cave" "chambers" "I", .static yX4_isWithin, .initialized RX4, .code yX4_isWithin cX4_isWithin 3 (some .boolean), .methodLink RX4 71 yX4_requireIndex, .static yX4_requireIndex, .code yX4_requireIndex cX4_requireIndex 1 none, .classLink RX4 176 "java/lang/IndexOutOfBoundsException", .initialized "java/lang/IndexOutOfBoundsException", .methodLink RX4 45 yX4_isWithin, .methodLink RX4 49 yX4_requireArgument, .static yX4_requireArgument, .code yX4_requireArgument cX4_requireArgument 1 none, .classLink RX4 181 "java/lang/IllegalArgumentException", .initialized "java/lang/IllegalArgumentException"] ++ wsX40 ++ wsX00 ++ (vx_atS RX4 180 "java/lang/IndexOutOfBoundsException" ["java/lang/RuntimeException", "java/lang/Exception"]).filter goodWord ++ (vx_atS RX4 185 "java/lang/IllegalArgumentException" ["java/lang/RuntimeException", "java/lang/Exception"]).filter goodWord)
def wsX4_setClapper_r1 : List Cond := [Cond.fieldLink RX4 12 "EchoCave" "cave" "LEchoCave$Cave;", Cond.methodLink RX4 67 yX0_hasChamber, Cond.instanceMethod yX0_hasChamber, Cond.selects RX0 yX0_hasChamber yX0_hasChamber, Cond.initialized RX0, Cond.code yX0_hasChamber cX0_hasChamber 2 (some .boolean), Cond.fieldLink RX0 50 "EchoCave$Cave" "chambers" "I", Cond.static yX4_isWithin, Cond.initialized RX4, Cond.code yX4_isWithin cX4_isWithin 3 (some .boolean), Cond.methodLink RX4 71 yX4_requireIndex, Cond.static yX4_requireIndex, Cond.code yX4_requireIndex cX4_requireIndex 1 none, Cond.classLink RX4 176 "java/lang/IndexOutOfBoundsException", Cond.initialized "java/lang/IndexOutOfBoundsException", Cond.methodLink RX4 49 yX4_requireArgument, Cond.static yX4_requireArgument, Cond.code yX4_requireArgument cX4_requireArgument 1 none, Cond.classLink RX4 181 "java/lang/IllegalArgumentException", Cond.initialized "java/lang/IllegalArgumentException", Cond.methodLink RX4 45 yX4_isWithin, Cond.methodLink RX4 93 yX0_putClapper, Cond.instanceMethod yX0_putClapper, Cond.selects RX0 yX0_putClapper yX0_putClapper]
def wsX4_setClapper_r2 : List Cond := [Cond.code yX0_putClapper cX0_putClapper 4 none, Cond.fieldLink RX0 21 "EchoCave$Cave" "syllable" "[I", Cond.fieldLink RX0 24 "EchoCave$Cave" "delay" "[I"]
def wsX4_setClapper : List Cond := .code yX4_setClapper cX4_setClapper 5 (some .int) :: ((wsX4_setClapper_r1 ++ wsX4_setClapper_r2) ++ wsX40 ++ wsX00 ++ (vx_atS RX4 180 "java/lang/IndexOutOfBoundsException" ["java/lang/RuntimeException", "java/lang/Exception"]).filter goodWord ++ (vx_atS RX4 185 "java/lang/IllegalArgumentException" ["java/lang/RuntimeException", "java/lang/Exception"]).filter goodWord)
def wsX4_setEar : List Cond := .code yX4_setEar cX4_setEar 3 (some .int) :: ([.fieldLink RX4 35 "EchoCave" "ear" "I", .methodLink RX4 45 yX4_isWithin, .static yX4_isWithin, .initialized RX4, .code yX4_isWithin cX4_isWithin 3 (some .boolean), .methodLink RX4 49 yX4_requireArgument, .static yX4_requireArgument, .code yX4_requireArgument cX4_requireArgument 1 none, .classLink RX4 181 "java/lang/IllegalArgumentException", .initialized "java/lang/IllegalArgumentException"] ++ wsX40 ++ (vx_atS RX4 185 "java/lang/IllegalArgumentException" ["java/lang/RuntimeException", "java/lang/Exception"]).filter goodWord)
def wsX4_chamber_r1 : List Cond := [Cond.fieldLink RX4 12 "EchoCave" "cave" "LEchoCave$Cave;", Cond.methodLink RX4 67 yX0_hasChamber, Cond.instanceMethod yX0_hasChamber, Cond.selects RX0 yX0_hasChamber yX0_hasChamber, Cond.initialized RX0, Cond.code yX0_hasChamber cX0_hasChamber 2 (some .boolean), Cond.fieldLink RX0 50 "EchoCave$Cave" "chambers" "I", Cond.static yX4_isWithin, Cond.initialized RX4, Cond.code yX4_isWithin cX4_isWithin 3 (some .boolean), Cond.methodLink RX4 71 yX4_requireIndex, Cond.static yX4_requireIndex, Cond.code yX4_requireIndex cX4_requireIndex 1 none, Cond.classLink RX4 176 "java/lang/IndexOutOfBoundsException", Cond.initialized "java/lang/IndexOutOfBoundsException", Cond.methodLink RX4 45 yX4_isWithin, Cond.methodLink RX4 97 yX0_chamberFact, Cond.instanceMethod yX0_chamberFact, Cond.selects RX0 yX0_chamberFact yX0_chamberFact, Cond.code yX0_chamberFact cX0_chamberFact 3 (some .int), Cond.fieldLink RX0 9 "EchoCave$Cave" "wall" "[I", Cond.fieldLink RX0 15 "EchoCave$Cave" "height" "[I", Cond.fieldLink RX0 18 "EchoCave$Cave" "bats" "[I", Cond.fieldLink RX0 21 "EchoCave$Cave" "syllable" "[I"]
def wsX4_chamber_r2 : List Cond := [Cond.fieldLink RX0 24 "EchoCave$Cave" "delay" "[I", Cond.fieldLink RX0 27 "EchoCave$Cave" "doors" "[I", Cond.methodLink RX0 72 yX0_openDoors, Cond.instanceMethod yX0_openDoors, Cond.selects RX0 yX0_openDoors yX0_openDoors, Cond.code yX0_openDoors cX0_openDoors 4 (some .int), Cond.fieldLink RX0 32 "EchoCave$Cave" "passageBehind" "[[I", Cond.methodLink RX0 68 yX0_isOpen, Cond.instanceMethod yX0_isOpen, Cond.selects RX0 yX0_isOpen yX0_isOpen, Cond.code yX0_isOpen cX0_isOpen 2 (some .boolean), Cond.fieldLink RX0 35 "EchoCave$Cave" "from" "[I", Cond.fieldLink RX0 57 "EchoCave$Cave" "water" "I", Cond.fieldLink RX0 38 "EchoCave$Cave" "to" "[I"]
def wsX4_chamber : List Cond := .code yX4_chamber cX4_chamber 3 (some .int) :: ((wsX4_chamber_r1 ++ wsX4_chamber_r2) ++ wsX40 ++ wsX00 ++ (vx_atS RX4 180 "java/lang/IndexOutOfBoundsException" ["java/lang/RuntimeException", "java/lang/Exception"]).filter goodWord)
def wsX4_passage_r1 : List Cond := [Cond.fieldLink RX4 12 "EchoCave" "cave" "LEchoCave$Cave;", Cond.methodLink RX4 101 yX0_hasPassage, Cond.instanceMethod yX0_hasPassage, Cond.selects RX0 yX0_hasPassage yX0_hasPassage, Cond.initialized RX0, Cond.code yX0_hasPassage cX0_hasPassage 2 (some .boolean), Cond.fieldLink RX0 54 "EchoCave$Cave" "passages" "I", Cond.static yX4_isWithin, Cond.initialized RX4, Cond.code yX4_isWithin cX4_isWithin 3 (some .boolean), Cond.methodLink RX4 71 yX4_requireIndex, Cond.static yX4_requireIndex, Cond.code yX4_requireIndex cX4_requireIndex 1 none, Cond.classLink RX4 176 "java/lang/IndexOutOfBoundsException", Cond.initialized "java/lang/IndexOutOfBoundsException", Cond.methodLink RX4 45 yX4_isWithin, Cond.methodLink RX4 104 yX0_passageFact, Cond.instanceMethod yX0_passageFact, Cond.selects RX0 yX0_passageFact yX0_passageFact, Cond.code yX0_passageFact cX0_passageFact 3 (some .int), Cond.fieldLink RX0 35 "EchoCave$Cave" "from" "[I", Cond.fieldLink RX0 38 "EchoCave$Cave" "to" "[I", Cond.fieldLink RX0 41 "EchoCave$Cave" "length" "[I", Cond.fieldLink RX0 44 "EchoCave$Cave" "narrow" "[I"]
def wsX4_passage_r2 : List Cond := [Cond.methodLink RX0 68 yX0_isOpen, Cond.instanceMethod yX0_isOpen, Cond.selects RX0 yX0_isOpen yX0_isOpen, Cond.code yX0_isOpen cX0_isOpen 2 (some .boolean), Cond.fieldLink RX0 15 "EchoCave$Cave" "height" "[I", Cond.fieldLink RX0 57 "EchoCave$Cave" "water" "I"]
def wsX4_passage : List Cond := .code yX4_passage cX4_passage 3 (some .int) :: ((wsX4_passage_r1 ++ wsX4_passage_r2) ++ wsX40 ++ wsX00 ++ (vx_atS RX4 180 "java/lang/IndexOutOfBoundsException" ["java/lang/RuntimeException", "java/lang/Exception"]).filter goodWord)
def wsX4_isWord : List Cond := .code yX4_isWord cX4_isWord 2 (some .boolean) :: ([.constant RX4 175 (999999), .methodLink RX4 45 yX4_isWithin, .static yX4_isWithin, .initialized RX4, .code yX4_isWithin cX4_isWithin 3 (some .boolean)])
def wsX4_requireWordAndBeat : List Cond := .code yX4_requireWordAndBeat cX4_requireWordAndBeat 2 none :: ([.methodLink RX4 151 yX4_isWord, .static yX4_isWord, .initialized RX4, .code yX4_isWord cX4_isWord 2 (some .boolean), .constant RX4 175 (999999), .methodLink RX4 45 yX4_isWithin, .static yX4_isWithin, .code yX4_isWithin cX4_isWithin 3 (some .boolean), .methodLink RX4 49 yX4_requireArgument, .static yX4_requireArgument, .code yX4_requireArgument cX4_requireArgument 1 none, .classLink RX4 181 "java/lang/IllegalArgumentException", .initialized "java/lang/IllegalArgumentException"] ++ (vx_atS RX4 185 "java/lang/IllegalArgumentException" ["java/lang/RuntimeException", "java/lang/Exception"]).filter goodWord)
def wsX4_say_r1 : List Cond := [Cond.fieldLink RX4 21 "EchoCave" "sound" "LEchoCave$Sound;", Cond.fieldLink RX4 35 "EchoCave" "ear" "I", Cond.fieldLink RX4 28 "EchoCave" "latest" "LEchoCave$Echo;", Cond.fieldLink RX4 39 "EchoCave" "wordsSaid" "I", Cond.fieldLink RX4 42 "EchoCave" "latestWord" "I", Cond.methodLink RX4 107 yX4_requireWordAndBeat, Cond.static yX4_requireWordAndBeat, Cond.initialized RX4, Cond.code yX4_requireWordAndBeat cX4_requireWordAndBeat 2 none, Cond.methodLink RX4 151 yX4_isWord, Cond.static yX4_isWord, Cond.code yX4_isWord cX4_isWord 2 (some .boolean), Cond.constant RX4 175 (999999), Cond.methodLink RX4 45 yX4_isWithin, Cond.static yX4_isWithin, Cond.code yX4_isWithin cX4_isWithin 3 (some .boolean), Cond.methodLink RX4 49 yX4_requireArgument, Cond.static yX4_requireArgument, Cond.code yX4_requireArgument cX4_requireArgument 1 none, Cond.classLink RX4 181 "java/lang/IllegalArgumentException", Cond.initialized "java/lang/IllegalArgumentException", Cond.methodLink RX4 111 yX3_runThrough, Cond.instanceMethod yX3_runThrough, Cond.selects RX3 yX3_runThrough yX3_runThrough]
def wsX4_say_r2 : List Cond := [Cond.initialized RX3, Cond.code yX3_runThrough cX3_runThrough 7 none, Cond.fieldLink RX3 18 "EchoCave$Sound" "comings" "LEchoCave$Comings;", Cond.static yX4_placesOf, Cond.code yX4_placesOf cX4_placesOf 3 (some .int), Cond.methodLink RX3 44 yX2_begin, Cond.instanceMethod yX2_begin, Cond.selects RX2 yX2_begin yX2_begin, Cond.initialized RX2, Cond.code yX2_begin cX2_begin 3 none, Cond.fieldLink RX2 18 "EchoCave$Echo" "places" "I", Cond.fieldLink RX2 22 "EchoCave$Echo" "ear" "I", Cond.fieldLink RX2 25 "EchoCave$Echo" "kept" "I", Cond.fieldLink RX2 28 "EchoCave$Echo" "counted" "I", Cond.fieldLink RX2 31 "EchoCave$Echo" "placesInOrder" "I", Cond.fieldLink RX2 34 "EchoCave$Echo" "lastTime" "I", Cond.fieldLink RX2 15 "EchoCave$Echo" "firstTime" "[I", Cond.methodLink RX2 37 yJ7_fill_53178, Cond.static yJ7_fill_53178, Cond.initialized RJ7, Cond.code yJ7_fill_53178 cJ7_fill_53178 4 none, Cond.methodLink RX3 50 yX3_begin, Cond.instanceMethod yX3_begin, Cond.selects RX3 yX3_begin yX3_begin]
def wsX4_say_r3 : List Cond := [Cond.code yX3_begin cX3_begin 6 none, Cond.fieldLink RX3 33 "EchoCave$Sound" "runs" "I", Cond.fieldLink RX3 37 "EchoCave$Sound" "clappersSetOff" "I", Cond.methodLink RX3 65 yX1_clear, Cond.instanceMethod yX1_clear, Cond.selects RX1 yX1_clear yX1_clear, Cond.initialized RX1, Cond.code yX1_clear cX1_clear 1 none, Cond.fieldLink RX1 15 "EchoCave$Comings" "size" "I", Cond.methodLink RX3 68 yX3_startRun, Cond.instanceMethod yX3_startRun, Cond.selects RX3 yX3_startRun yX3_startRun, Cond.code yX3_startRun cX3_startRun 6 none, Cond.fieldLink RX3 22 "EchoCave$Sound" "syllable" "[I", Cond.fieldLink RX3 26 "EchoCave$Sound" "place" "[I", Cond.fieldLink RX3 29 "EchoCave$Sound" "passagesUsed" "[J", Cond.methodLink RX3 72 yX1_pack, Cond.static yX1_pack, Cond.code yX1_pack cX1_pack 5 (some .int), Cond.methodLink RX3 76 yX1_put, Cond.instanceMethod yX1_put, Cond.selects RX1 yX1_put yX1_put, Cond.code yX1_put cX1_put 3 none, Cond.fieldLink RX1 11 "EchoCave$Comings" "heap" "[I"]
def wsX4_say_r4 : List Cond := [Cond.methodLink RX3 53 yX1_isEmpty, Cond.instanceMethod yX1_isEmpty, Cond.selects RX1 yX1_isEmpty yX1_isEmpty, Cond.code yX1_isEmpty cX1_isEmpty 1 (some .boolean), Cond.methodLink RX3 57 yX1_takeNext, Cond.instanceMethod yX1_takeNext, Cond.selects RX1 yX1_takeNext yX1_takeNext, Cond.code yX1_takeNext cX1_takeNext 2 (some .int), Cond.methodLink RX1 19 yX1_sink, Cond.instanceMethod yX1_sink, Cond.selects RX1 yX1_sink yX1_sink, Cond.code yX1_sink cX1_sink 4 none, Cond.methodLink RX3 61 yX3_come, Cond.instanceMethod yX3_come, Cond.selects RX3 yX3_come yX3_come, Cond.code yX3_come cX3_come 8 none, Cond.fieldLink RX3 9 "EchoCave$Sound" "cave" "LEchoCave$Cave;", Cond.methodLink RX3 80 yX1_timeOf, Cond.static yX1_timeOf, Cond.code yX1_timeOf cX1_timeOf 1 (some .int), Cond.methodLink RX3 83 yX1_chamberOf, Cond.static yX1_chamberOf, Cond.code yX1_chamberOf cX1_chamberOf 1 (some .int), Cond.methodLink RX3 86 yX1_runOf]
def wsX4_say_r5 : List Cond := [Cond.static yX1_runOf, Cond.code yX1_runOf cX1_runOf 1 (some .int), Cond.methodLink RX3 89 yX1_passageOf, Cond.static yX1_passageOf, Cond.code yX1_passageOf cX1_passageOf 1 (some .int), Cond.methodLink RX3 92 yX1_strengthOf, Cond.static yX1_strengthOf, Cond.code yX1_strengthOf cX1_strengthOf 1 (some .int), Cond.methodLink RX3 95 yX0_hasChamber, Cond.instanceMethod yX0_hasChamber, Cond.selects RX0 yX0_hasChamber yX0_hasChamber, Cond.initialized RX0, Cond.code yX0_hasChamber cX0_hasChamber 2 (some .boolean), Cond.fieldLink RX0 50 "EchoCave$Cave" "chambers" "I", Cond.methodLink RX3 104 yX2_hear, Cond.instanceMethod yX2_hear, Cond.selects RX2 yX2_hear yX2_hear, Cond.code yX2_hear cX2_hear 6 none, Cond.fieldLink RX2 9 "EchoCave$Echo" "facts" "[I", Cond.methodLink RX2 43 yX2_letCount, Cond.instanceMethod yX2_letCount, Cond.selects RX2 yX2_letCount yX2_letCount, Cond.code yX2_letCount cX2_letCount 3 none, Cond.methodLink RX3 108 yX0_drowns]
def wsX4_say_r6 : List Cond := [Cond.instanceMethod yX0_drowns, Cond.selects RX0 yX0_drowns yX0_drowns, Cond.code yX0_drowns cX0_drowns 3 (some .boolean), Cond.fieldLink RX0 18 "EchoCave$Cave" "bats" "[I", Cond.methodLink RX3 112 yX3_setOffClapper, Cond.instanceMethod yX3_setOffClapper, Cond.selects RX3 yX3_setOffClapper yX3_setOffClapper, Cond.code yX3_setOffClapper cX3_setOffClapper 6 none, Cond.methodLink RX3 115 yX3_goOn, Cond.instanceMethod yX3_goOn, Cond.selects RX3 yX3_goOn yX3_goOn, Cond.code yX3_goOn cX3_goOn 8 none, Cond.methodLink RX3 136 yX0_isOpen, Cond.instanceMethod yX0_isOpen, Cond.selects RX0 yX0_isOpen yX0_isOpen, Cond.code yX0_isOpen cX0_isOpen 2 (some .boolean), Cond.fieldLink RX0 15 "EchoCave$Cave" "height" "[I", Cond.fieldLink RX0 35 "EchoCave$Cave" "from" "[I", Cond.fieldLink RX0 57 "EchoCave$Cave" "water" "I", Cond.fieldLink RX0 38 "EchoCave$Cave" "to" "[I", Cond.methodLink RX3 122 yX3_goInto, Cond.instanceMethod yX3_goInto, Cond.selects RX3 yX3_goInto yX3_goInto, Cond.code yX3_goInto cX3_goInto 10 none]
def wsX4_say_r7 : List Cond := [Cond.methodLink RX3 145 yX0_otherEnd, Cond.instanceMethod yX0_otherEnd, Cond.selects RX0 yX0_otherEnd yX0_otherEnd, Cond.code yX0_otherEnd cX0_otherEnd 3 (some .int), Cond.methodLink RX3 148 yX0_strengthBehind, Cond.instanceMethod yX0_strengthBehind, Cond.selects RX0 yX0_strengthBehind yX0_strengthBehind, Cond.code yX0_strengthBehind cX0_strengthBehind 3 (some .int), Cond.fieldLink RX0 44 "EchoCave$Cave" "narrow" "[I", Cond.methodLink RX3 118 yX0_strengthFromWall, Cond.instanceMethod yX0_strengthFromWall, Cond.selects RX0 yX0_strengthFromWall yX0_strengthFromWall, Cond.code yX0_strengthFromWall cX0_strengthFromWall 3 (some .int), Cond.fieldLink RX0 9 "EchoCave$Cave" "wall" "[I"]
def wsX4_say : List Cond := .code yX4_say cX4_say 3 (some .int) :: ((wsX4_say_r1 ++ (wsX4_say_r2 ++ (wsX4_say_r3 ++ (wsX4_say_r4 ++ (wsX4_say_r5 ++ (wsX4_say_r6 ++ wsX4_say_r7)))))) ++ wsX40 ++ wsX20 ++ wsX30 ++ wsX10 ++ wsX00 ++ (vx_atS RX4 185 "java/lang/IllegalArgumentException" ["java/lang/RuntimeException", "java/lang/Exception"]).filter goodWord)
def wsX4_heard : List Cond := .code yX4_heard cX4_heard 3 (some .int) :: ([.fieldLink RX4 28 "EchoCave" "latest" "LEchoCave$Echo;", .methodLink RX4 45 yX4_isWithin, .static yX4_isWithin, .initialized RX4, .code yX4_isWithin cX4_isWithin 3 (some .boolean), .methodLink RX4 71 yX4_requireIndex, .static yX4_requireIndex, .code yX4_requireIndex cX4_requireIndex 1 none, .classLink RX4 176 "java/lang/IndexOutOfBoundsException", .initialized "java/lang/IndexOutOfBoundsException", .methodLink RX4 121 yX2_heardFact, .instanceMethod yX2_heardFact, .selects RX2 yX2_heardFact yX2_heardFact, .initialized RX2, .code yX2_heardFact cX2_heardFact 3 (some .int), .fieldLink RX2 9 "EchoCave$Echo" "facts" "[I"] ++ wsX40 ++ wsX20 ++ (vx_atS RX4 180 "java/lang/IndexOutOfBoundsException" ["java/lang/RuntimeException", "java/lang/Exception"]).filter goodWord)
def wsX4_inOrder : List Cond := .code yX4_inOrder cX4_inOrder 1 (some .boolean) :: ([.fieldLink RX4 28 "EchoCave" "latest" "LEchoCave$Echo;", .methodLink RX4 124 yX2_cameInOrder, .instanceMethod yX2_cameInOrder, .selects RX2 yX2_cameInOrder yX2_cameInOrder, .initialized RX2, .code yX2_cameInOrder cX2_cameInOrder 1 (some .boolean), .fieldLink RX2 18 "EchoCave$Echo" "places" "I", .fieldLink RX2 31 "EchoCave$Echo" "placesInOrder" "I"] ++ wsX40 ++ wsX20)
def wsX4_first : List Cond := .code yX4_first cX4_first 2 (some .int) :: ([.fieldLink RX4 28 "EchoCave" "latest" "LEchoCave$Echo;", .methodLink RX4 45 yX4_isWithin, .static yX4_isWithin, .initialized RX4, .code yX4_isWithin cX4_isWithin 3 (some .boolean), .methodLink RX4 71 yX4_requireIndex, .static yX4_requireIndex, .code yX4_requireIndex cX4_requireIndex 1 none, .classLink RX4 176 "java/lang/IndexOutOfBoundsException", .initialized "java/lang/IndexOutOfBoundsException"] ++ wsX40 ++ wsX20 ++ (vx_atS RX4 180 "java/lang/IndexOutOfBoundsException" ["java/lang/RuntimeException", "java/lang/Exception"]).filter goodWord)
def wsX4_countFact_r1 : List Cond := [Cond.fieldLink RX4 12 "EchoCave" "cave" "LEchoCave$Cave;", Cond.fieldLink RX4 35 "EchoCave" "ear" "I", Cond.fieldLink RX4 39 "EchoCave" "wordsSaid" "I", Cond.fieldLink RX4 42 "EchoCave" "latestWord" "I", Cond.fieldLink RX4 28 "EchoCave" "latest" "LEchoCave$Echo;", Cond.methodLink RX4 168 yX0_openPassages, Cond.instanceMethod yX0_openPassages, Cond.selects RX0 yX0_openPassages yX0_openPassages, Cond.initialized RX0, Cond.code yX0_openPassages cX0_openPassages 3 (some .int), Cond.fieldLink RX0 54 "EchoCave$Cave" "passages" "I", Cond.methodLink RX0 68 yX0_isOpen, Cond.instanceMethod yX0_isOpen, Cond.selects RX0 yX0_isOpen yX0_isOpen, Cond.code yX0_isOpen cX0_isOpen 2 (some .boolean), Cond.fieldLink RX0 15 "EchoCave$Cave" "height" "[I", Cond.fieldLink RX0 35 "EchoCave$Cave" "from" "[I", Cond.fieldLink RX0 57 "EchoCave$Cave" "water" "I", Cond.fieldLink RX0 38 "EchoCave$Cave" "to" "[I", Cond.methodLink RX4 172 yX0_clappers, Cond.instanceMethod yX0_clappers, Cond.selects RX0 yX0_clappers yX0_clappers, Cond.code yX0_clappers cX0_clappers 3 (some .int), Cond.fieldLink RX0 50 "EchoCave$Cave" "chambers" "I"]
def wsX4_countFact_r2 : List Cond := [Cond.fieldLink RX0 21 "EchoCave$Cave" "syllable" "[I"]
def wsX4_countFact : List Cond := .code yX4_countFact cX4_countFact 2 (some .int) :: ((wsX4_countFact_r1 ++ wsX4_countFact_r2) ++ wsX40 ++ wsX00 ++ wsX20)
def wsX4_count_r1 : List Cond := [Cond.methodLink RX4 45 yX4_isWithin, Cond.static yX4_isWithin, Cond.initialized RX4, Cond.code yX4_isWithin cX4_isWithin 3 (some .boolean), Cond.methodLink RX4 71 yX4_requireIndex, Cond.static yX4_requireIndex, Cond.code yX4_requireIndex cX4_requireIndex 1 none, Cond.classLink RX4 176 "java/lang/IndexOutOfBoundsException", Cond.initialized "java/lang/IndexOutOfBoundsException", Cond.methodLink RX4 134 yX4_countFact, Cond.instanceMethod yX4_countFact, Cond.selects RX4 yX4_countFact yX4_countFact, Cond.code yX4_countFact cX4_countFact 2 (some .int), Cond.fieldLink RX4 12 "EchoCave" "cave" "LEchoCave$Cave;", Cond.fieldLink RX4 35 "EchoCave" "ear" "I", Cond.fieldLink RX4 39 "EchoCave" "wordsSaid" "I", Cond.fieldLink RX4 42 "EchoCave" "latestWord" "I", Cond.fieldLink RX4 28 "EchoCave" "latest" "LEchoCave$Echo;", Cond.methodLink RX4 168 yX0_openPassages, Cond.instanceMethod yX0_openPassages, Cond.selects RX0 yX0_openPassages yX0_openPassages, Cond.initialized RX0, Cond.code yX0_openPassages cX0_openPassages 3 (some .int), Cond.fieldLink RX0 54 "EchoCave$Cave" "passages" "I"]
def wsX4_count_r2 : List Cond := [Cond.methodLink RX0 68 yX0_isOpen, Cond.instanceMethod yX0_isOpen, Cond.selects RX0 yX0_isOpen yX0_isOpen, Cond.code yX0_isOpen cX0_isOpen 2 (some .boolean), Cond.fieldLink RX0 15 "EchoCave$Cave" "height" "[I", Cond.fieldLink RX0 35 "EchoCave$Cave" "from" "[I", Cond.fieldLink RX0 57 "EchoCave$Cave" "water" "I", Cond.fieldLink RX0 38 "EchoCave$Cave" "to" "[I", Cond.methodLink RX4 172 yX0_clappers, Cond.instanceMethod yX0_clappers, Cond.selects RX0 yX0_clappers yX0_clappers, Cond.code yX0_clappers cX0_clappers 3 (some .int), Cond.fieldLink RX0 50 "EchoCave$Cave" "chambers" "I", Cond.fieldLink RX0 21 "EchoCave$Cave" "syllable" "[I"]
def wsX4_count : List Cond := .code yX4_count cX4_count 2 (some .int) :: ((wsX4_count_r1 ++ wsX4_count_r2) ++ wsX40 ++ wsX00 ++ wsX20 ++ (vx_atS RX4 180 "java/lang/IndexOutOfBoundsException" ["java/lang/RuntimeException", "java/lang/Exception"]).filter goodWord)
def wsX4_would_r1 : List Cond := [Cond.fieldLink RX4 21 "EchoCave" "sound" "LEchoCave$Sound;", Cond.fieldLink RX4 35 "EchoCave" "ear" "I", Cond.fieldLink RX4 32 "EchoCave" "trial" "LEchoCave$Echo;", Cond.methodLink RX4 107 yX4_requireWordAndBeat, Cond.static yX4_requireWordAndBeat, Cond.initialized RX4, Cond.code yX4_requireWordAndBeat cX4_requireWordAndBeat 2 none, Cond.methodLink RX4 151 yX4_isWord, Cond.static yX4_isWord, Cond.code yX4_isWord cX4_isWord 2 (some .boolean), Cond.constant RX4 175 (999999), Cond.methodLink RX4 45 yX4_isWithin, Cond.static yX4_isWithin, Cond.code yX4_isWithin cX4_isWithin 3 (some .boolean), Cond.methodLink RX4 49 yX4_requireArgument, Cond.static yX4_requireArgument, Cond.code yX4_requireArgument cX4_requireArgument 1 none, Cond.classLink RX4 181 "java/lang/IllegalArgumentException", Cond.initialized "java/lang/IllegalArgumentException", Cond.methodLink RX4 71 yX4_requireIndex, Cond.static yX4_requireIndex, Cond.code yX4_requireIndex cX4_requireIndex 1 none, Cond.classLink RX4 176 "java/lang/IndexOutOfBoundsException", Cond.initialized "java/lang/IndexOutOfBoundsException"]
def wsX4_would_r2 : List Cond := [Cond.methodLink RX4 111 yX3_runThrough, Cond.instanceMethod yX3_runThrough, Cond.selects RX3 yX3_runThrough yX3_runThrough, Cond.initialized RX3, Cond.code yX3_runThrough cX3_runThrough 7 none, Cond.fieldLink RX3 18 "EchoCave$Sound" "comings" "LEchoCave$Comings;", Cond.static yX4_placesOf, Cond.code yX4_placesOf cX4_placesOf 3 (some .int), Cond.methodLink RX3 44 yX2_begin, Cond.instanceMethod yX2_begin, Cond.selects RX2 yX2_begin yX2_begin, Cond.initialized RX2, Cond.code yX2_begin cX2_begin 3 none, Cond.fieldLink RX2 18 "EchoCave$Echo" "places" "I", Cond.fieldLink RX2 22 "EchoCave$Echo" "ear" "I", Cond.fieldLink RX2 25 "EchoCave$Echo" "kept" "I", Cond.fieldLink RX2 28 "EchoCave$Echo" "counted" "I", Cond.fieldLink RX2 31 "EchoCave$Echo" "placesInOrder" "I", Cond.fieldLink RX2 34 "EchoCave$Echo" "lastTime" "I", Cond.fieldLink RX2 15 "EchoCave$Echo" "firstTime" "[I", Cond.methodLink RX2 37 yJ7_fill_53178, Cond.static yJ7_fill_53178, Cond.initialized RJ7, Cond.code yJ7_fill_53178 cJ7_fill_53178 4 none]
def wsX4_would_r3 : List Cond := [Cond.methodLink RX3 50 yX3_begin, Cond.instanceMethod yX3_begin, Cond.selects RX3 yX3_begin yX3_begin, Cond.code yX3_begin cX3_begin 6 none, Cond.fieldLink RX3 33 "EchoCave$Sound" "runs" "I", Cond.fieldLink RX3 37 "EchoCave$Sound" "clappersSetOff" "I", Cond.methodLink RX3 65 yX1_clear, Cond.instanceMethod yX1_clear, Cond.selects RX1 yX1_clear yX1_clear, Cond.initialized RX1, Cond.code yX1_clear cX1_clear 1 none, Cond.fieldLink RX1 15 "EchoCave$Comings" "size" "I", Cond.methodLink RX3 68 yX3_startRun, Cond.instanceMethod yX3_startRun, Cond.selects RX3 yX3_startRun yX3_startRun, Cond.code yX3_startRun cX3_startRun 6 none, Cond.fieldLink RX3 22 "EchoCave$Sound" "syllable" "[I", Cond.fieldLink RX3 26 "EchoCave$Sound" "place" "[I", Cond.fieldLink RX3 29 "EchoCave$Sound" "passagesUsed" "[J", Cond.methodLink RX3 72 yX1_pack, Cond.static yX1_pack, Cond.code yX1_pack cX1_pack 5 (some .int), Cond.methodLink RX3 76 yX1_put, Cond.instanceMethod yX1_put]
def wsX4_would_r4 : List Cond := [Cond.selects RX1 yX1_put yX1_put, Cond.code yX1_put cX1_put 3 none, Cond.fieldLink RX1 11 "EchoCave$Comings" "heap" "[I", Cond.methodLink RX3 53 yX1_isEmpty, Cond.instanceMethod yX1_isEmpty, Cond.selects RX1 yX1_isEmpty yX1_isEmpty, Cond.code yX1_isEmpty cX1_isEmpty 1 (some .boolean), Cond.methodLink RX3 57 yX1_takeNext, Cond.instanceMethod yX1_takeNext, Cond.selects RX1 yX1_takeNext yX1_takeNext, Cond.code yX1_takeNext cX1_takeNext 2 (some .int), Cond.methodLink RX1 19 yX1_sink, Cond.instanceMethod yX1_sink, Cond.selects RX1 yX1_sink yX1_sink, Cond.code yX1_sink cX1_sink 4 none, Cond.methodLink RX3 61 yX3_come, Cond.instanceMethod yX3_come, Cond.selects RX3 yX3_come yX3_come, Cond.code yX3_come cX3_come 8 none, Cond.fieldLink RX3 9 "EchoCave$Sound" "cave" "LEchoCave$Cave;", Cond.methodLink RX3 80 yX1_timeOf, Cond.static yX1_timeOf, Cond.code yX1_timeOf cX1_timeOf 1 (some .int), Cond.methodLink RX3 83 yX1_chamberOf]
def wsX4_would_r5 : List Cond := [Cond.static yX1_chamberOf, Cond.code yX1_chamberOf cX1_chamberOf 1 (some .int), Cond.methodLink RX3 86 yX1_runOf, Cond.static yX1_runOf, Cond.code yX1_runOf cX1_runOf 1 (some .int), Cond.methodLink RX3 89 yX1_passageOf, Cond.static yX1_passageOf, Cond.code yX1_passageOf cX1_passageOf 1 (some .int), Cond.methodLink RX3 92 yX1_strengthOf, Cond.static yX1_strengthOf, Cond.code yX1_strengthOf cX1_strengthOf 1 (some .int), Cond.methodLink RX3 95 yX0_hasChamber, Cond.instanceMethod yX0_hasChamber, Cond.selects RX0 yX0_hasChamber yX0_hasChamber, Cond.initialized RX0, Cond.code yX0_hasChamber cX0_hasChamber 2 (some .boolean), Cond.fieldLink RX0 50 "EchoCave$Cave" "chambers" "I", Cond.methodLink RX3 104 yX2_hear, Cond.instanceMethod yX2_hear, Cond.selects RX2 yX2_hear yX2_hear, Cond.code yX2_hear cX2_hear 6 none, Cond.fieldLink RX2 9 "EchoCave$Echo" "facts" "[I", Cond.methodLink RX2 43 yX2_letCount, Cond.instanceMethod yX2_letCount]
def wsX4_would_r6 : List Cond := [Cond.selects RX2 yX2_letCount yX2_letCount, Cond.code yX2_letCount cX2_letCount 3 none, Cond.methodLink RX3 108 yX0_drowns, Cond.instanceMethod yX0_drowns, Cond.selects RX0 yX0_drowns yX0_drowns, Cond.code yX0_drowns cX0_drowns 3 (some .boolean), Cond.fieldLink RX0 18 "EchoCave$Cave" "bats" "[I", Cond.methodLink RX3 112 yX3_setOffClapper, Cond.instanceMethod yX3_setOffClapper, Cond.selects RX3 yX3_setOffClapper yX3_setOffClapper, Cond.code yX3_setOffClapper cX3_setOffClapper 6 none, Cond.methodLink RX3 115 yX3_goOn, Cond.instanceMethod yX3_goOn, Cond.selects RX3 yX3_goOn yX3_goOn, Cond.code yX3_goOn cX3_goOn 8 none, Cond.methodLink RX3 136 yX0_isOpen, Cond.instanceMethod yX0_isOpen, Cond.selects RX0 yX0_isOpen yX0_isOpen, Cond.code yX0_isOpen cX0_isOpen 2 (some .boolean), Cond.fieldLink RX0 15 "EchoCave$Cave" "height" "[I", Cond.fieldLink RX0 35 "EchoCave$Cave" "from" "[I", Cond.fieldLink RX0 57 "EchoCave$Cave" "water" "I", Cond.fieldLink RX0 38 "EchoCave$Cave" "to" "[I", Cond.methodLink RX3 122 yX3_goInto]
def wsX4_would_r7 : List Cond := [Cond.instanceMethod yX3_goInto, Cond.selects RX3 yX3_goInto yX3_goInto, Cond.code yX3_goInto cX3_goInto 10 none, Cond.methodLink RX3 145 yX0_otherEnd, Cond.instanceMethod yX0_otherEnd, Cond.selects RX0 yX0_otherEnd yX0_otherEnd, Cond.code yX0_otherEnd cX0_otherEnd 3 (some .int), Cond.methodLink RX3 148 yX0_strengthBehind, Cond.instanceMethod yX0_strengthBehind, Cond.selects RX0 yX0_strengthBehind yX0_strengthBehind, Cond.code yX0_strengthBehind cX0_strengthBehind 3 (some .int), Cond.fieldLink RX0 44 "EchoCave$Cave" "narrow" "[I", Cond.methodLink RX3 118 yX0_strengthFromWall, Cond.instanceMethod yX0_strengthFromWall, Cond.selects RX0 yX0_strengthFromWall yX0_strengthFromWall, Cond.code yX0_strengthFromWall cX0_strengthFromWall 3 (some .int), Cond.fieldLink RX0 9 "EchoCave$Cave" "wall" "[I", Cond.methodLink RX4 124 yX2_cameInOrder, Cond.instanceMethod yX2_cameInOrder, Cond.selects RX2 yX2_cameInOrder yX2_cameInOrder, Cond.code yX2_cameInOrder cX2_cameInOrder 1 (some .boolean)]
def wsX4_would : List Cond := .code yX4_would cX4_would 4 (some .int) :: ((wsX4_would_r1 ++ (wsX4_would_r2 ++ (wsX4_would_r3 ++ (wsX4_would_r4 ++ (wsX4_would_r5 ++ (wsX4_would_r6 ++ wsX4_would_r7)))))) ++ wsX40 ++ wsX20 ++ wsX30 ++ wsX10 ++ wsX00 ++ (vx_atS RX4 185 "java/lang/IllegalArgumentException" ["java/lang/RuntimeException", "java/lang/Exception"]).filter goodWord ++ (vx_atS RX4 180 "java/lang/IndexOutOfBoundsException" ["java/lang/RuntimeException", "java/lang/Exception"]).filter goodWord)
def wsX4_wouldComeInOrder_r1 : List Cond := [Cond.fieldLink RX4 21 "EchoCave" "sound" "LEchoCave$Sound;", Cond.fieldLink RX4 35 "EchoCave" "ear" "I", Cond.fieldLink RX4 32 "EchoCave" "trial" "LEchoCave$Echo;", Cond.methodLink RX4 111 yX3_runThrough, Cond.instanceMethod yX3_runThrough, Cond.selects RX3 yX3_runThrough yX3_runThrough, Cond.initialized RX3, Cond.code yX3_runThrough cX3_runThrough 7 none, Cond.fieldLink RX3 18 "EchoCave$Sound" "comings" "LEchoCave$Comings;", Cond.static yX4_placesOf, Cond.initialized RX4, Cond.code yX4_placesOf cX4_placesOf 3 (some .int), Cond.methodLink RX3 44 yX2_begin, Cond.instanceMethod yX2_begin, Cond.selects RX2 yX2_begin yX2_begin, Cond.initialized RX2, Cond.code yX2_begin cX2_begin 3 none, Cond.fieldLink RX2 18 "EchoCave$Echo" "places" "I", Cond.fieldLink RX2 22 "EchoCave$Echo" "ear" "I", Cond.fieldLink RX2 25 "EchoCave$Echo" "kept" "I", Cond.fieldLink RX2 28 "EchoCave$Echo" "counted" "I", Cond.fieldLink RX2 31 "EchoCave$Echo" "placesInOrder" "I", Cond.fieldLink RX2 34 "EchoCave$Echo" "lastTime" "I", Cond.fieldLink RX2 15 "EchoCave$Echo" "firstTime" "[I"]
def wsX4_wouldComeInOrder_r2 : List Cond := [Cond.methodLink RX2 37 yJ7_fill_53178, Cond.static yJ7_fill_53178, Cond.initialized RJ7, Cond.code yJ7_fill_53178 cJ7_fill_53178 4 none, Cond.methodLink RX3 50 yX3_begin, Cond.instanceMethod yX3_begin, Cond.selects RX3 yX3_begin yX3_begin, Cond.code yX3_begin cX3_begin 6 none, Cond.fieldLink RX3 33 "EchoCave$Sound" "runs" "I", Cond.fieldLink RX3 37 "EchoCave$Sound" "clappersSetOff" "I", Cond.methodLink RX3 65 yX1_clear, Cond.instanceMethod yX1_clear, Cond.selects RX1 yX1_clear yX1_clear, Cond.initialized RX1, Cond.code yX1_clear cX1_clear 1 none, Cond.fieldLink RX1 15 "EchoCave$Comings" "size" "I", Cond.methodLink RX3 68 yX3_startRun, Cond.instanceMethod yX3_startRun, Cond.selects RX3 yX3_startRun yX3_startRun, Cond.code yX3_startRun cX3_startRun 6 none, Cond.fieldLink RX3 22 "EchoCave$Sound" "syllable" "[I", Cond.fieldLink RX3 26 "EchoCave$Sound" "place" "[I", Cond.fieldLink RX3 29 "EchoCave$Sound" "passagesUsed" "[J", Cond.methodLink RX3 72 yX1_pack]
def wsX4_wouldComeInOrder_r3 : List Cond := [Cond.static yX1_pack, Cond.code yX1_pack cX1_pack 5 (some .int), Cond.methodLink RX3 76 yX1_put, Cond.instanceMethod yX1_put, Cond.selects RX1 yX1_put yX1_put, Cond.code yX1_put cX1_put 3 none, Cond.fieldLink RX1 11 "EchoCave$Comings" "heap" "[I", Cond.methodLink RX3 53 yX1_isEmpty, Cond.instanceMethod yX1_isEmpty, Cond.selects RX1 yX1_isEmpty yX1_isEmpty, Cond.code yX1_isEmpty cX1_isEmpty 1 (some .boolean), Cond.methodLink RX3 57 yX1_takeNext, Cond.instanceMethod yX1_takeNext, Cond.selects RX1 yX1_takeNext yX1_takeNext, Cond.code yX1_takeNext cX1_takeNext 2 (some .int), Cond.methodLink RX1 19 yX1_sink, Cond.instanceMethod yX1_sink, Cond.selects RX1 yX1_sink yX1_sink, Cond.code yX1_sink cX1_sink 4 none, Cond.methodLink RX3 61 yX3_come, Cond.instanceMethod yX3_come, Cond.selects RX3 yX3_come yX3_come, Cond.code yX3_come cX3_come 8 none, Cond.fieldLink RX3 9 "EchoCave$Sound" "cave" "LEchoCave$Cave;"]
def wsX4_wouldComeInOrder_r4 : List Cond := [Cond.methodLink RX3 80 yX1_timeOf, Cond.static yX1_timeOf, Cond.code yX1_timeOf cX1_timeOf 1 (some .int), Cond.methodLink RX3 83 yX1_chamberOf, Cond.static yX1_chamberOf, Cond.code yX1_chamberOf cX1_chamberOf 1 (some .int), Cond.methodLink RX3 86 yX1_runOf, Cond.static yX1_runOf, Cond.code yX1_runOf cX1_runOf 1 (some .int), Cond.methodLink RX3 89 yX1_passageOf, Cond.static yX1_passageOf, Cond.code yX1_passageOf cX1_passageOf 1 (some .int), Cond.methodLink RX3 92 yX1_strengthOf, Cond.static yX1_strengthOf, Cond.code yX1_strengthOf cX1_strengthOf 1 (some .int), Cond.methodLink RX3 95 yX0_hasChamber, Cond.instanceMethod yX0_hasChamber, Cond.selects RX0 yX0_hasChamber yX0_hasChamber, Cond.initialized RX0, Cond.code yX0_hasChamber cX0_hasChamber 2 (some .boolean), Cond.fieldLink RX0 50 "EchoCave$Cave" "chambers" "I", Cond.static yX4_isWithin, Cond.code yX4_isWithin cX4_isWithin 3 (some .boolean), Cond.methodLink RX3 104 yX2_hear]
def wsX4_wouldComeInOrder_r5 : List Cond := [Cond.instanceMethod yX2_hear, Cond.selects RX2 yX2_hear yX2_hear, Cond.code yX2_hear cX2_hear 6 none, Cond.fieldLink RX2 9 "EchoCave$Echo" "facts" "[I", Cond.methodLink RX2 43 yX2_letCount, Cond.instanceMethod yX2_letCount, Cond.selects RX2 yX2_letCount yX2_letCount, Cond.code yX2_letCount cX2_letCount 3 none, Cond.methodLink RX3 108 yX0_drowns, Cond.instanceMethod yX0_drowns, Cond.selects RX0 yX0_drowns yX0_drowns, Cond.code yX0_drowns cX0_drowns 3 (some .boolean), Cond.fieldLink RX0 18 "EchoCave$Cave" "bats" "[I", Cond.methodLink RX3 112 yX3_setOffClapper, Cond.instanceMethod yX3_setOffClapper, Cond.selects RX3 yX3_setOffClapper yX3_setOffClapper, Cond.code yX3_setOffClapper cX3_setOffClapper 6 none, Cond.methodLink RX3 115 yX3_goOn, Cond.instanceMethod yX3_goOn, Cond.selects RX3 yX3_goOn yX3_goOn, Cond.code yX3_goOn cX3_goOn 8 none, Cond.methodLink RX3 136 yX0_isOpen, Cond.instanceMethod yX0_isOpen, Cond.selects RX0 yX0_isOpen yX0_isOpen]
def wsX4_wouldComeInOrder_r6 : List Cond := [Cond.code yX0_isOpen cX0_isOpen 2 (some .boolean), Cond.fieldLink RX0 15 "EchoCave$Cave" "height" "[I", Cond.fieldLink RX0 35 "EchoCave$Cave" "from" "[I", Cond.fieldLink RX0 57 "EchoCave$Cave" "water" "I", Cond.fieldLink RX0 38 "EchoCave$Cave" "to" "[I", Cond.methodLink RX3 122 yX3_goInto, Cond.instanceMethod yX3_goInto, Cond.selects RX3 yX3_goInto yX3_goInto, Cond.code yX3_goInto cX3_goInto 10 none, Cond.methodLink RX3 145 yX0_otherEnd, Cond.instanceMethod yX0_otherEnd, Cond.selects RX0 yX0_otherEnd yX0_otherEnd, Cond.code yX0_otherEnd cX0_otherEnd 3 (some .int), Cond.methodLink RX3 148 yX0_strengthBehind, Cond.instanceMethod yX0_strengthBehind, Cond.selects RX0 yX0_strengthBehind yX0_strengthBehind, Cond.code yX0_strengthBehind cX0_strengthBehind 3 (some .int), Cond.fieldLink RX0 44 "EchoCave$Cave" "narrow" "[I", Cond.methodLink RX3 118 yX0_strengthFromWall, Cond.instanceMethod yX0_strengthFromWall, Cond.selects RX0 yX0_strengthFromWall yX0_strengthFromWall, Cond.code yX0_strengthFromWall cX0_strengthFromWall 3 (some .int), Cond.fieldLink RX0 9 "EchoCave$Cave" "wall" "[I", Cond.methodLink RX4 124 yX2_cameInOrder]
def wsX4_wouldComeInOrder_r7 : List Cond := [Cond.instanceMethod yX2_cameInOrder, Cond.selects RX2 yX2_cameInOrder yX2_cameInOrder, Cond.code yX2_cameInOrder cX2_cameInOrder 1 (some .boolean)]
def wsX4_wouldComeInOrder : List Cond := .code yX4_wouldComeInOrder cX4_wouldComeInOrder 3 (some .boolean) :: ((wsX4_wouldComeInOrder_r1 ++ (wsX4_wouldComeInOrder_r2 ++ (wsX4_wouldComeInOrder_r3 ++ (wsX4_wouldComeInOrder_r4 ++ (wsX4_wouldComeInOrder_r5 ++ (wsX4_wouldComeInOrder_r6 ++ wsX4_wouldComeInOrder_r7)))))) ++ wsX40 ++ wsX30 ++ wsX20 ++ wsX10 ++ wsX00)
def wsX4_advise_r1 : List Cond := [Cond.fieldLink RX4 12 "EchoCave" "cave" "LEchoCave$Cave;", Cond.methodLink RX4 107 yX4_requireWordAndBeat, Cond.static yX4_requireWordAndBeat, Cond.initialized RX4, Cond.code yX4_requireWordAndBeat cX4_requireWordAndBeat 2 none, Cond.methodLink RX4 151 yX4_isWord, Cond.static yX4_isWord, Cond.code yX4_isWord cX4_isWord 2 (some .boolean), Cond.constant RX4 175 (999999), Cond.methodLink RX4 45 yX4_isWithin, Cond.static yX4_isWithin, Cond.code yX4_isWithin cX4_isWithin 3 (some .boolean), Cond.methodLink RX4 49 yX4_requireArgument, Cond.static yX4_requireArgument, Cond.code yX4_requireArgument cX4_requireArgument 1 none, Cond.classLink RX4 181 "java/lang/IllegalArgumentException", Cond.initialized "java/lang/IllegalArgumentException", Cond.methodLink RX4 93 yX0_putClapper, Cond.instanceMethod yX0_putClapper, Cond.selects RX0 yX0_putClapper yX0_putClapper, Cond.initialized RX0, Cond.code yX0_putClapper cX0_putClapper 4 none, Cond.fieldLink RX0 21 "EchoCave$Cave" "syllable" "[I", Cond.fieldLink RX0 24 "EchoCave$Cave" "delay" "[I"]
def wsX4_advise_r2 : List Cond := [Cond.methodLink RX4 147 yX4_wouldComeInOrder, Cond.instanceMethod yX4_wouldComeInOrder, Cond.selects RX4 yX4_wouldComeInOrder yX4_wouldComeInOrder, Cond.code yX4_wouldComeInOrder cX4_wouldComeInOrder 3 (some .boolean), Cond.fieldLink RX4 21 "EchoCave" "sound" "LEchoCave$Sound;", Cond.fieldLink RX4 35 "EchoCave" "ear" "I", Cond.fieldLink RX4 32 "EchoCave" "trial" "LEchoCave$Echo;", Cond.methodLink RX4 111 yX3_runThrough, Cond.instanceMethod yX3_runThrough, Cond.selects RX3 yX3_runThrough yX3_runThrough, Cond.initialized RX3, Cond.code yX3_runThrough cX3_runThrough 7 none, Cond.fieldLink RX3 18 "EchoCave$Sound" "comings" "LEchoCave$Comings;", Cond.static yX4_placesOf, Cond.code yX4_placesOf cX4_placesOf 3 (some .int), Cond.methodLink RX3 44 yX2_begin, Cond.instanceMethod yX2_begin, Cond.selects RX2 yX2_begin yX2_begin, Cond.initialized RX2, Cond.code yX2_begin cX2_begin 3 none, Cond.fieldLink RX2 18 "EchoCave$Echo" "places" "I", Cond.fieldLink RX2 22 "EchoCave$Echo" "ear" "I", Cond.fieldLink RX2 25 "EchoCave$Echo" "kept" "I", Cond.fieldLink RX2 28 "EchoCave$Echo" "counted" "I"]
def wsX4_advise_r3 : List Cond := [Cond.fieldLink RX2 31 "EchoCave$Echo" "placesInOrder" "I", Cond.fieldLink RX2 34 "EchoCave$Echo" "lastTime" "I", Cond.fieldLink RX2 15 "EchoCave$Echo" "firstTime" "[I", Cond.methodLink RX2 37 yJ7_fill_53178, Cond.static yJ7_fill_53178, Cond.initialized RJ7, Cond.code yJ7_fill_53178 cJ7_fill_53178 4 none, Cond.methodLink RX3 50 yX3_begin, Cond.instanceMethod yX3_begin, Cond.selects RX3 yX3_begin yX3_begin, Cond.code yX3_begin cX3_begin 6 none, Cond.fieldLink RX3 33 "EchoCave$Sound" "runs" "I", Cond.fieldLink RX3 37 "EchoCave$Sound" "clappersSetOff" "I", Cond.methodLink RX3 65 yX1_clear, Cond.instanceMethod yX1_clear, Cond.selects RX1 yX1_clear yX1_clear, Cond.initialized RX1, Cond.code yX1_clear cX1_clear 1 none, Cond.fieldLink RX1 15 "EchoCave$Comings" "size" "I", Cond.methodLink RX3 68 yX3_startRun, Cond.instanceMethod yX3_startRun, Cond.selects RX3 yX3_startRun yX3_startRun, Cond.code yX3_startRun cX3_startRun 6 none, Cond.fieldLink RX3 22 "EchoCave$Sound" "syllable" "[I"]
def wsX4_advise_r4 : List Cond := [Cond.fieldLink RX3 26 "EchoCave$Sound" "place" "[I", Cond.fieldLink RX3 29 "EchoCave$Sound" "passagesUsed" "[J", Cond.methodLink RX3 72 yX1_pack, Cond.static yX1_pack, Cond.code yX1_pack cX1_pack 5 (some .int), Cond.methodLink RX3 76 yX1_put, Cond.instanceMethod yX1_put, Cond.selects RX1 yX1_put yX1_put, Cond.code yX1_put cX1_put 3 none, Cond.fieldLink RX1 11 "EchoCave$Comings" "heap" "[I", Cond.methodLink RX3 53 yX1_isEmpty, Cond.instanceMethod yX1_isEmpty, Cond.selects RX1 yX1_isEmpty yX1_isEmpty, Cond.code yX1_isEmpty cX1_isEmpty 1 (some .boolean), Cond.methodLink RX3 57 yX1_takeNext, Cond.instanceMethod yX1_takeNext, Cond.selects RX1 yX1_takeNext yX1_takeNext, Cond.code yX1_takeNext cX1_takeNext 2 (some .int), Cond.methodLink RX1 19 yX1_sink, Cond.instanceMethod yX1_sink, Cond.selects RX1 yX1_sink yX1_sink, Cond.code yX1_sink cX1_sink 4 none, Cond.methodLink RX3 61 yX3_come, Cond.instanceMethod yX3_come]
def wsX4_advise_r5 : List Cond := [Cond.selects RX3 yX3_come yX3_come, Cond.code yX3_come cX3_come 8 none, Cond.fieldLink RX3 9 "EchoCave$Sound" "cave" "LEchoCave$Cave;", Cond.methodLink RX3 80 yX1_timeOf, Cond.static yX1_timeOf, Cond.code yX1_timeOf cX1_timeOf 1 (some .int), Cond.methodLink RX3 83 yX1_chamberOf, Cond.static yX1_chamberOf, Cond.code yX1_chamberOf cX1_chamberOf 1 (some .int), Cond.methodLink RX3 86 yX1_runOf, Cond.static yX1_runOf, Cond.code yX1_runOf cX1_runOf 1 (some .int), Cond.methodLink RX3 89 yX1_passageOf, Cond.static yX1_passageOf, Cond.code yX1_passageOf cX1_passageOf 1 (some .int), Cond.methodLink RX3 92 yX1_strengthOf, Cond.static yX1_strengthOf, Cond.code yX1_strengthOf cX1_strengthOf 1 (some .int), Cond.methodLink RX3 95 yX0_hasChamber, Cond.instanceMethod yX0_hasChamber, Cond.selects RX0 yX0_hasChamber yX0_hasChamber, Cond.code yX0_hasChamber cX0_hasChamber 2 (some .boolean), Cond.fieldLink RX0 50 "EchoCave$Cave" "chambers" "I", Cond.methodLink RX3 104 yX2_hear]
def wsX4_advise_r6 : List Cond := [Cond.instanceMethod yX2_hear, Cond.selects RX2 yX2_hear yX2_hear, Cond.code yX2_hear cX2_hear 6 none, Cond.fieldLink RX2 9 "EchoCave$Echo" "facts" "[I", Cond.methodLink RX2 43 yX2_letCount, Cond.instanceMethod yX2_letCount, Cond.selects RX2 yX2_letCount yX2_letCount, Cond.code yX2_letCount cX2_letCount 3 none, Cond.methodLink RX3 108 yX0_drowns, Cond.instanceMethod yX0_drowns, Cond.selects RX0 yX0_drowns yX0_drowns, Cond.code yX0_drowns cX0_drowns 3 (some .boolean), Cond.fieldLink RX0 18 "EchoCave$Cave" "bats" "[I", Cond.methodLink RX3 112 yX3_setOffClapper, Cond.instanceMethod yX3_setOffClapper, Cond.selects RX3 yX3_setOffClapper yX3_setOffClapper, Cond.code yX3_setOffClapper cX3_setOffClapper 6 none, Cond.methodLink RX3 115 yX3_goOn, Cond.instanceMethod yX3_goOn, Cond.selects RX3 yX3_goOn yX3_goOn, Cond.code yX3_goOn cX3_goOn 8 none, Cond.methodLink RX3 136 yX0_isOpen, Cond.instanceMethod yX0_isOpen, Cond.selects RX0 yX0_isOpen yX0_isOpen]
def wsX4_advise_r7 : List Cond := [Cond.code yX0_isOpen cX0_isOpen 2 (some .boolean), Cond.fieldLink RX0 15 "EchoCave$Cave" "height" "[I", Cond.fieldLink RX0 35 "EchoCave$Cave" "from" "[I", Cond.fieldLink RX0 57 "EchoCave$Cave" "water" "I", Cond.fieldLink RX0 38 "EchoCave$Cave" "to" "[I", Cond.methodLink RX3 122 yX3_goInto, Cond.instanceMethod yX3_goInto, Cond.selects RX3 yX3_goInto yX3_goInto, Cond.code yX3_goInto cX3_goInto 10 none, Cond.methodLink RX3 145 yX0_otherEnd, Cond.instanceMethod yX0_otherEnd, Cond.selects RX0 yX0_otherEnd yX0_otherEnd, Cond.code yX0_otherEnd cX0_otherEnd 3 (some .int), Cond.methodLink RX3 148 yX0_strengthBehind, Cond.instanceMethod yX0_strengthBehind, Cond.selects RX0 yX0_strengthBehind yX0_strengthBehind, Cond.code yX0_strengthBehind cX0_strengthBehind 3 (some .int), Cond.fieldLink RX0 44 "EchoCave$Cave" "narrow" "[I", Cond.methodLink RX3 118 yX0_strengthFromWall, Cond.instanceMethod yX0_strengthFromWall, Cond.selects RX0 yX0_strengthFromWall yX0_strengthFromWall, Cond.code yX0_strengthFromWall cX0_strengthFromWall 3 (some .int), Cond.fieldLink RX0 9 "EchoCave$Cave" "wall" "[I", Cond.methodLink RX4 124 yX2_cameInOrder]
def wsX4_advise_r8 : List Cond := [Cond.instanceMethod yX2_cameInOrder, Cond.selects RX2 yX2_cameInOrder yX2_cameInOrder, Cond.code yX2_cameInOrder cX2_cameInOrder 1 (some .boolean)]
def wsX4_advise : List Cond := .code yX4_advise cX4_advise 9 (some .int) :: ((wsX4_advise_r1 ++ (wsX4_advise_r2 ++ (wsX4_advise_r3 ++ (wsX4_advise_r4 ++ (wsX4_advise_r5 ++ (wsX4_advise_r6 ++ (wsX4_advise_r7 ++ wsX4_advise_r8))))))) ++ wsX40 ++ wsX00 ++ wsX30 ++ wsX20 ++ wsX10 ++ (vx_atS RX4 185 "java/lang/IllegalArgumentException" ["java/lang/RuntimeException", "java/lang/Exception"]).filter goodWord)
def wsX4_longest_r1 : List Cond := [Cond.methodLink RX4 45 yX4_isWithin, Cond.static yX4_isWithin, Cond.initialized RX4, Cond.code yX4_isWithin cX4_isWithin 3 (some .boolean), Cond.methodLink RX4 49 yX4_requireArgument, Cond.static yX4_requireArgument, Cond.code yX4_requireArgument cX4_requireArgument 1 none, Cond.classLink RX4 181 "java/lang/IllegalArgumentException", Cond.initialized "java/lang/IllegalArgumentException", Cond.methodLink RX4 147 yX4_wouldComeInOrder, Cond.instanceMethod yX4_wouldComeInOrder, Cond.selects RX4 yX4_wouldComeInOrder yX4_wouldComeInOrder, Cond.code yX4_wouldComeInOrder cX4_wouldComeInOrder 3 (some .boolean), Cond.fieldLink RX4 21 "EchoCave" "sound" "LEchoCave$Sound;", Cond.fieldLink RX4 35 "EchoCave" "ear" "I", Cond.fieldLink RX4 32 "EchoCave" "trial" "LEchoCave$Echo;", Cond.methodLink RX4 111 yX3_runThrough, Cond.instanceMethod yX3_runThrough, Cond.selects RX3 yX3_runThrough yX3_runThrough, Cond.initialized RX3, Cond.code yX3_runThrough cX3_runThrough 7 none, Cond.fieldLink RX3 18 "EchoCave$Sound" "comings" "LEchoCave$Comings;", Cond.static yX4_placesOf, Cond.code yX4_placesOf cX4_placesOf 3 (some .int)]
def wsX4_longest_r2 : List Cond := [Cond.methodLink RX3 44 yX2_begin, Cond.instanceMethod yX2_begin, Cond.selects RX2 yX2_begin yX2_begin, Cond.initialized RX2, Cond.code yX2_begin cX2_begin 3 none, Cond.fieldLink RX2 18 "EchoCave$Echo" "places" "I", Cond.fieldLink RX2 22 "EchoCave$Echo" "ear" "I", Cond.fieldLink RX2 25 "EchoCave$Echo" "kept" "I", Cond.fieldLink RX2 28 "EchoCave$Echo" "counted" "I", Cond.fieldLink RX2 31 "EchoCave$Echo" "placesInOrder" "I", Cond.fieldLink RX2 34 "EchoCave$Echo" "lastTime" "I", Cond.fieldLink RX2 15 "EchoCave$Echo" "firstTime" "[I", Cond.methodLink RX2 37 yJ7_fill_53178, Cond.static yJ7_fill_53178, Cond.initialized RJ7, Cond.code yJ7_fill_53178 cJ7_fill_53178 4 none, Cond.methodLink RX3 50 yX3_begin, Cond.instanceMethod yX3_begin, Cond.selects RX3 yX3_begin yX3_begin, Cond.code yX3_begin cX3_begin 6 none, Cond.fieldLink RX3 33 "EchoCave$Sound" "runs" "I", Cond.fieldLink RX3 37 "EchoCave$Sound" "clappersSetOff" "I", Cond.methodLink RX3 65 yX1_clear, Cond.instanceMethod yX1_clear]
def wsX4_longest_r3 : List Cond := [Cond.selects RX1 yX1_clear yX1_clear, Cond.initialized RX1, Cond.code yX1_clear cX1_clear 1 none, Cond.fieldLink RX1 15 "EchoCave$Comings" "size" "I", Cond.methodLink RX3 68 yX3_startRun, Cond.instanceMethod yX3_startRun, Cond.selects RX3 yX3_startRun yX3_startRun, Cond.code yX3_startRun cX3_startRun 6 none, Cond.fieldLink RX3 22 "EchoCave$Sound" "syllable" "[I", Cond.fieldLink RX3 26 "EchoCave$Sound" "place" "[I", Cond.fieldLink RX3 29 "EchoCave$Sound" "passagesUsed" "[J", Cond.methodLink RX3 72 yX1_pack, Cond.static yX1_pack, Cond.code yX1_pack cX1_pack 5 (some .int), Cond.methodLink RX3 76 yX1_put, Cond.instanceMethod yX1_put, Cond.selects RX1 yX1_put yX1_put, Cond.code yX1_put cX1_put 3 none, Cond.fieldLink RX1 11 "EchoCave$Comings" "heap" "[I", Cond.methodLink RX3 53 yX1_isEmpty, Cond.instanceMethod yX1_isEmpty, Cond.selects RX1 yX1_isEmpty yX1_isEmpty, Cond.code yX1_isEmpty cX1_isEmpty 1 (some .boolean), Cond.methodLink RX3 57 yX1_takeNext]
def wsX4_longest_r4 : List Cond := [Cond.instanceMethod yX1_takeNext, Cond.selects RX1 yX1_takeNext yX1_takeNext, Cond.code yX1_takeNext cX1_takeNext 2 (some .int), Cond.methodLink RX1 19 yX1_sink, Cond.instanceMethod yX1_sink, Cond.selects RX1 yX1_sink yX1_sink, Cond.code yX1_sink cX1_sink 4 none, Cond.methodLink RX3 61 yX3_come, Cond.instanceMethod yX3_come, Cond.selects RX3 yX3_come yX3_come, Cond.code yX3_come cX3_come 8 none, Cond.fieldLink RX3 9 "EchoCave$Sound" "cave" "LEchoCave$Cave;", Cond.methodLink RX3 80 yX1_timeOf, Cond.static yX1_timeOf, Cond.code yX1_timeOf cX1_timeOf 1 (some .int), Cond.methodLink RX3 83 yX1_chamberOf, Cond.static yX1_chamberOf, Cond.code yX1_chamberOf cX1_chamberOf 1 (some .int), Cond.methodLink RX3 86 yX1_runOf, Cond.static yX1_runOf, Cond.code yX1_runOf cX1_runOf 1 (some .int), Cond.methodLink RX3 89 yX1_passageOf, Cond.static yX1_passageOf, Cond.code yX1_passageOf cX1_passageOf 1 (some .int)]
def wsX4_longest_r5 : List Cond := [Cond.methodLink RX3 92 yX1_strengthOf, Cond.static yX1_strengthOf, Cond.code yX1_strengthOf cX1_strengthOf 1 (some .int), Cond.methodLink RX3 95 yX0_hasChamber, Cond.instanceMethod yX0_hasChamber, Cond.selects RX0 yX0_hasChamber yX0_hasChamber, Cond.initialized RX0, Cond.code yX0_hasChamber cX0_hasChamber 2 (some .boolean), Cond.fieldLink RX0 50 "EchoCave$Cave" "chambers" "I", Cond.methodLink RX3 104 yX2_hear, Cond.instanceMethod yX2_hear, Cond.selects RX2 yX2_hear yX2_hear, Cond.code yX2_hear cX2_hear 6 none, Cond.fieldLink RX2 9 "EchoCave$Echo" "facts" "[I", Cond.methodLink RX2 43 yX2_letCount, Cond.instanceMethod yX2_letCount, Cond.selects RX2 yX2_letCount yX2_letCount, Cond.code yX2_letCount cX2_letCount 3 none, Cond.methodLink RX3 108 yX0_drowns, Cond.instanceMethod yX0_drowns, Cond.selects RX0 yX0_drowns yX0_drowns, Cond.code yX0_drowns cX0_drowns 3 (some .boolean), Cond.fieldLink RX0 18 "EchoCave$Cave" "bats" "[I", Cond.methodLink RX3 112 yX3_setOffClapper]
def wsX4_longest_r6 : List Cond := [Cond.instanceMethod yX3_setOffClapper, Cond.selects RX3 yX3_setOffClapper yX3_setOffClapper, Cond.code yX3_setOffClapper cX3_setOffClapper 6 none, Cond.methodLink RX3 115 yX3_goOn, Cond.instanceMethod yX3_goOn, Cond.selects RX3 yX3_goOn yX3_goOn, Cond.code yX3_goOn cX3_goOn 8 none, Cond.methodLink RX3 136 yX0_isOpen, Cond.instanceMethod yX0_isOpen, Cond.selects RX0 yX0_isOpen yX0_isOpen, Cond.code yX0_isOpen cX0_isOpen 2 (some .boolean), Cond.fieldLink RX0 15 "EchoCave$Cave" "height" "[I", Cond.fieldLink RX0 35 "EchoCave$Cave" "from" "[I", Cond.fieldLink RX0 57 "EchoCave$Cave" "water" "I", Cond.fieldLink RX0 38 "EchoCave$Cave" "to" "[I", Cond.methodLink RX3 122 yX3_goInto, Cond.instanceMethod yX3_goInto, Cond.selects RX3 yX3_goInto yX3_goInto, Cond.code yX3_goInto cX3_goInto 10 none, Cond.methodLink RX3 145 yX0_otherEnd, Cond.instanceMethod yX0_otherEnd, Cond.selects RX0 yX0_otherEnd yX0_otherEnd, Cond.code yX0_otherEnd cX0_otherEnd 3 (some .int), Cond.methodLink RX3 148 yX0_strengthBehind]
def wsX4_longest_r7 : List Cond := [Cond.instanceMethod yX0_strengthBehind, Cond.selects RX0 yX0_strengthBehind yX0_strengthBehind, Cond.code yX0_strengthBehind cX0_strengthBehind 3 (some .int), Cond.fieldLink RX0 44 "EchoCave$Cave" "narrow" "[I", Cond.methodLink RX3 118 yX0_strengthFromWall, Cond.instanceMethod yX0_strengthFromWall, Cond.selects RX0 yX0_strengthFromWall yX0_strengthFromWall, Cond.code yX0_strengthFromWall cX0_strengthFromWall 3 (some .int), Cond.fieldLink RX0 9 "EchoCave$Cave" "wall" "[I", Cond.methodLink RX4 124 yX2_cameInOrder, Cond.instanceMethod yX2_cameInOrder, Cond.selects RX2 yX2_cameInOrder yX2_cameInOrder, Cond.code yX2_cameInOrder cX2_cameInOrder 1 (some .boolean)]
def wsX4_longest : List Cond := .code yX4_longest cX4_longest 6 (some .int) :: ((wsX4_longest_r1 ++ (wsX4_longest_r2 ++ (wsX4_longest_r3 ++ (wsX4_longest_r4 ++ (wsX4_longest_r5 ++ (wsX4_longest_r6 ++ wsX4_longest_r7)))))) ++ wsX40 ++ wsX30 ++ wsX20 ++ wsX10 ++ wsX00 ++ (vx_atS RX4 185 "java/lang/IllegalArgumentException" ["java/lang/RuntimeException", "java/lang/Exception"]).filter goodWord)
def wsX4_quickest_r1 : List Cond := [Cond.methodLink RX4 151 yX4_isWord, Cond.static yX4_isWord, Cond.initialized RX4, Cond.code yX4_isWord cX4_isWord 2 (some .boolean), Cond.constant RX4 175 (999999), Cond.methodLink RX4 45 yX4_isWithin, Cond.static yX4_isWithin, Cond.code yX4_isWithin cX4_isWithin 3 (some .boolean), Cond.methodLink RX4 49 yX4_requireArgument, Cond.static yX4_requireArgument, Cond.code yX4_requireArgument cX4_requireArgument 1 none, Cond.classLink RX4 181 "java/lang/IllegalArgumentException", Cond.initialized "java/lang/IllegalArgumentException", Cond.methodLink RX4 147 yX4_wouldComeInOrder, Cond.instanceMethod yX4_wouldComeInOrder, Cond.selects RX4 yX4_wouldComeInOrder yX4_wouldComeInOrder, Cond.code yX4_wouldComeInOrder cX4_wouldComeInOrder 3 (some .boolean), Cond.fieldLink RX4 21 "EchoCave" "sound" "LEchoCave$Sound;", Cond.fieldLink RX4 35 "EchoCave" "ear" "I", Cond.fieldLink RX4 32 "EchoCave" "trial" "LEchoCave$Echo;", Cond.methodLink RX4 111 yX3_runThrough, Cond.instanceMethod yX3_runThrough, Cond.selects RX3 yX3_runThrough yX3_runThrough, Cond.initialized RX3]
def wsX4_quickest_r2 : List Cond := [Cond.code yX3_runThrough cX3_runThrough 7 none, Cond.fieldLink RX3 18 "EchoCave$Sound" "comings" "LEchoCave$Comings;", Cond.static yX4_placesOf, Cond.code yX4_placesOf cX4_placesOf 3 (some .int), Cond.methodLink RX3 44 yX2_begin, Cond.instanceMethod yX2_begin, Cond.selects RX2 yX2_begin yX2_begin, Cond.initialized RX2, Cond.code yX2_begin cX2_begin 3 none, Cond.fieldLink RX2 18 "EchoCave$Echo" "places" "I", Cond.fieldLink RX2 22 "EchoCave$Echo" "ear" "I", Cond.fieldLink RX2 25 "EchoCave$Echo" "kept" "I", Cond.fieldLink RX2 28 "EchoCave$Echo" "counted" "I", Cond.fieldLink RX2 31 "EchoCave$Echo" "placesInOrder" "I", Cond.fieldLink RX2 34 "EchoCave$Echo" "lastTime" "I", Cond.fieldLink RX2 15 "EchoCave$Echo" "firstTime" "[I", Cond.methodLink RX2 37 yJ7_fill_53178, Cond.static yJ7_fill_53178, Cond.initialized RJ7, Cond.code yJ7_fill_53178 cJ7_fill_53178 4 none, Cond.methodLink RX3 50 yX3_begin, Cond.instanceMethod yX3_begin, Cond.selects RX3 yX3_begin yX3_begin, Cond.code yX3_begin cX3_begin 6 none]
def wsX4_quickest_r3 : List Cond := [Cond.fieldLink RX3 33 "EchoCave$Sound" "runs" "I", Cond.fieldLink RX3 37 "EchoCave$Sound" "clappersSetOff" "I", Cond.methodLink RX3 65 yX1_clear, Cond.instanceMethod yX1_clear, Cond.selects RX1 yX1_clear yX1_clear, Cond.initialized RX1, Cond.code yX1_clear cX1_clear 1 none, Cond.fieldLink RX1 15 "EchoCave$Comings" "size" "I", Cond.methodLink RX3 68 yX3_startRun, Cond.instanceMethod yX3_startRun, Cond.selects RX3 yX3_startRun yX3_startRun, Cond.code yX3_startRun cX3_startRun 6 none, Cond.fieldLink RX3 22 "EchoCave$Sound" "syllable" "[I", Cond.fieldLink RX3 26 "EchoCave$Sound" "place" "[I", Cond.fieldLink RX3 29 "EchoCave$Sound" "passagesUsed" "[J", Cond.methodLink RX3 72 yX1_pack, Cond.static yX1_pack, Cond.code yX1_pack cX1_pack 5 (some .int), Cond.methodLink RX3 76 yX1_put, Cond.instanceMethod yX1_put, Cond.selects RX1 yX1_put yX1_put, Cond.code yX1_put cX1_put 3 none, Cond.fieldLink RX1 11 "EchoCave$Comings" "heap" "[I", Cond.methodLink RX3 53 yX1_isEmpty]
def wsX4_quickest_r4 : List Cond := [Cond.instanceMethod yX1_isEmpty, Cond.selects RX1 yX1_isEmpty yX1_isEmpty, Cond.code yX1_isEmpty cX1_isEmpty 1 (some .boolean), Cond.methodLink RX3 57 yX1_takeNext, Cond.instanceMethod yX1_takeNext, Cond.selects RX1 yX1_takeNext yX1_takeNext, Cond.code yX1_takeNext cX1_takeNext 2 (some .int), Cond.methodLink RX1 19 yX1_sink, Cond.instanceMethod yX1_sink, Cond.selects RX1 yX1_sink yX1_sink, Cond.code yX1_sink cX1_sink 4 none, Cond.methodLink RX3 61 yX3_come, Cond.instanceMethod yX3_come, Cond.selects RX3 yX3_come yX3_come, Cond.code yX3_come cX3_come 8 none, Cond.fieldLink RX3 9 "EchoCave$Sound" "cave" "LEchoCave$Cave;", Cond.methodLink RX3 80 yX1_timeOf, Cond.static yX1_timeOf, Cond.code yX1_timeOf cX1_timeOf 1 (some .int), Cond.methodLink RX3 83 yX1_chamberOf, Cond.static yX1_chamberOf, Cond.code yX1_chamberOf cX1_chamberOf 1 (some .int), Cond.methodLink RX3 86 yX1_runOf, Cond.static yX1_runOf]
def wsX4_quickest_r5 : List Cond := [Cond.code yX1_runOf cX1_runOf 1 (some .int), Cond.methodLink RX3 89 yX1_passageOf, Cond.static yX1_passageOf, Cond.code yX1_passageOf cX1_passageOf 1 (some .int), Cond.methodLink RX3 92 yX1_strengthOf, Cond.static yX1_strengthOf, Cond.code yX1_strengthOf cX1_strengthOf 1 (some .int), Cond.methodLink RX3 95 yX0_hasChamber, Cond.instanceMethod yX0_hasChamber, Cond.selects RX0 yX0_hasChamber yX0_hasChamber, Cond.initialized RX0, Cond.code yX0_hasChamber cX0_hasChamber 2 (some .boolean), Cond.fieldLink RX0 50 "EchoCave$Cave" "chambers" "I", Cond.methodLink RX3 104 yX2_hear, Cond.instanceMethod yX2_hear, Cond.selects RX2 yX2_hear yX2_hear, Cond.code yX2_hear cX2_hear 6 none, Cond.fieldLink RX2 9 "EchoCave$Echo" "facts" "[I", Cond.methodLink RX2 43 yX2_letCount, Cond.instanceMethod yX2_letCount, Cond.selects RX2 yX2_letCount yX2_letCount, Cond.code yX2_letCount cX2_letCount 3 none, Cond.methodLink RX3 108 yX0_drowns, Cond.instanceMethod yX0_drowns]
def wsX4_quickest_r6 : List Cond := [Cond.selects RX0 yX0_drowns yX0_drowns, Cond.code yX0_drowns cX0_drowns 3 (some .boolean), Cond.fieldLink RX0 18 "EchoCave$Cave" "bats" "[I", Cond.methodLink RX3 112 yX3_setOffClapper, Cond.instanceMethod yX3_setOffClapper, Cond.selects RX3 yX3_setOffClapper yX3_setOffClapper, Cond.code yX3_setOffClapper cX3_setOffClapper 6 none, Cond.methodLink RX3 115 yX3_goOn, Cond.instanceMethod yX3_goOn, Cond.selects RX3 yX3_goOn yX3_goOn, Cond.code yX3_goOn cX3_goOn 8 none, Cond.methodLink RX3 136 yX0_isOpen, Cond.instanceMethod yX0_isOpen, Cond.selects RX0 yX0_isOpen yX0_isOpen, Cond.code yX0_isOpen cX0_isOpen 2 (some .boolean), Cond.fieldLink RX0 15 "EchoCave$Cave" "height" "[I", Cond.fieldLink RX0 35 "EchoCave$Cave" "from" "[I", Cond.fieldLink RX0 57 "EchoCave$Cave" "water" "I", Cond.fieldLink RX0 38 "EchoCave$Cave" "to" "[I", Cond.methodLink RX3 122 yX3_goInto, Cond.instanceMethod yX3_goInto, Cond.selects RX3 yX3_goInto yX3_goInto, Cond.code yX3_goInto cX3_goInto 10 none, Cond.methodLink RX3 145 yX0_otherEnd]
def wsX4_quickest_r7 : List Cond := [Cond.instanceMethod yX0_otherEnd, Cond.selects RX0 yX0_otherEnd yX0_otherEnd, Cond.code yX0_otherEnd cX0_otherEnd 3 (some .int), Cond.methodLink RX3 148 yX0_strengthBehind, Cond.instanceMethod yX0_strengthBehind, Cond.selects RX0 yX0_strengthBehind yX0_strengthBehind, Cond.code yX0_strengthBehind cX0_strengthBehind 3 (some .int), Cond.fieldLink RX0 44 "EchoCave$Cave" "narrow" "[I", Cond.methodLink RX3 118 yX0_strengthFromWall, Cond.instanceMethod yX0_strengthFromWall, Cond.selects RX0 yX0_strengthFromWall yX0_strengthFromWall, Cond.code yX0_strengthFromWall cX0_strengthFromWall 3 (some .int), Cond.fieldLink RX0 9 "EchoCave$Cave" "wall" "[I", Cond.methodLink RX4 124 yX2_cameInOrder, Cond.instanceMethod yX2_cameInOrder, Cond.selects RX2 yX2_cameInOrder yX2_cameInOrder, Cond.code yX2_cameInOrder cX2_cameInOrder 1 (some .boolean)]
def wsX4_quickest : List Cond := .code yX4_quickest cX4_quickest 3 (some .int) :: ((wsX4_quickest_r1 ++ (wsX4_quickest_r2 ++ (wsX4_quickest_r3 ++ (wsX4_quickest_r4 ++ (wsX4_quickest_r5 ++ (wsX4_quickest_r6 ++ wsX4_quickest_r7)))))) ++ wsX40 ++ wsX30 ++ wsX20 ++ wsX10 ++ wsX00 ++ (vx_atS RX4 185 "java/lang/IllegalArgumentException" ["java/lang/RuntimeException", "java/lang/Exception"]).filter goodWord)
def wsX4_way_r1 : List Cond := [Cond.fieldLink RX4 12 "EchoCave" "cave" "LEchoCave$Cave;", Cond.methodLink RX4 67 yX0_hasChamber, Cond.instanceMethod yX0_hasChamber, Cond.selects RX0 yX0_hasChamber yX0_hasChamber, Cond.initialized RX0, Cond.code yX0_hasChamber cX0_hasChamber 2 (some .boolean), Cond.fieldLink RX0 50 "EchoCave$Cave" "chambers" "I", Cond.static yX4_isWithin, Cond.initialized RX4, Cond.code yX4_isWithin cX4_isWithin 3 (some .boolean), Cond.methodLink RX4 71 yX4_requireIndex, Cond.static yX4_requireIndex, Cond.code yX4_requireIndex cX4_requireIndex 1 none, Cond.classLink RX4 176 "java/lang/IndexOutOfBoundsException", Cond.initialized "java/lang/IndexOutOfBoundsException", Cond.methodLink RX4 154 yX0_shortestWay, Cond.instanceMethod yX0_shortestWay, Cond.selects RX0 yX0_shortestWay yX0_shortestWay, Cond.code yX0_shortestWay cX0_shortestWay 5 (some .int), Cond.fieldLink RX0 47 "EchoCave$Cave" "found" "[I", Cond.fieldLink RX0 54 "EchoCave$Cave" "passages" "I", Cond.fieldLink RX0 35 "EchoCave$Cave" "from" "[I", Cond.fieldLink RX0 38 "EchoCave$Cave" "to" "[I", Cond.fieldLink RX0 41 "EchoCave$Cave" "length" "[I"]
def wsX4_way_r2 : List Cond := [Cond.methodLink RX0 76 yJ7_fill_53178, Cond.static yJ7_fill_53178, Cond.initialized RJ7, Cond.code yJ7_fill_53178 cJ7_fill_53178 4 none, Cond.methodLink RX0 68 yX0_isOpen, Cond.instanceMethod yX0_isOpen, Cond.selects RX0 yX0_isOpen yX0_isOpen, Cond.code yX0_isOpen cX0_isOpen 2 (some .boolean), Cond.fieldLink RX0 15 "EchoCave$Cave" "height" "[I", Cond.fieldLink RX0 57 "EchoCave$Cave" "water" "I", Cond.methodLink RX0 82 yX0_shorten, Cond.instanceMethod yX0_shorten, Cond.selects RX0 yX0_shorten yX0_shorten, Cond.code yX0_shorten cX0_shorten 5 none]
def wsX4_way : List Cond := .code yX4_way cX4_way 3 (some .int) :: ((wsX4_way_r1 ++ wsX4_way_r2) ++ wsX40 ++ wsX00 ++ (vx_atS RX4 180 "java/lang/IndexOutOfBoundsException" ["java/lang/RuntimeException", "java/lang/Exception"]).filter goodWord)
def wsX4_highest_r1 : List Cond := [Cond.fieldLink RX4 12 "EchoCave" "cave" "LEchoCave$Cave;", Cond.methodLink RX4 67 yX0_hasChamber, Cond.instanceMethod yX0_hasChamber, Cond.selects RX0 yX0_hasChamber yX0_hasChamber, Cond.initialized RX0, Cond.code yX0_hasChamber cX0_hasChamber 2 (some .boolean), Cond.fieldLink RX0 50 "EchoCave$Cave" "chambers" "I", Cond.static yX4_isWithin, Cond.initialized RX4, Cond.code yX4_isWithin cX4_isWithin 3 (some .boolean), Cond.methodLink RX4 71 yX4_requireIndex, Cond.static yX4_requireIndex, Cond.code yX4_requireIndex cX4_requireIndex 1 none, Cond.classLink RX4 176 "java/lang/IndexOutOfBoundsException", Cond.initialized "java/lang/IndexOutOfBoundsException", Cond.methodLink RX4 157 yX0_highestWater, Cond.instanceMethod yX0_highestWater, Cond.selects RX0 yX0_highestWater yX0_highestWater, Cond.code yX0_highestWater cX0_highestWater 4 (some .int), Cond.fieldLink RX0 47 "EchoCave$Cave" "found" "[I", Cond.fieldLink RX0 54 "EchoCave$Cave" "passages" "I", Cond.fieldLink RX0 35 "EchoCave$Cave" "from" "[I", Cond.fieldLink RX0 38 "EchoCave$Cave" "to" "[I", Cond.methodLink RX0 76 yJ7_fill_53178]
def wsX4_highest_r2 : List Cond := [Cond.static yJ7_fill_53178, Cond.initialized RJ7, Cond.code yJ7_fill_53178 cJ7_fill_53178 4 none, Cond.methodLink RX0 86 yX0_raise, Cond.instanceMethod yX0_raise, Cond.selects RX0 yX0_raise yX0_raise, Cond.code yX0_raise cX0_raise 4 none, Cond.fieldLink RX0 15 "EchoCave$Cave" "height" "[I", Cond.methodLink RX0 89 Lib.Math.min.name, Cond.static Lib.Math.min.name, Cond.initialized "java/lang/Math", Cond.code Lib.Math.min.name Lib.Math.min.code 2 (some .int), Cond.methodLink RX0 95 Lib.Math.max.name, Cond.static Lib.Math.max.name, Cond.code Lib.Math.max.name Lib.Math.max.code 2 (some .int)]
def wsX4_highest : List Cond := .code yX4_highest cX4_highest 2 (some .int) :: ((wsX4_highest_r1 ++ wsX4_highest_r2) ++ wsX40 ++ wsX00 ++ (vx_atS RX4 180 "java/lang/IndexOutOfBoundsException" ["java/lang/RuntimeException", "java/lang/Exception"]).filter goodWord)
def wsX4_mean : List Cond := .code yX4_mean cX4_mean 1 (some .double) :: ([.fieldLink RX4 28 "EchoCave" "latest" "LEchoCave$Echo;", .methodLink RX4 160 yX2_meanStrength, .instanceMethod yX2_meanStrength, .selects RX2 yX2_meanStrength yX2_meanStrength, .initialized RX2, .code yX2_meanStrength cX2_meanStrength 3 (some .double), .fieldLink RX2 25 "EchoCave$Echo" "kept" "I", .methodLink RX2 51 yX2_heardFact, .instanceMethod yX2_heardFact, .selects RX2 yX2_heardFact yX2_heardFact, .code yX2_heardFact cX2_heardFact 3 (some .int), .fieldLink RX2 9 "EchoCave$Echo" "facts" "[I"] ++ wsX40 ++ wsX20)
def wsX4_digest_r1 : List Cond := [Cond.constantLong RX4 164 (691), Cond.constantLong RX4 166 (31), Cond.fieldLink RX4 12 "EchoCave" "cave" "LEchoCave$Cave;", Cond.fieldLink RX4 28 "EchoCave" "latest" "LEchoCave$Echo;", Cond.methodLink RX4 134 yX4_countFact, Cond.instanceMethod yX4_countFact, Cond.selects RX4 yX4_countFact yX4_countFact, Cond.initialized RX4, Cond.code yX4_countFact cX4_countFact 2 (some .int), Cond.fieldLink RX4 35 "EchoCave" "ear" "I", Cond.fieldLink RX4 39 "EchoCave" "wordsSaid" "I", Cond.fieldLink RX4 42 "EchoCave" "latestWord" "I", Cond.methodLink RX4 168 yX0_openPassages, Cond.instanceMethod yX0_openPassages, Cond.selects RX0 yX0_openPassages yX0_openPassages, Cond.initialized RX0, Cond.code yX0_openPassages cX0_openPassages 3 (some .int), Cond.fieldLink RX0 54 "EchoCave$Cave" "passages" "I", Cond.methodLink RX0 68 yX0_isOpen, Cond.instanceMethod yX0_isOpen, Cond.selects RX0 yX0_isOpen yX0_isOpen, Cond.code yX0_isOpen cX0_isOpen 2 (some .boolean), Cond.fieldLink RX0 15 "EchoCave$Cave" "height" "[I", Cond.fieldLink RX0 35 "EchoCave$Cave" "from" "[I"]
def wsX4_digest_r2 : List Cond := [Cond.fieldLink RX0 57 "EchoCave$Cave" "water" "I", Cond.fieldLink RX0 38 "EchoCave$Cave" "to" "[I", Cond.methodLink RX4 172 yX0_clappers, Cond.instanceMethod yX0_clappers, Cond.selects RX0 yX0_clappers yX0_clappers, Cond.code yX0_clappers cX0_clappers 3 (some .int), Cond.fieldLink RX0 50 "EchoCave$Cave" "chambers" "I", Cond.fieldLink RX0 21 "EchoCave$Cave" "syllable" "[I", Cond.methodLink RX4 97 yX0_chamberFact, Cond.instanceMethod yX0_chamberFact, Cond.selects RX0 yX0_chamberFact yX0_chamberFact, Cond.code yX0_chamberFact cX0_chamberFact 3 (some .int), Cond.fieldLink RX0 9 "EchoCave$Cave" "wall" "[I", Cond.fieldLink RX0 18 "EchoCave$Cave" "bats" "[I", Cond.fieldLink RX0 24 "EchoCave$Cave" "delay" "[I", Cond.fieldLink RX0 27 "EchoCave$Cave" "doors" "[I", Cond.methodLink RX0 72 yX0_openDoors, Cond.instanceMethod yX0_openDoors, Cond.selects RX0 yX0_openDoors yX0_openDoors, Cond.code yX0_openDoors cX0_openDoors 4 (some .int), Cond.fieldLink RX0 32 "EchoCave$Cave" "passageBehind" "[[I", Cond.methodLink RX4 104 yX0_passageFact, Cond.instanceMethod yX0_passageFact, Cond.selects RX0 yX0_passageFact yX0_passageFact]
def wsX4_digest_r3 : List Cond := [Cond.code yX0_passageFact cX0_passageFact 3 (some .int), Cond.fieldLink RX0 41 "EchoCave$Cave" "length" "[I", Cond.fieldLink RX0 44 "EchoCave$Cave" "narrow" "[I", Cond.methodLink RX4 121 yX2_heardFact, Cond.instanceMethod yX2_heardFact, Cond.selects RX2 yX2_heardFact yX2_heardFact, Cond.initialized RX2, Cond.code yX2_heardFact cX2_heardFact 3 (some .int), Cond.fieldLink RX2 9 "EchoCave$Echo" "facts" "[I", Cond.methodLink RX4 124 yX2_cameInOrder, Cond.instanceMethod yX2_cameInOrder, Cond.selects RX2 yX2_cameInOrder yX2_cameInOrder, Cond.code yX2_cameInOrder cX2_cameInOrder 1 (some .boolean), Cond.fieldLink RX2 18 "EchoCave$Echo" "places" "I", Cond.fieldLink RX2 31 "EchoCave$Echo" "placesInOrder" "I"]
def wsX4_digest : List Cond := .code yX4_digest cX4_digest 5 (some .long) :: ((wsX4_digest_r1 ++ (wsX4_digest_r2 ++ wsX4_digest_r3)) ++ wsX40 ++ wsX00 ++ wsX20)
def wsX5_init : List Cond := .code yX5_init cX5_init 2 none :: ([.fieldLink RX5 3 "EchoCaveModel$Sound" "this$0" "LEchoCaveModel;", .methodLink RX5 9 objectInit, .instanceMethod objectInit, .code objectInit ⟨#[0xb1]⟩ 1 none, .fieldLink RX5 15 "EchoCaveModel$Sound" "chamber" "I", .arrayClass .int, .fieldLink RX5 19 "EchoCaveModel$Sound" "firsts" "[I", .fieldLink RX5 23 "EchoCaveModel$Sound" "heard" "[I", .fieldLink RX5 26 "EchoCaveModel$Sound" "place" "[I", .fieldLink RX5 29 "EchoCaveModel$Sound" "syllable" "[I", .fieldLink RX5 32 "EchoCaveModel$Sound" "there" "[I", .fieldLink RX5 35 "EchoCaveModel$Sound" "back" "[I", .fieldLink RX5 38 "EchoCaveModel$Sound" "order" "[I", .fieldLink RX5 41 "EchoCaveModel$Sound" "power" "[I"] ++ wsX50)
def wsX5_instead : List Cond := .code yX5_instead cX5_instead 4 none :: ([.fieldLink RX5 15 "EchoCaveModel$Sound" "chamber" "I", .fieldLink RX5 44 "EchoCaveModel$Sound" "with" "I", .fieldLink RX5 47 "EchoCaveModel$Sound" "late" "I"] ++ wsX50)
def wsX5_come : List Cond := .code yX5_come cX5_come 8 none :: ([.fieldLink RX5 50 "EchoCaveModel$Sound" "waiting" "I", .fieldLink RX5 38 "EchoCaveModel$Sound" "order" "[I", .fieldLink RX5 41 "EchoCaveModel$Sound" "power" "[I"] ++ wsX50)
def wsX5_start : List Cond := .code yX5_start cX5_start 6 none :: ([.fieldLink RX5 26 "EchoCaveModel$Sound" "place" "[I", .fieldLink RX5 53 "EchoCaveModel$Sound" "runs" "I", .fieldLink RX5 29 "EchoCaveModel$Sound" "syllable" "[I", .fieldLink RX5 32 "EchoCaveModel$Sound" "there" "[I", .fieldLink RX5 35 "EchoCaveModel$Sound" "back" "[I", .methodLink RX5 56 yX5_come, .instanceMethod yX5_come, .selects RX5 yX5_come yX5_come, .initialized RX5, .code yX5_come cX5_come 8 none, .fieldLink RX5 50 "EchoCaveModel$Sound" "waiting" "I", .fieldLink RX5 38 "EchoCaveModel$Sound" "order" "[I", .fieldLink RX5 41 "EchoCaveModel$Sound" "power" "[I"] ++ wsX50)
def wsX5_go : List Cond := .code yX5_go cX5_go 8 none :: ([.fieldLink RX5 3 "EchoCaveModel$Sound" "this$0" "LEchoCaveModel;", .fieldLink RX5 32 "EchoCaveModel$Sound" "there" "[I", .fieldLink RX5 35 "EchoCaveModel$Sound" "back" "[I", .methodLink RX5 56 yX5_come, .instanceMethod yX5_come, .selects RX5 yX5_come yX5_come, .initialized RX5, .code yX5_come cX5_come 8 none, .fieldLink RX5 50 "EchoCaveModel$Sound" "waiting" "I", .fieldLink RX5 38 "EchoCaveModel$Sound" "order" "[I", .fieldLink RX5 41 "EchoCaveModel$Sound" "power" "[I"] ++ wsX50 ++ wsX60)
def wsX5_hear : List Cond := .code yX5_hear cX5_hear 6 none :: ([.fieldLink RX5 63 "EchoCaveModel$Sound" "kept" "I", .fieldLink RX5 3 "EchoCaveModel$Sound" "this$0" "LEchoCaveModel;", .fieldLink RX5 23 "EchoCaveModel$Sound" "heard" "[I", .fieldLink RX5 26 "EchoCaveModel$Sound" "place" "[I", .fieldLink RX5 29 "EchoCaveModel$Sound" "syllable" "[I", .fieldLink RX5 69 "EchoCaveModel$Sound" "counted" "I", .fieldLink RX5 72 "EchoCaveModel$Sound" "latest" "I", .fieldLink RX5 19 "EchoCaveModel$Sound" "firsts" "[I", .fieldLink RX5 75 "EchoCaveModel$Sound" "inOrder" "I"] ++ wsX50 ++ wsX60)
def wsX5_clap : List Cond := .code yX5_clap cX5_clap 6 none :: ([.fieldLink RX5 15 "EchoCaveModel$Sound" "chamber" "I", .fieldLink RX5 44 "EchoCaveModel$Sound" "with" "I", .fieldLink RX5 3 "EchoCaveModel$Sound" "this$0" "LEchoCaveModel;", .fieldLink RX5 29 "EchoCaveModel$Sound" "syllable" "[I", .fieldLink RX5 81 "EchoCaveModel$Sound" "clapped" "I", .fieldLink RX5 47 "EchoCaveModel$Sound" "late" "I", .fieldLink RX5 26 "EchoCaveModel$Sound" "place" "[I", .methodLink RX5 84 yX5_start, .instanceMethod yX5_start, .selects RX5 yX5_start yX5_start, .initialized RX5, .code yX5_start cX5_start 6 none, .fieldLink RX5 53 "EchoCaveModel$Sound" "runs" "I", .fieldLink RX5 32 "EchoCaveModel$Sound" "there" "[I", .fieldLink RX5 35 "EchoCaveModel$Sound" "back" "[I", .methodLink RX5 56 yX5_come, .instanceMethod yX5_come, .selects RX5 yX5_come yX5_come, .code yX5_come cX5_come 8 none, .fieldLink RX5 50 "EchoCaveModel$Sound" "waiting" "I", .fieldLink RX5 38 "EchoCaveModel$Sound" "order" "[I", .fieldLink RX5 41 "EchoCaveModel$Sound" "power" "[I"] ++ wsX50 ++ wsX60)
def wsX6_touches : List Cond := .code yX6_touches cX6_touches 3 (some .boolean) :: ([.fieldLink RX6 20 "EchoCaveModel" "tunnel" "[I"] ++ wsX60)
def wsX6_isOpen : List Cond := .code yX6_isOpen cX6_isOpen 3 (some .boolean) :: ([.fieldLink RX6 16 "EchoCaveModel" "room" "[I", .fieldLink RX6 20 "EchoCaveModel" "tunnel" "[I"] ++ wsX60)
def wsX5_arrive_r1 : List Cond := [Cond.fieldLink RX5 3 "EchoCaveModel$Sound" "this$0" "LEchoCaveModel;", Cond.methodLink RX5 87 yX5_hear, Cond.instanceMethod yX5_hear, Cond.selects RX5 yX5_hear yX5_hear, Cond.initialized RX5, Cond.code yX5_hear cX5_hear 6 none, Cond.fieldLink RX5 63 "EchoCaveModel$Sound" "kept" "I", Cond.fieldLink RX5 23 "EchoCaveModel$Sound" "heard" "[I", Cond.fieldLink RX5 26 "EchoCaveModel$Sound" "place" "[I", Cond.fieldLink RX5 29 "EchoCaveModel$Sound" "syllable" "[I", Cond.fieldLink RX5 69 "EchoCaveModel$Sound" "counted" "I", Cond.fieldLink RX5 72 "EchoCaveModel$Sound" "latest" "I", Cond.fieldLink RX5 19 "EchoCaveModel$Sound" "firsts" "[I", Cond.fieldLink RX5 75 "EchoCaveModel$Sound" "inOrder" "I", Cond.methodLink RX5 91 yX5_clap, Cond.instanceMethod yX5_clap, Cond.selects RX5 yX5_clap yX5_clap, Cond.code yX5_clap cX5_clap 6 none, Cond.fieldLink RX5 15 "EchoCaveModel$Sound" "chamber" "I", Cond.fieldLink RX5 44 "EchoCaveModel$Sound" "with" "I", Cond.fieldLink RX5 81 "EchoCaveModel$Sound" "clapped" "I", Cond.fieldLink RX5 47 "EchoCaveModel$Sound" "late" "I", Cond.methodLink RX5 84 yX5_start, Cond.instanceMethod yX5_start]
def wsX5_arrive_r2 : List Cond := [Cond.selects RX5 yX5_start yX5_start, Cond.code yX5_start cX5_start 6 none, Cond.fieldLink RX5 53 "EchoCaveModel$Sound" "runs" "I", Cond.fieldLink RX5 32 "EchoCaveModel$Sound" "there" "[I", Cond.fieldLink RX5 35 "EchoCaveModel$Sound" "back" "[I", Cond.methodLink RX5 56 yX5_come, Cond.instanceMethod yX5_come, Cond.selects RX5 yX5_come yX5_come, Cond.code yX5_come cX5_come 8 none, Cond.fieldLink RX5 50 "EchoCaveModel$Sound" "waiting" "I", Cond.fieldLink RX5 38 "EchoCaveModel$Sound" "order" "[I", Cond.fieldLink RX5 41 "EchoCaveModel$Sound" "power" "[I", Cond.instanceMethod yX6_touches, Cond.initialized RX6, Cond.selects RX6 yX6_touches yX6_touches, Cond.code yX6_touches cX6_touches 3 (some .boolean), Cond.fieldLink RX6 20 "EchoCaveModel" "tunnel" "[I", Cond.instanceMethod yX6_isOpen, Cond.selects RX6 yX6_isOpen yX6_isOpen, Cond.code yX6_isOpen cX6_isOpen 3 (some .boolean), Cond.fieldLink RX6 16 "EchoCaveModel" "room" "[I", Cond.methodLink RX5 107 yX5_go, Cond.instanceMethod yX5_go, Cond.selects RX5 yX5_go yX5_go]
def wsX5_arrive_r3 : List Cond := [Cond.code yX5_go cX5_go 8 none]
def wsX5_arrive : List Cond := .code yX5_arrive cX5_arrive 8 none :: ((wsX5_arrive_r1 ++ (wsX5_arrive_r2 ++ wsX5_arrive_r3)) ++ wsX50 ++ wsX60)
def wsX5_say_r1 : List Cond := [Cond.fieldLink RX5 110 "EchoCaveModel$Sound" "word" "I", Cond.fieldLink RX5 113 "EchoCaveModel$Sound" "places" "I", Cond.fieldLink RX5 53 "EchoCaveModel$Sound" "runs" "I", Cond.fieldLink RX5 63 "EchoCaveModel$Sound" "kept" "I", Cond.fieldLink RX5 69 "EchoCaveModel$Sound" "counted" "I", Cond.fieldLink RX5 75 "EchoCaveModel$Sound" "inOrder" "I", Cond.fieldLink RX5 72 "EchoCaveModel$Sound" "latest" "I", Cond.fieldLink RX5 50 "EchoCaveModel$Sound" "waiting" "I", Cond.fieldLink RX5 81 "EchoCaveModel$Sound" "clapped" "I", Cond.fieldLink RX5 19 "EchoCaveModel$Sound" "firsts" "[I", Cond.methodLink RX5 116 Lib.Math.max.name, Cond.static Lib.Math.max.name, Cond.initialized "java/lang/Math", Cond.code Lib.Math.max.name Lib.Math.max.code 2 (some .int), Cond.fieldLink RX5 38 "EchoCaveModel$Sound" "order" "[I", Cond.fieldLink RX5 41 "EchoCaveModel$Sound" "power" "[I", Cond.methodLink RX5 84 yX5_start, Cond.instanceMethod yX5_start, Cond.selects RX5 yX5_start yX5_start, Cond.initialized RX5, Cond.code yX5_start cX5_start 6 none, Cond.fieldLink RX5 26 "EchoCaveModel$Sound" "place" "[I", Cond.fieldLink RX5 29 "EchoCaveModel$Sound" "syllable" "[I", Cond.fieldLink RX5 32 "EchoCaveModel$Sound" "there" "[I"]
def wsX5_say_r2 : List Cond := [Cond.fieldLink RX5 35 "EchoCaveModel$Sound" "back" "[I", Cond.methodLink RX5 56 yX5_come, Cond.instanceMethod yX5_come, Cond.selects RX5 yX5_come yX5_come, Cond.code yX5_come cX5_come 8 none, Cond.methodLink RX5 122 yX5_arrive, Cond.instanceMethod yX5_arrive, Cond.selects RX5 yX5_arrive yX5_arrive, Cond.code yX5_arrive cX5_arrive 8 none, Cond.fieldLink RX5 3 "EchoCaveModel$Sound" "this$0" "LEchoCaveModel;", Cond.methodLink RX5 87 yX5_hear, Cond.instanceMethod yX5_hear, Cond.selects RX5 yX5_hear yX5_hear, Cond.code yX5_hear cX5_hear 6 none, Cond.fieldLink RX5 23 "EchoCaveModel$Sound" "heard" "[I", Cond.methodLink RX5 91 yX5_clap, Cond.instanceMethod yX5_clap, Cond.selects RX5 yX5_clap yX5_clap, Cond.code yX5_clap cX5_clap 6 none, Cond.fieldLink RX5 15 "EchoCaveModel$Sound" "chamber" "I", Cond.fieldLink RX5 44 "EchoCaveModel$Sound" "with" "I", Cond.fieldLink RX5 47 "EchoCaveModel$Sound" "late" "I", Cond.instanceMethod yX6_touches, Cond.initialized RX6]
def wsX5_say_r3 : List Cond := [Cond.selects RX6 yX6_touches yX6_touches, Cond.code yX6_touches cX6_touches 3 (some .boolean), Cond.fieldLink RX6 20 "EchoCaveModel" "tunnel" "[I", Cond.instanceMethod yX6_isOpen, Cond.selects RX6 yX6_isOpen yX6_isOpen, Cond.code yX6_isOpen cX6_isOpen 3 (some .boolean), Cond.fieldLink RX6 16 "EchoCaveModel" "room" "[I", Cond.methodLink RX5 107 yX5_go, Cond.instanceMethod yX5_go, Cond.selects RX5 yX5_go yX5_go, Cond.code yX5_go cX5_go 8 none]
def wsX5_say : List Cond := .code yX5_say cX5_say 5 none :: ((wsX5_say_r1 ++ (wsX5_say_r2 ++ wsX5_say_r3)) ++ wsX50 ++ wsX60)
def wsX5_isInOrder : List Cond := .code yX5_isInOrder cX5_isInOrder 1 (some .boolean) :: ([.fieldLink RX5 113 "EchoCaveModel$Sound" "places" "I", .fieldLink RX5 75 "EchoCaveModel$Sound" "inOrder" "I"] ++ wsX50)
def wsX6_init_r1 : List Cond := [Cond.methodLink RX6 3 objectInit, Cond.instanceMethod objectInit, Cond.code objectInit ⟨#[0xb1]⟩ 1 none, Cond.fieldLink RX6 9 "EchoCaveModel" "chambers" "I", Cond.fieldLink RX6 13 "EchoCaveModel" "ear" "I", Cond.arrayClass .int, Cond.fieldLink RX6 16 "EchoCaveModel" "room" "[I", Cond.fieldLink RX6 20 "EchoCaveModel" "tunnel" "[I", Cond.classLink RX6 23 RX5, Cond.instantiable RX5 21, Cond.initialized RX5, Cond.fieldLink RX6 28 "EchoCaveModel" "s" "LEchoCaveModel$Sound;", Cond.fieldLink RX6 32 "EchoCaveModel" "ahead" "LEchoCaveModel$Sound;", Cond.instanceMethod yX5_init, Cond.code yX5_init cX5_init 2 none, Cond.fieldLink RX5 3 "EchoCaveModel$Sound" "this$0" "LEchoCaveModel;", Cond.methodLink RX5 9 objectInit, Cond.fieldLink RX5 15 "EchoCaveModel$Sound" "chamber" "I", Cond.fieldLink RX5 19 "EchoCaveModel$Sound" "firsts" "[I", Cond.fieldLink RX5 23 "EchoCaveModel$Sound" "heard" "[I", Cond.fieldLink RX5 26 "EchoCaveModel$Sound" "place" "[I", Cond.fieldLink RX5 29 "EchoCaveModel$Sound" "syllable" "[I", Cond.fieldLink RX5 32 "EchoCaveModel$Sound" "there" "[I", Cond.fieldLink RX5 35 "EchoCaveModel$Sound" "back" "[I"]
def wsX6_init_r2 : List Cond := [Cond.fieldLink RX5 38 "EchoCaveModel$Sound" "order" "[I", Cond.fieldLink RX5 41 "EchoCaveModel$Sound" "power" "[I"]
def wsX6_init : List Cond := .code yX6_init cX6_init 1 none :: ((wsX6_init_r1 ++ wsX6_init_r2) ++ wsX60 ++ wsX50)
def wsX6_thrown : List Cond := .code yX6_thrown cX6_thrown 1 (some .int) :: ([.fieldLink RX6 35 "EchoCaveModel" "thrown" "I"] ++ wsX60)
def wsX6_no : List Cond := .code yX6_no cX6_no 2 (some .int) :: ([.fieldLink RX6 35 "EchoCaveModel" "thrown" "I"] ++ wsX60)
def wsX6_isIn : List Cond := .code yX6_isIn cX6_isIn 3 (some .boolean) :: ([])
def wsX6_isChamber : List Cond := .code yX6_isChamber cX6_isChamber 2 (some .boolean) :: ([.fieldLink RX6 9 "EchoCaveModel" "chambers" "I", .methodLink RX6 38 yX6_isIn, .static yX6_isIn, .initialized RX6, .code yX6_isIn cX6_isIn 3 (some .boolean)] ++ wsX60)
def wsX6_isWord : List Cond := .code yX6_isWord cX6_isWord 3 (some .boolean) :: ([.constant RX6 42 (999999), .methodLink RX6 38 yX6_isIn, .static yX6_isIn, .initialized RX6, .code yX6_isIn cX6_isIn 3 (some .boolean)])
def wsX6_addChamber : List Cond := .code yX6_addChamber cX6_addChamber 5 (some .int) :: ([.fieldLink RX6 35 "EchoCaveModel" "thrown" "I", .fieldLink RX6 9 "EchoCaveModel" "chambers" "I", .arrayClass .int, .fieldLink RX6 16 "EchoCaveModel" "room" "[I", .methodLink RX6 47 arraycopyName, .native arraycopyName, .static arraycopyName, .initialized "java/lang/System", .methodLink RX6 38 yX6_isIn, .static yX6_isIn, .initialized RX6, .code yX6_isIn cX6_isIn 3 (some .boolean), .methodLink RX6 43 yX6_no, .instanceMethod yX6_no, .selects RX6 yX6_no yX6_no, .code yX6_no cX6_no 2 (some .int)] ++ wsX60)
def wsX6_addPassage : List Cond := .code yX6_addPassage cX6_addPassage 6 (some .int) :: ([.fieldLink RX6 35 "EchoCaveModel" "thrown" "I", .fieldLink RX6 57 "EchoCaveModel" "passages" "I", .arrayClass .int, .fieldLink RX6 20 "EchoCaveModel" "tunnel" "[I", .methodLink RX6 47 arraycopyName, .native arraycopyName, .static arraycopyName, .initialized "java/lang/System", .methodLink RX6 53 yX6_isChamber, .instanceMethod yX6_isChamber, .selects RX6 yX6_isChamber yX6_isChamber, .initialized RX6, .code yX6_isChamber cX6_isChamber 2 (some .boolean), .fieldLink RX6 9 "EchoCaveModel" "chambers" "I", .methodLink RX6 38 yX6_isIn, .static yX6_isIn, .code yX6_isIn cX6_isIn 3 (some .boolean), .methodLink RX6 43 yX6_no, .instanceMethod yX6_no, .selects RX6 yX6_no yX6_no, .code yX6_no cX6_no 2 (some .int)] ++ wsX60)
def wsX6_setWater : List Cond := .code yX6_setWater cX6_setWater 3 (some .int) :: ([.fieldLink RX6 35 "EchoCaveModel" "thrown" "I", .fieldLink RX6 60 "EchoCaveModel" "water" "I", .methodLink RX6 38 yX6_isIn, .static yX6_isIn, .initialized RX6, .code yX6_isIn cX6_isIn 3 (some .boolean), .methodLink RX6 43 yX6_no, .instanceMethod yX6_no, .selects RX6 yX6_no yX6_no, .code yX6_no cX6_no 2 (some .int)] ++ wsX60)
def wsX6_setBats : List Cond := .code yX6_setBats cX6_setBats 4 (some .int) :: ([.fieldLink RX6 35 "EchoCaveModel" "thrown" "I", .fieldLink RX6 16 "EchoCaveModel" "room" "[I", .methodLink RX6 53 yX6_isChamber, .instanceMethod yX6_isChamber, .selects RX6 yX6_isChamber yX6_isChamber, .initialized RX6, .code yX6_isChamber cX6_isChamber 2 (some .boolean), .fieldLink RX6 9 "EchoCaveModel" "chambers" "I", .methodLink RX6 38 yX6_isIn, .static yX6_isIn, .code yX6_isIn cX6_isIn 3 (some .boolean), .methodLink RX6 43 yX6_no, .instanceMethod yX6_no, .selects RX6 yX6_no yX6_no, .code yX6_no cX6_no 2 (some .int)] ++ wsX60)
def wsX6_setClapper : List Cond := .code yX6_setClapper cX6_setClapper 5 (some .int) :: ([.fieldLink RX6 35 "EchoCaveModel" "thrown" "I", .fieldLink RX6 16 "EchoCaveModel" "room" "[I", .methodLink RX6 53 yX6_isChamber, .instanceMethod yX6_isChamber, .selects RX6 yX6_isChamber yX6_isChamber, .initialized RX6, .code yX6_isChamber cX6_isChamber 2 (some .boolean), .fieldLink RX6 9 "EchoCaveModel" "chambers" "I", .methodLink RX6 38 yX6_isIn, .static yX6_isIn, .code yX6_isIn cX6_isIn 3 (some .boolean), .methodLink RX6 43 yX6_no, .instanceMethod yX6_no, .selects RX6 yX6_no yX6_no, .code yX6_no cX6_no 2 (some .int)] ++ wsX60)
def wsX6_setEar : List Cond := .code yX6_setEar cX6_setEar 3 (some .int) :: ([.fieldLink RX6 35 "EchoCaveModel" "thrown" "I", .fieldLink RX6 13 "EchoCaveModel" "ear" "I", .methodLink RX6 38 yX6_isIn, .static yX6_isIn, .initialized RX6, .code yX6_isIn cX6_isIn 3 (some .boolean), .methodLink RX6 43 yX6_no, .instanceMethod yX6_no, .selects RX6 yX6_no yX6_no, .code yX6_no cX6_no 2 (some .int)] ++ wsX60)
def wsX6_chamberTold : List Cond := .code yX6_chamberTold cX6_chamberTold 5 (some .int) :: ([.fieldLink RX6 16 "EchoCaveModel" "room" "[I", .fieldLink RX6 57 "EchoCaveModel" "passages" "I", .fieldLink RX6 60 "EchoCaveModel" "water" "I", .methodLink RX6 63 yX6_touches, .instanceMethod yX6_touches, .selects RX6 yX6_touches yX6_touches, .initialized RX6, .code yX6_touches cX6_touches 3 (some .boolean), .fieldLink RX6 20 "EchoCaveModel" "tunnel" "[I", .methodLink RX6 67 yX6_isOpen, .instanceMethod yX6_isOpen, .selects RX6 yX6_isOpen yX6_isOpen, .code yX6_isOpen cX6_isOpen 3 (some .boolean)] ++ wsX60)
def wsX6_chamber_r1 : List Cond := [Cond.fieldLink RX6 35 "EchoCaveModel" "thrown" "I", Cond.methodLink RX6 53 yX6_isChamber, Cond.instanceMethod yX6_isChamber, Cond.selects RX6 yX6_isChamber yX6_isChamber, Cond.initialized RX6, Cond.code yX6_isChamber cX6_isChamber 2 (some .boolean), Cond.fieldLink RX6 9 "EchoCaveModel" "chambers" "I", Cond.methodLink RX6 38 yX6_isIn, Cond.static yX6_isIn, Cond.code yX6_isIn cX6_isIn 3 (some .boolean), Cond.methodLink RX6 70 yX6_chamberTold, Cond.instanceMethod yX6_chamberTold, Cond.selects RX6 yX6_chamberTold yX6_chamberTold, Cond.code yX6_chamberTold cX6_chamberTold 5 (some .int), Cond.fieldLink RX6 16 "EchoCaveModel" "room" "[I", Cond.fieldLink RX6 57 "EchoCaveModel" "passages" "I", Cond.fieldLink RX6 60 "EchoCaveModel" "water" "I", Cond.methodLink RX6 63 yX6_touches, Cond.instanceMethod yX6_touches, Cond.selects RX6 yX6_touches yX6_touches, Cond.code yX6_touches cX6_touches 3 (some .boolean), Cond.fieldLink RX6 20 "EchoCaveModel" "tunnel" "[I", Cond.methodLink RX6 67 yX6_isOpen, Cond.instanceMethod yX6_isOpen]
def wsX6_chamber_r2 : List Cond := [Cond.selects RX6 yX6_isOpen yX6_isOpen, Cond.code yX6_isOpen cX6_isOpen 3 (some .boolean), Cond.methodLink RX6 43 yX6_no, Cond.instanceMethod yX6_no, Cond.selects RX6 yX6_no yX6_no, Cond.code yX6_no cX6_no 2 (some .int)]
def wsX6_chamber : List Cond := .code yX6_chamber cX6_chamber 3 (some .int) :: ((wsX6_chamber_r1 ++ wsX6_chamber_r2) ++ wsX60)
def wsX6_passageTold : List Cond := .code yX6_passageTold cX6_passageTold 3 (some .int) :: ([.fieldLink RX6 20 "EchoCaveModel" "tunnel" "[I", .fieldLink RX6 60 "EchoCaveModel" "water" "I", .methodLink RX6 67 yX6_isOpen, .instanceMethod yX6_isOpen, .selects RX6 yX6_isOpen yX6_isOpen, .initialized RX6, .code yX6_isOpen cX6_isOpen 3 (some .boolean), .fieldLink RX6 16 "EchoCaveModel" "room" "[I"] ++ wsX60)
def wsX6_passage : List Cond := .code yX6_passage cX6_passage 3 (some .int) :: ([.fieldLink RX6 35 "EchoCaveModel" "thrown" "I", .fieldLink RX6 57 "EchoCaveModel" "passages" "I", .methodLink RX6 38 yX6_isIn, .static yX6_isIn, .initialized RX6, .code yX6_isIn cX6_isIn 3 (some .boolean), .methodLink RX6 74 yX6_passageTold, .instanceMethod yX6_passageTold, .selects RX6 yX6_passageTold yX6_passageTold, .code yX6_passageTold cX6_passageTold 3 (some .int), .fieldLink RX6 20 "EchoCaveModel" "tunnel" "[I", .fieldLink RX6 60 "EchoCaveModel" "water" "I", .methodLink RX6 67 yX6_isOpen, .instanceMethod yX6_isOpen, .selects RX6 yX6_isOpen yX6_isOpen, .code yX6_isOpen cX6_isOpen 3 (some .boolean), .fieldLink RX6 16 "EchoCaveModel" "room" "[I", .methodLink RX6 43 yX6_no, .instanceMethod yX6_no, .selects RX6 yX6_no yX6_no, .code yX6_no cX6_no 2 (some .int)] ++ wsX60)
def wsX6_say_r1 : List Cond := [Cond.fieldLink RX6 35 "EchoCaveModel" "thrown" "I", Cond.fieldLink RX6 28 "EchoCaveModel" "s" "LEchoCaveModel$Sound;", Cond.fieldLink RX6 84 "EchoCaveModel" "said" "I", Cond.methodLink RX6 77 yX6_isWord, Cond.static yX6_isWord, Cond.initialized RX6, Cond.code yX6_isWord cX6_isWord 3 (some .boolean), Cond.constant RX6 42 (999999), Cond.methodLink RX6 38 yX6_isIn, Cond.static yX6_isIn, Cond.code yX6_isIn cX6_isIn 3 (some .boolean), Cond.methodLink RX6 43 yX6_no, Cond.instanceMethod yX6_no, Cond.selects RX6 yX6_no yX6_no, Cond.code yX6_no cX6_no 2 (some .int), Cond.methodLink RX6 80 yX5_say, Cond.instanceMethod yX5_say, Cond.selects RX5 yX5_say yX5_say, Cond.initialized RX5, Cond.code yX5_say cX5_say 5 none, Cond.fieldLink RX5 110 "EchoCaveModel$Sound" "word" "I", Cond.fieldLink RX5 113 "EchoCaveModel$Sound" "places" "I", Cond.fieldLink RX5 53 "EchoCaveModel$Sound" "runs" "I", Cond.fieldLink RX5 63 "EchoCaveModel$Sound" "kept" "I"]
def wsX6_say_r2 : List Cond := [Cond.fieldLink RX5 69 "EchoCaveModel$Sound" "counted" "I", Cond.fieldLink RX5 75 "EchoCaveModel$Sound" "inOrder" "I", Cond.fieldLink RX5 72 "EchoCaveModel$Sound" "latest" "I", Cond.fieldLink RX5 50 "EchoCaveModel$Sound" "waiting" "I", Cond.fieldLink RX5 81 "EchoCaveModel$Sound" "clapped" "I", Cond.fieldLink RX5 19 "EchoCaveModel$Sound" "firsts" "[I", Cond.methodLink RX5 116 Lib.Math.max.name, Cond.static Lib.Math.max.name, Cond.initialized "java/lang/Math", Cond.code Lib.Math.max.name Lib.Math.max.code 2 (some .int), Cond.fieldLink RX5 38 "EchoCaveModel$Sound" "order" "[I", Cond.fieldLink RX5 41 "EchoCaveModel$Sound" "power" "[I", Cond.methodLink RX5 84 yX5_start, Cond.instanceMethod yX5_start, Cond.selects RX5 yX5_start yX5_start, Cond.code yX5_start cX5_start 6 none, Cond.fieldLink RX5 26 "EchoCaveModel$Sound" "place" "[I", Cond.fieldLink RX5 29 "EchoCaveModel$Sound" "syllable" "[I", Cond.fieldLink RX5 32 "EchoCaveModel$Sound" "there" "[I", Cond.fieldLink RX5 35 "EchoCaveModel$Sound" "back" "[I", Cond.methodLink RX5 56 yX5_come, Cond.instanceMethod yX5_come, Cond.selects RX5 yX5_come yX5_come, Cond.code yX5_come cX5_come 8 none]
def wsX6_say_r3 : List Cond := [Cond.methodLink RX5 122 yX5_arrive, Cond.instanceMethod yX5_arrive, Cond.selects RX5 yX5_arrive yX5_arrive, Cond.code yX5_arrive cX5_arrive 8 none, Cond.fieldLink RX5 3 "EchoCaveModel$Sound" "this$0" "LEchoCaveModel;", Cond.methodLink RX5 87 yX5_hear, Cond.instanceMethod yX5_hear, Cond.selects RX5 yX5_hear yX5_hear, Cond.code yX5_hear cX5_hear 6 none, Cond.fieldLink RX5 23 "EchoCaveModel$Sound" "heard" "[I", Cond.methodLink RX5 91 yX5_clap, Cond.instanceMethod yX5_clap, Cond.selects RX5 yX5_clap yX5_clap, Cond.code yX5_clap cX5_clap 6 none, Cond.fieldLink RX5 15 "EchoCaveModel$Sound" "chamber" "I", Cond.fieldLink RX5 44 "EchoCaveModel$Sound" "with" "I", Cond.fieldLink RX5 47 "EchoCaveModel$Sound" "late" "I", Cond.instanceMethod yX6_touches, Cond.selects RX6 yX6_touches yX6_touches, Cond.code yX6_touches cX6_touches 3 (some .boolean), Cond.fieldLink RX6 20 "EchoCaveModel" "tunnel" "[I", Cond.instanceMethod yX6_isOpen, Cond.selects RX6 yX6_isOpen yX6_isOpen, Cond.code yX6_isOpen cX6_isOpen 3 (some .boolean)]
def wsX6_say_r4 : List Cond := [Cond.fieldLink RX6 16 "EchoCaveModel" "room" "[I", Cond.methodLink RX5 107 yX5_go, Cond.instanceMethod yX5_go, Cond.selects RX5 yX5_go yX5_go, Cond.code yX5_go cX5_go 8 none]
def wsX6_say : List Cond := .code yX6_say cX6_say 3 (some .int) :: ((wsX6_say_r1 ++ (wsX6_say_r2 ++ (wsX6_say_r3 ++ wsX6_say_r4))) ++ wsX60 ++ wsX50)
def wsX6_heard : List Cond := .code yX6_heard cX6_heard 3 (some .int) :: ([.fieldLink RX6 35 "EchoCaveModel" "thrown" "I", .fieldLink RX6 28 "EchoCaveModel" "s" "LEchoCaveModel$Sound;", .methodLink RX6 38 yX6_isIn, .static yX6_isIn, .initialized RX6, .code yX6_isIn cX6_isIn 3 (some .boolean), .methodLink RX6 43 yX6_no, .instanceMethod yX6_no, .selects RX6 yX6_no yX6_no, .code yX6_no cX6_no 2 (some .int)] ++ wsX60 ++ wsX50)
def wsX6_inOrder : List Cond := .code yX6_inOrder cX6_inOrder 1 (some .boolean) :: ([.fieldLink RX6 35 "EchoCaveModel" "thrown" "I", .fieldLink RX6 28 "EchoCaveModel" "s" "LEchoCaveModel$Sound;", .methodLink RX6 96 yX5_isInOrder, .instanceMethod yX5_isInOrder, .selects RX5 yX5_isInOrder yX5_isInOrder, .initialized RX5, .code yX5_isInOrder cX5_isInOrder 1 (some .boolean), .fieldLink RX5 113 "EchoCaveModel$Sound" "places" "I", .fieldLink RX5 75 "EchoCaveModel$Sound" "inOrder" "I"] ++ wsX60 ++ wsX50)
def wsX6_first : List Cond := .code yX6_first cX6_first 2 (some .int) :: ([.fieldLink RX6 35 "EchoCaveModel" "thrown" "I", .fieldLink RX6 28 "EchoCaveModel" "s" "LEchoCaveModel$Sound;", .methodLink RX6 38 yX6_isIn, .static yX6_isIn, .initialized RX6, .code yX6_isIn cX6_isIn 3 (some .boolean), .methodLink RX6 43 yX6_no, .instanceMethod yX6_no, .selects RX6 yX6_no yX6_no, .code yX6_no cX6_no 2 (some .int)] ++ wsX60 ++ wsX50)
def wsX6_counted : List Cond := .code yX6_counted cX6_counted 4 (some .int) :: ([.fieldLink RX6 9 "EchoCaveModel" "chambers" "I", .fieldLink RX6 57 "EchoCaveModel" "passages" "I", .fieldLink RX6 60 "EchoCaveModel" "water" "I", .fieldLink RX6 16 "EchoCaveModel" "room" "[I", .fieldLink RX6 13 "EchoCaveModel" "ear" "I", .fieldLink RX6 84 "EchoCaveModel" "said" "I", .fieldLink RX6 28 "EchoCaveModel" "s" "LEchoCaveModel$Sound;", .methodLink RX6 67 yX6_isOpen, .instanceMethod yX6_isOpen, .selects RX6 yX6_isOpen yX6_isOpen, .initialized RX6, .code yX6_isOpen cX6_isOpen 3 (some .boolean), .fieldLink RX6 20 "EchoCaveModel" "tunnel" "[I"] ++ wsX60 ++ wsX50)
def wsX6_count_r1 : List Cond := [Cond.fieldLink RX6 35 "EchoCaveModel" "thrown" "I", Cond.methodLink RX6 38 yX6_isIn, Cond.static yX6_isIn, Cond.initialized RX6, Cond.code yX6_isIn cX6_isIn 3 (some .boolean), Cond.methodLink RX6 109 yX6_counted, Cond.instanceMethod yX6_counted, Cond.selects RX6 yX6_counted yX6_counted, Cond.code yX6_counted cX6_counted 4 (some .int), Cond.fieldLink RX6 9 "EchoCaveModel" "chambers" "I", Cond.fieldLink RX6 57 "EchoCaveModel" "passages" "I", Cond.fieldLink RX6 60 "EchoCaveModel" "water" "I", Cond.fieldLink RX6 16 "EchoCaveModel" "room" "[I", Cond.fieldLink RX6 13 "EchoCaveModel" "ear" "I", Cond.fieldLink RX6 84 "EchoCaveModel" "said" "I", Cond.fieldLink RX6 28 "EchoCaveModel" "s" "LEchoCaveModel$Sound;", Cond.methodLink RX6 67 yX6_isOpen, Cond.instanceMethod yX6_isOpen, Cond.selects RX6 yX6_isOpen yX6_isOpen, Cond.code yX6_isOpen cX6_isOpen 3 (some .boolean), Cond.fieldLink RX6 20 "EchoCaveModel" "tunnel" "[I", Cond.methodLink RX6 43 yX6_no, Cond.instanceMethod yX6_no, Cond.selects RX6 yX6_no yX6_no]
def wsX6_count_r2 : List Cond := [Cond.code yX6_no cX6_no 2 (some .int)]
def wsX6_count : List Cond := .code yX6_count cX6_count 2 (some .int) :: ((wsX6_count_r1 ++ wsX6_count_r2) ++ wsX60 ++ wsX50)
def wsX6_comes_r1 : List Cond := [Cond.fieldLink RX6 32 "EchoCaveModel" "ahead" "LEchoCaveModel$Sound;", Cond.methodLink RX6 80 yX5_say, Cond.instanceMethod yX5_say, Cond.selects RX5 yX5_say yX5_say, Cond.initialized RX5, Cond.code yX5_say cX5_say 5 none, Cond.fieldLink RX5 110 "EchoCaveModel$Sound" "word" "I", Cond.fieldLink RX5 113 "EchoCaveModel$Sound" "places" "I", Cond.fieldLink RX5 53 "EchoCaveModel$Sound" "runs" "I", Cond.fieldLink RX5 63 "EchoCaveModel$Sound" "kept" "I", Cond.fieldLink RX5 69 "EchoCaveModel$Sound" "counted" "I", Cond.fieldLink RX5 75 "EchoCaveModel$Sound" "inOrder" "I", Cond.fieldLink RX5 72 "EchoCaveModel$Sound" "latest" "I", Cond.fieldLink RX5 50 "EchoCaveModel$Sound" "waiting" "I", Cond.fieldLink RX5 81 "EchoCaveModel$Sound" "clapped" "I", Cond.fieldLink RX5 19 "EchoCaveModel$Sound" "firsts" "[I", Cond.methodLink RX5 116 Lib.Math.max.name, Cond.static Lib.Math.max.name, Cond.initialized "java/lang/Math", Cond.code Lib.Math.max.name Lib.Math.max.code 2 (some .int), Cond.fieldLink RX5 38 "EchoCaveModel$Sound" "order" "[I", Cond.fieldLink RX5 41 "EchoCaveModel$Sound" "power" "[I", Cond.methodLink RX5 84 yX5_start, Cond.instanceMethod yX5_start]
def wsX6_comes_r2 : List Cond := [Cond.selects RX5 yX5_start yX5_start, Cond.code yX5_start cX5_start 6 none, Cond.fieldLink RX5 26 "EchoCaveModel$Sound" "place" "[I", Cond.fieldLink RX5 29 "EchoCaveModel$Sound" "syllable" "[I", Cond.fieldLink RX5 32 "EchoCaveModel$Sound" "there" "[I", Cond.fieldLink RX5 35 "EchoCaveModel$Sound" "back" "[I", Cond.methodLink RX5 56 yX5_come, Cond.instanceMethod yX5_come, Cond.selects RX5 yX5_come yX5_come, Cond.code yX5_come cX5_come 8 none, Cond.methodLink RX5 122 yX5_arrive, Cond.instanceMethod yX5_arrive, Cond.selects RX5 yX5_arrive yX5_arrive, Cond.code yX5_arrive cX5_arrive 8 none, Cond.fieldLink RX5 3 "EchoCaveModel$Sound" "this$0" "LEchoCaveModel;", Cond.methodLink RX5 87 yX5_hear, Cond.instanceMethod yX5_hear, Cond.selects RX5 yX5_hear yX5_hear, Cond.code yX5_hear cX5_hear 6 none, Cond.fieldLink RX5 23 "EchoCaveModel$Sound" "heard" "[I", Cond.methodLink RX5 91 yX5_clap, Cond.instanceMethod yX5_clap, Cond.selects RX5 yX5_clap yX5_clap, Cond.code yX5_clap cX5_clap 6 none]
def wsX6_comes_r3 : List Cond := [Cond.fieldLink RX5 15 "EchoCaveModel$Sound" "chamber" "I", Cond.fieldLink RX5 44 "EchoCaveModel$Sound" "with" "I", Cond.fieldLink RX5 47 "EchoCaveModel$Sound" "late" "I", Cond.instanceMethod yX6_touches, Cond.initialized RX6, Cond.selects RX6 yX6_touches yX6_touches, Cond.code yX6_touches cX6_touches 3 (some .boolean), Cond.fieldLink RX6 20 "EchoCaveModel" "tunnel" "[I", Cond.instanceMethod yX6_isOpen, Cond.selects RX6 yX6_isOpen yX6_isOpen, Cond.code yX6_isOpen cX6_isOpen 3 (some .boolean), Cond.fieldLink RX6 16 "EchoCaveModel" "room" "[I", Cond.methodLink RX5 107 yX5_go, Cond.instanceMethod yX5_go, Cond.selects RX5 yX5_go yX5_go, Cond.code yX5_go cX5_go 8 none, Cond.methodLink RX6 96 yX5_isInOrder, Cond.instanceMethod yX5_isInOrder, Cond.selects RX5 yX5_isInOrder yX5_isInOrder, Cond.code yX5_isInOrder cX5_isInOrder 1 (some .boolean)]
def wsX6_comes : List Cond := .code yX6_comes cX6_comes 3 (some .boolean) :: ((wsX6_comes_r1 ++ (wsX6_comes_r2 ++ wsX6_comes_r3)) ++ wsX60 ++ wsX50)
def wsX6_would_r1 : List Cond := [Cond.fieldLink RX6 35 "EchoCaveModel" "thrown" "I", Cond.fieldLink RX6 32 "EchoCaveModel" "ahead" "LEchoCaveModel$Sound;", Cond.methodLink RX6 77 yX6_isWord, Cond.static yX6_isWord, Cond.initialized RX6, Cond.code yX6_isWord cX6_isWord 3 (some .boolean), Cond.constant RX6 42 (999999), Cond.methodLink RX6 38 yX6_isIn, Cond.static yX6_isIn, Cond.code yX6_isIn cX6_isIn 3 (some .boolean), Cond.methodLink RX6 43 yX6_no, Cond.instanceMethod yX6_no, Cond.selects RX6 yX6_no yX6_no, Cond.code yX6_no cX6_no 2 (some .int), Cond.methodLink RX6 111 yX6_comes, Cond.instanceMethod yX6_comes, Cond.selects RX6 yX6_comes yX6_comes, Cond.code yX6_comes cX6_comes 3 (some .boolean), Cond.methodLink RX6 80 yX5_say, Cond.instanceMethod yX5_say, Cond.selects RX5 yX5_say yX5_say, Cond.initialized RX5, Cond.code yX5_say cX5_say 5 none, Cond.fieldLink RX5 110 "EchoCaveModel$Sound" "word" "I"]
def wsX6_would_r2 : List Cond := [Cond.fieldLink RX5 113 "EchoCaveModel$Sound" "places" "I", Cond.fieldLink RX5 53 "EchoCaveModel$Sound" "runs" "I", Cond.fieldLink RX5 63 "EchoCaveModel$Sound" "kept" "I", Cond.fieldLink RX5 69 "EchoCaveModel$Sound" "counted" "I", Cond.fieldLink RX5 75 "EchoCaveModel$Sound" "inOrder" "I", Cond.fieldLink RX5 72 "EchoCaveModel$Sound" "latest" "I", Cond.fieldLink RX5 50 "EchoCaveModel$Sound" "waiting" "I", Cond.fieldLink RX5 81 "EchoCaveModel$Sound" "clapped" "I", Cond.fieldLink RX5 19 "EchoCaveModel$Sound" "firsts" "[I", Cond.methodLink RX5 116 Lib.Math.max.name, Cond.static Lib.Math.max.name, Cond.initialized "java/lang/Math", Cond.code Lib.Math.max.name Lib.Math.max.code 2 (some .int), Cond.fieldLink RX5 38 "EchoCaveModel$Sound" "order" "[I", Cond.fieldLink RX5 41 "EchoCaveModel$Sound" "power" "[I", Cond.methodLink RX5 84 yX5_start, Cond.instanceMethod yX5_start, Cond.selects RX5 yX5_start yX5_start, Cond.code yX5_start cX5_start 6 none, Cond.fieldLink RX5 26 "EchoCaveModel$Sound" "place" "[I", Cond.fieldLink RX5 29 "EchoCaveModel$Sound" "syllable" "[I", Cond.fieldLink RX5 32 "EchoCaveModel$Sound" "there" "[I", Cond.fieldLink RX5 35 "EchoCaveModel$Sound" "back" "[I", Cond.methodLink RX5 56 yX5_come]
def wsX6_would_r3 : List Cond := [Cond.instanceMethod yX5_come, Cond.selects RX5 yX5_come yX5_come, Cond.code yX5_come cX5_come 8 none, Cond.methodLink RX5 122 yX5_arrive, Cond.instanceMethod yX5_arrive, Cond.selects RX5 yX5_arrive yX5_arrive, Cond.code yX5_arrive cX5_arrive 8 none, Cond.fieldLink RX5 3 "EchoCaveModel$Sound" "this$0" "LEchoCaveModel;", Cond.methodLink RX5 87 yX5_hear, Cond.instanceMethod yX5_hear, Cond.selects RX5 yX5_hear yX5_hear, Cond.code yX5_hear cX5_hear 6 none, Cond.fieldLink RX5 23 "EchoCaveModel$Sound" "heard" "[I", Cond.methodLink RX5 91 yX5_clap, Cond.instanceMethod yX5_clap, Cond.selects RX5 yX5_clap yX5_clap, Cond.code yX5_clap cX5_clap 6 none, Cond.fieldLink RX5 15 "EchoCaveModel$Sound" "chamber" "I", Cond.fieldLink RX5 44 "EchoCaveModel$Sound" "with" "I", Cond.fieldLink RX5 47 "EchoCaveModel$Sound" "late" "I", Cond.instanceMethod yX6_touches, Cond.selects RX6 yX6_touches yX6_touches, Cond.code yX6_touches cX6_touches 3 (some .boolean), Cond.fieldLink RX6 20 "EchoCaveModel" "tunnel" "[I"]
def wsX6_would_r4 : List Cond := [Cond.instanceMethod yX6_isOpen, Cond.selects RX6 yX6_isOpen yX6_isOpen, Cond.code yX6_isOpen cX6_isOpen 3 (some .boolean), Cond.fieldLink RX6 16 "EchoCaveModel" "room" "[I", Cond.methodLink RX5 107 yX5_go, Cond.instanceMethod yX5_go, Cond.selects RX5 yX5_go yX5_go, Cond.code yX5_go cX5_go 8 none, Cond.methodLink RX6 96 yX5_isInOrder, Cond.instanceMethod yX5_isInOrder, Cond.selects RX5 yX5_isInOrder yX5_isInOrder, Cond.code yX5_isInOrder cX5_isInOrder 1 (some .boolean)]
def wsX6_would : List Cond := .code yX6_would cX6_would 5 (some .int) :: ((wsX6_would_r1 ++ (wsX6_would_r2 ++ (wsX6_would_r3 ++ wsX6_would_r4))) ++ wsX60 ++ wsX50)
def wsX6_advise_r1 : List Cond := [Cond.fieldLink RX6 35 "EchoCaveModel" "thrown" "I", Cond.fieldLink RX6 9 "EchoCaveModel" "chambers" "I", Cond.fieldLink RX6 32 "EchoCaveModel" "ahead" "LEchoCaveModel$Sound;", Cond.methodLink RX6 77 yX6_isWord, Cond.static yX6_isWord, Cond.initialized RX6, Cond.code yX6_isWord cX6_isWord 3 (some .boolean), Cond.constant RX6 42 (999999), Cond.methodLink RX6 38 yX6_isIn, Cond.static yX6_isIn, Cond.code yX6_isIn cX6_isIn 3 (some .boolean), Cond.methodLink RX6 43 yX6_no, Cond.instanceMethod yX6_no, Cond.selects RX6 yX6_no yX6_no, Cond.code yX6_no cX6_no 2 (some .int), Cond.methodLink RX6 120 yX5_instead, Cond.instanceMethod yX5_instead, Cond.selects RX5 yX5_instead yX5_instead, Cond.initialized RX5, Cond.code yX5_instead cX5_instead 4 none, Cond.fieldLink RX5 15 "EchoCaveModel$Sound" "chamber" "I", Cond.fieldLink RX5 44 "EchoCaveModel$Sound" "with" "I", Cond.fieldLink RX5 47 "EchoCaveModel$Sound" "late" "I", Cond.methodLink RX6 111 yX6_comes]
def wsX6_advise_r2 : List Cond := [Cond.instanceMethod yX6_comes, Cond.selects RX6 yX6_comes yX6_comes, Cond.code yX6_comes cX6_comes 3 (some .boolean), Cond.methodLink RX6 80 yX5_say, Cond.instanceMethod yX5_say, Cond.selects RX5 yX5_say yX5_say, Cond.code yX5_say cX5_say 5 none, Cond.fieldLink RX5 110 "EchoCaveModel$Sound" "word" "I", Cond.fieldLink RX5 113 "EchoCaveModel$Sound" "places" "I", Cond.fieldLink RX5 53 "EchoCaveModel$Sound" "runs" "I", Cond.fieldLink RX5 63 "EchoCaveModel$Sound" "kept" "I", Cond.fieldLink RX5 69 "EchoCaveModel$Sound" "counted" "I", Cond.fieldLink RX5 75 "EchoCaveModel$Sound" "inOrder" "I", Cond.fieldLink RX5 72 "EchoCaveModel$Sound" "latest" "I", Cond.fieldLink RX5 50 "EchoCaveModel$Sound" "waiting" "I", Cond.fieldLink RX5 81 "EchoCaveModel$Sound" "clapped" "I", Cond.fieldLink RX5 19 "EchoCaveModel$Sound" "firsts" "[I", Cond.methodLink RX5 116 Lib.Math.max.name, Cond.static Lib.Math.max.name, Cond.initialized "java/lang/Math", Cond.code Lib.Math.max.name Lib.Math.max.code 2 (some .int), Cond.fieldLink RX5 38 "EchoCaveModel$Sound" "order" "[I", Cond.fieldLink RX5 41 "EchoCaveModel$Sound" "power" "[I", Cond.methodLink RX5 84 yX5_start]
def wsX6_advise_r3 : List Cond := [Cond.instanceMethod yX5_start, Cond.selects RX5 yX5_start yX5_start, Cond.code yX5_start cX5_start 6 none, Cond.fieldLink RX5 26 "EchoCaveModel$Sound" "place" "[I", Cond.fieldLink RX5 29 "EchoCaveModel$Sound" "syllable" "[I", Cond.fieldLink RX5 32 "EchoCaveModel$Sound" "there" "[I", Cond.fieldLink RX5 35 "EchoCaveModel$Sound" "back" "[I", Cond.methodLink RX5 56 yX5_come, Cond.instanceMethod yX5_come, Cond.selects RX5 yX5_come yX5_come, Cond.code yX5_come cX5_come 8 none, Cond.methodLink RX5 122 yX5_arrive, Cond.instanceMethod yX5_arrive, Cond.selects RX5 yX5_arrive yX5_arrive, Cond.code yX5_arrive cX5_arrive 8 none, Cond.fieldLink RX5 3 "EchoCaveModel$Sound" "this$0" "LEchoCaveModel;", Cond.methodLink RX5 87 yX5_hear, Cond.instanceMethod yX5_hear, Cond.selects RX5 yX5_hear yX5_hear, Cond.code yX5_hear cX5_hear 6 none, Cond.fieldLink RX5 23 "EchoCaveModel$Sound" "heard" "[I", Cond.methodLink RX5 91 yX5_clap, Cond.instanceMethod yX5_clap, Cond.selects RX5 yX5_clap yX5_clap]
def wsX6_advise_r4 : List Cond := [Cond.code yX5_clap cX5_clap 6 none, Cond.instanceMethod yX6_touches, Cond.selects RX6 yX6_touches yX6_touches, Cond.code yX6_touches cX6_touches 3 (some .boolean), Cond.fieldLink RX6 20 "EchoCaveModel" "tunnel" "[I", Cond.instanceMethod yX6_isOpen, Cond.selects RX6 yX6_isOpen yX6_isOpen, Cond.code yX6_isOpen cX6_isOpen 3 (some .boolean), Cond.fieldLink RX6 16 "EchoCaveModel" "room" "[I", Cond.methodLink RX5 107 yX5_go, Cond.instanceMethod yX5_go, Cond.selects RX5 yX5_go yX5_go, Cond.code yX5_go cX5_go 8 none, Cond.methodLink RX6 96 yX5_isInOrder, Cond.instanceMethod yX5_isInOrder, Cond.selects RX5 yX5_isInOrder yX5_isInOrder, Cond.code yX5_isInOrder cX5_isInOrder 1 (some .boolean)]
def wsX6_advise : List Cond := .code yX6_advise cX6_advise 7 (some .int) :: ((wsX6_advise_r1 ++ (wsX6_advise_r2 ++ (wsX6_advise_r3 ++ wsX6_advise_r4))) ++ wsX60 ++ wsX50)
def wsX6_longest_r1 : List Cond := [Cond.fieldLink RX6 35 "EchoCaveModel" "thrown" "I", Cond.methodLink RX6 38 yX6_isIn, Cond.static yX6_isIn, Cond.initialized RX6, Cond.code yX6_isIn cX6_isIn 3 (some .boolean), Cond.methodLink RX6 43 yX6_no, Cond.instanceMethod yX6_no, Cond.selects RX6 yX6_no yX6_no, Cond.code yX6_no cX6_no 2 (some .int), Cond.methodLink RX6 111 yX6_comes, Cond.instanceMethod yX6_comes, Cond.selects RX6 yX6_comes yX6_comes, Cond.code yX6_comes cX6_comes 3 (some .boolean), Cond.fieldLink RX6 32 "EchoCaveModel" "ahead" "LEchoCaveModel$Sound;", Cond.methodLink RX6 80 yX5_say, Cond.instanceMethod yX5_say, Cond.selects RX5 yX5_say yX5_say, Cond.initialized RX5, Cond.code yX5_say cX5_say 5 none, Cond.fieldLink RX5 110 "EchoCaveModel$Sound" "word" "I", Cond.fieldLink RX5 113 "EchoCaveModel$Sound" "places" "I", Cond.fieldLink RX5 53 "EchoCaveModel$Sound" "runs" "I", Cond.fieldLink RX5 63 "EchoCaveModel$Sound" "kept" "I", Cond.fieldLink RX5 69 "EchoCaveModel$Sound" "counted" "I"]
def wsX6_longest_r2 : List Cond := [Cond.fieldLink RX5 75 "EchoCaveModel$Sound" "inOrder" "I", Cond.fieldLink RX5 72 "EchoCaveModel$Sound" "latest" "I", Cond.fieldLink RX5 50 "EchoCaveModel$Sound" "waiting" "I", Cond.fieldLink RX5 81 "EchoCaveModel$Sound" "clapped" "I", Cond.fieldLink RX5 19 "EchoCaveModel$Sound" "firsts" "[I", Cond.methodLink RX5 116 Lib.Math.max.name, Cond.static Lib.Math.max.name, Cond.initialized "java/lang/Math", Cond.code Lib.Math.max.name Lib.Math.max.code 2 (some .int), Cond.fieldLink RX5 38 "EchoCaveModel$Sound" "order" "[I", Cond.fieldLink RX5 41 "EchoCaveModel$Sound" "power" "[I", Cond.methodLink RX5 84 yX5_start, Cond.instanceMethod yX5_start, Cond.selects RX5 yX5_start yX5_start, Cond.code yX5_start cX5_start 6 none, Cond.fieldLink RX5 26 "EchoCaveModel$Sound" "place" "[I", Cond.fieldLink RX5 29 "EchoCaveModel$Sound" "syllable" "[I", Cond.fieldLink RX5 32 "EchoCaveModel$Sound" "there" "[I", Cond.fieldLink RX5 35 "EchoCaveModel$Sound" "back" "[I", Cond.methodLink RX5 56 yX5_come, Cond.instanceMethod yX5_come, Cond.selects RX5 yX5_come yX5_come, Cond.code yX5_come cX5_come 8 none, Cond.methodLink RX5 122 yX5_arrive]
def wsX6_longest_r3 : List Cond := [Cond.instanceMethod yX5_arrive, Cond.selects RX5 yX5_arrive yX5_arrive, Cond.code yX5_arrive cX5_arrive 8 none, Cond.fieldLink RX5 3 "EchoCaveModel$Sound" "this$0" "LEchoCaveModel;", Cond.methodLink RX5 87 yX5_hear, Cond.instanceMethod yX5_hear, Cond.selects RX5 yX5_hear yX5_hear, Cond.code yX5_hear cX5_hear 6 none, Cond.fieldLink RX5 23 "EchoCaveModel$Sound" "heard" "[I", Cond.methodLink RX5 91 yX5_clap, Cond.instanceMethod yX5_clap, Cond.selects RX5 yX5_clap yX5_clap, Cond.code yX5_clap cX5_clap 6 none, Cond.fieldLink RX5 15 "EchoCaveModel$Sound" "chamber" "I", Cond.fieldLink RX5 44 "EchoCaveModel$Sound" "with" "I", Cond.fieldLink RX5 47 "EchoCaveModel$Sound" "late" "I", Cond.instanceMethod yX6_touches, Cond.selects RX6 yX6_touches yX6_touches, Cond.code yX6_touches cX6_touches 3 (some .boolean), Cond.fieldLink RX6 20 "EchoCaveModel" "tunnel" "[I", Cond.instanceMethod yX6_isOpen, Cond.selects RX6 yX6_isOpen yX6_isOpen, Cond.code yX6_isOpen cX6_isOpen 3 (some .boolean), Cond.fieldLink RX6 16 "EchoCaveModel" "room" "[I"]
def wsX6_longest_r4 : List Cond := [Cond.methodLink RX5 107 yX5_go, Cond.instanceMethod yX5_go, Cond.selects RX5 yX5_go yX5_go, Cond.code yX5_go cX5_go 8 none, Cond.methodLink RX6 96 yX5_isInOrder, Cond.instanceMethod yX5_isInOrder, Cond.selects RX5 yX5_isInOrder yX5_isInOrder, Cond.code yX5_isInOrder cX5_isInOrder 1 (some .boolean)]
def wsX6_longest : List Cond := .code yX6_longest cX6_longest 6 (some .int) :: ((wsX6_longest_r1 ++ (wsX6_longest_r2 ++ (wsX6_longest_r3 ++ wsX6_longest_r4))) ++ wsX60 ++ wsX50)
def wsX6_quickest_r1 : List Cond := [Cond.fieldLink RX6 35 "EchoCaveModel" "thrown" "I", Cond.methodLink RX6 77 yX6_isWord, Cond.static yX6_isWord, Cond.initialized RX6, Cond.code yX6_isWord cX6_isWord 3 (some .boolean), Cond.constant RX6 42 (999999), Cond.methodLink RX6 38 yX6_isIn, Cond.static yX6_isIn, Cond.code yX6_isIn cX6_isIn 3 (some .boolean), Cond.methodLink RX6 43 yX6_no, Cond.instanceMethod yX6_no, Cond.selects RX6 yX6_no yX6_no, Cond.code yX6_no cX6_no 2 (some .int), Cond.methodLink RX6 111 yX6_comes, Cond.instanceMethod yX6_comes, Cond.selects RX6 yX6_comes yX6_comes, Cond.code yX6_comes cX6_comes 3 (some .boolean), Cond.fieldLink RX6 32 "EchoCaveModel" "ahead" "LEchoCaveModel$Sound;", Cond.methodLink RX6 80 yX5_say, Cond.instanceMethod yX5_say, Cond.selects RX5 yX5_say yX5_say, Cond.initialized RX5, Cond.code yX5_say cX5_say 5 none, Cond.fieldLink RX5 110 "EchoCaveModel$Sound" "word" "I"]
def wsX6_quickest_r2 : List Cond := [Cond.fieldLink RX5 113 "EchoCaveModel$Sound" "places" "I", Cond.fieldLink RX5 53 "EchoCaveModel$Sound" "runs" "I", Cond.fieldLink RX5 63 "EchoCaveModel$Sound" "kept" "I", Cond.fieldLink RX5 69 "EchoCaveModel$Sound" "counted" "I", Cond.fieldLink RX5 75 "EchoCaveModel$Sound" "inOrder" "I", Cond.fieldLink RX5 72 "EchoCaveModel$Sound" "latest" "I", Cond.fieldLink RX5 50 "EchoCaveModel$Sound" "waiting" "I", Cond.fieldLink RX5 81 "EchoCaveModel$Sound" "clapped" "I", Cond.fieldLink RX5 19 "EchoCaveModel$Sound" "firsts" "[I", Cond.methodLink RX5 116 Lib.Math.max.name, Cond.static Lib.Math.max.name, Cond.initialized "java/lang/Math", Cond.code Lib.Math.max.name Lib.Math.max.code 2 (some .int), Cond.fieldLink RX5 38 "EchoCaveModel$Sound" "order" "[I", Cond.fieldLink RX5 41 "EchoCaveModel$Sound" "power" "[I", Cond.methodLink RX5 84 yX5_start, Cond.instanceMethod yX5_start, Cond.selects RX5 yX5_start yX5_start, Cond.code yX5_start cX5_start 6 none, Cond.fieldLink RX5 26 "EchoCaveModel$Sound" "place" "[I", Cond.fieldLink RX5 29 "EchoCaveModel$Sound" "syllable" "[I", Cond.fieldLink RX5 32 "EchoCaveModel$Sound" "there" "[I", Cond.fieldLink RX5 35 "EchoCaveModel$Sound" "back" "[I", Cond.methodLink RX5 56 yX5_come]
def wsX6_quickest_r3 : List Cond := [Cond.instanceMethod yX5_come, Cond.selects RX5 yX5_come yX5_come, Cond.code yX5_come cX5_come 8 none, Cond.methodLink RX5 122 yX5_arrive, Cond.instanceMethod yX5_arrive, Cond.selects RX5 yX5_arrive yX5_arrive, Cond.code yX5_arrive cX5_arrive 8 none, Cond.fieldLink RX5 3 "EchoCaveModel$Sound" "this$0" "LEchoCaveModel;", Cond.methodLink RX5 87 yX5_hear, Cond.instanceMethod yX5_hear, Cond.selects RX5 yX5_hear yX5_hear, Cond.code yX5_hear cX5_hear 6 none, Cond.fieldLink RX5 23 "EchoCaveModel$Sound" "heard" "[I", Cond.methodLink RX5 91 yX5_clap, Cond.instanceMethod yX5_clap, Cond.selects RX5 yX5_clap yX5_clap, Cond.code yX5_clap cX5_clap 6 none, Cond.fieldLink RX5 15 "EchoCaveModel$Sound" "chamber" "I", Cond.fieldLink RX5 44 "EchoCaveModel$Sound" "with" "I", Cond.fieldLink RX5 47 "EchoCaveModel$Sound" "late" "I", Cond.instanceMethod yX6_touches, Cond.selects RX6 yX6_touches yX6_touches, Cond.code yX6_touches cX6_touches 3 (some .boolean), Cond.fieldLink RX6 20 "EchoCaveModel" "tunnel" "[I"]
def wsX6_quickest_r4 : List Cond := [Cond.instanceMethod yX6_isOpen, Cond.selects RX6 yX6_isOpen yX6_isOpen, Cond.code yX6_isOpen cX6_isOpen 3 (some .boolean), Cond.fieldLink RX6 16 "EchoCaveModel" "room" "[I", Cond.methodLink RX5 107 yX5_go, Cond.instanceMethod yX5_go, Cond.selects RX5 yX5_go yX5_go, Cond.code yX5_go cX5_go 8 none, Cond.methodLink RX6 96 yX5_isInOrder, Cond.instanceMethod yX5_isInOrder, Cond.selects RX5 yX5_isInOrder yX5_isInOrder, Cond.code yX5_isInOrder cX5_isInOrder 1 (some .boolean)]
def wsX6_quickest : List Cond := .code yX6_quickest cX6_quickest 3 (some .int) :: ((wsX6_quickest_r1 ++ (wsX6_quickest_r2 ++ (wsX6_quickest_r3 ++ wsX6_quickest_r4))) ++ wsX60 ++ wsX50)
def wsX6_shortest : List Cond := .code yX6_shortest cX6_shortest 10 (some .int) :: ([.arrayClass .int, .fieldLink RX6 9 "EchoCaveModel" "chambers" "I", .fieldLink RX6 57 "EchoCaveModel" "passages" "I", .fieldLink RX6 20 "EchoCaveModel" "tunnel" "[I", .methodLink RX6 124 Lib.Math.min.name, .static Lib.Math.min.name, .initialized "java/lang/Math", .code Lib.Math.min.name Lib.Math.min.code 2 (some .int), .methodLink RX6 67 yX6_isOpen, .instanceMethod yX6_isOpen, .selects RX6 yX6_isOpen yX6_isOpen, .initialized RX6, .code yX6_isOpen cX6_isOpen 3 (some .boolean), .fieldLink RX6 16 "EchoCaveModel" "room" "[I"] ++ wsX60)
def wsX6_way_r1 : List Cond := [Cond.fieldLink RX6 35 "EchoCaveModel" "thrown" "I", Cond.fieldLink RX6 60 "EchoCaveModel" "water" "I", Cond.methodLink RX6 53 yX6_isChamber, Cond.instanceMethod yX6_isChamber, Cond.selects RX6 yX6_isChamber yX6_isChamber, Cond.initialized RX6, Cond.code yX6_isChamber cX6_isChamber 2 (some .boolean), Cond.fieldLink RX6 9 "EchoCaveModel" "chambers" "I", Cond.methodLink RX6 38 yX6_isIn, Cond.static yX6_isIn, Cond.code yX6_isIn cX6_isIn 3 (some .boolean), Cond.methodLink RX6 129 yX6_shortest, Cond.instanceMethod yX6_shortest, Cond.selects RX6 yX6_shortest yX6_shortest, Cond.code yX6_shortest cX6_shortest 10 (some .int), Cond.arrayClass .int, Cond.fieldLink RX6 57 "EchoCaveModel" "passages" "I", Cond.fieldLink RX6 20 "EchoCaveModel" "tunnel" "[I", Cond.methodLink RX6 124 Lib.Math.min.name, Cond.static Lib.Math.min.name, Cond.initialized "java/lang/Math", Cond.code Lib.Math.min.name Lib.Math.min.code 2 (some .int), Cond.methodLink RX6 67 yX6_isOpen, Cond.instanceMethod yX6_isOpen]
def wsX6_way_r2 : List Cond := [Cond.selects RX6 yX6_isOpen yX6_isOpen, Cond.code yX6_isOpen cX6_isOpen 3 (some .boolean), Cond.fieldLink RX6 16 "EchoCaveModel" "room" "[I", Cond.methodLink RX6 43 yX6_no, Cond.instanceMethod yX6_no, Cond.selects RX6 yX6_no yX6_no, Cond.code yX6_no cX6_no 2 (some .int)]
def wsX6_way : List Cond := .code yX6_way cX6_way 3 (some .int) :: ((wsX6_way_r1 ++ wsX6_way_r2) ++ wsX60)
def wsX6_highest_r1 : List Cond := [Cond.fieldLink RX6 35 "EchoCaveModel" "thrown" "I", Cond.methodLink RX6 53 yX6_isChamber, Cond.instanceMethod yX6_isChamber, Cond.selects RX6 yX6_isChamber yX6_isChamber, Cond.initialized RX6, Cond.code yX6_isChamber cX6_isChamber 2 (some .boolean), Cond.fieldLink RX6 9 "EchoCaveModel" "chambers" "I", Cond.methodLink RX6 38 yX6_isIn, Cond.static yX6_isIn, Cond.code yX6_isIn cX6_isIn 3 (some .boolean), Cond.methodLink RX6 43 yX6_no, Cond.instanceMethod yX6_no, Cond.selects RX6 yX6_no yX6_no, Cond.code yX6_no cX6_no 2 (some .int), Cond.methodLink RX6 129 yX6_shortest, Cond.instanceMethod yX6_shortest, Cond.selects RX6 yX6_shortest yX6_shortest, Cond.code yX6_shortest cX6_shortest 10 (some .int), Cond.arrayClass .int, Cond.fieldLink RX6 57 "EchoCaveModel" "passages" "I", Cond.fieldLink RX6 20 "EchoCaveModel" "tunnel" "[I", Cond.methodLink RX6 124 Lib.Math.min.name, Cond.static Lib.Math.min.name, Cond.initialized "java/lang/Math"]
def wsX6_highest_r2 : List Cond := [Cond.code Lib.Math.min.name Lib.Math.min.code 2 (some .int), Cond.methodLink RX6 67 yX6_isOpen, Cond.instanceMethod yX6_isOpen, Cond.selects RX6 yX6_isOpen yX6_isOpen, Cond.code yX6_isOpen cX6_isOpen 3 (some .boolean), Cond.fieldLink RX6 16 "EchoCaveModel" "room" "[I"]
def wsX6_highest : List Cond := .code yX6_highest cX6_highest 3 (some .int) :: ((wsX6_highest_r1 ++ wsX6_highest_r2) ++ wsX60)
def wsX6_mean : List Cond := .code yX6_mean cX6_mean 3 (some .double) :: ([.fieldLink RX6 35 "EchoCaveModel" "thrown" "I", .fieldLink RX6 28 "EchoCaveModel" "s" "LEchoCaveModel$Sound;"] ++ wsX60 ++ wsX50)
def wsX6_digest_r1 : List Cond := [Cond.fieldLink RX6 35 "EchoCaveModel" "thrown" "I", Cond.constantLong RX6 133 (691), Cond.constantLong RX6 135 (31), Cond.fieldLink RX6 9 "EchoCaveModel" "chambers" "I", Cond.fieldLink RX6 57 "EchoCaveModel" "passages" "I", Cond.fieldLink RX6 28 "EchoCaveModel" "s" "LEchoCaveModel$Sound;", Cond.methodLink RX6 109 yX6_counted, Cond.instanceMethod yX6_counted, Cond.selects RX6 yX6_counted yX6_counted, Cond.initialized RX6, Cond.code yX6_counted cX6_counted 4 (some .int), Cond.fieldLink RX6 60 "EchoCaveModel" "water" "I", Cond.fieldLink RX6 16 "EchoCaveModel" "room" "[I", Cond.fieldLink RX6 13 "EchoCaveModel" "ear" "I", Cond.fieldLink RX6 84 "EchoCaveModel" "said" "I", Cond.methodLink RX6 67 yX6_isOpen, Cond.instanceMethod yX6_isOpen, Cond.selects RX6 yX6_isOpen yX6_isOpen, Cond.code yX6_isOpen cX6_isOpen 3 (some .boolean), Cond.fieldLink RX6 20 "EchoCaveModel" "tunnel" "[I", Cond.methodLink RX6 70 yX6_chamberTold, Cond.instanceMethod yX6_chamberTold, Cond.selects RX6 yX6_chamberTold yX6_chamberTold, Cond.code yX6_chamberTold cX6_chamberTold 5 (some .int)]
def wsX6_digest_r2 : List Cond := [Cond.methodLink RX6 63 yX6_touches, Cond.instanceMethod yX6_touches, Cond.selects RX6 yX6_touches yX6_touches, Cond.code yX6_touches cX6_touches 3 (some .boolean), Cond.methodLink RX6 74 yX6_passageTold, Cond.instanceMethod yX6_passageTold, Cond.selects RX6 yX6_passageTold yX6_passageTold, Cond.code yX6_passageTold cX6_passageTold 3 (some .int), Cond.methodLink RX6 96 yX5_isInOrder, Cond.instanceMethod yX5_isInOrder, Cond.selects RX5 yX5_isInOrder yX5_isInOrder, Cond.initialized RX5, Cond.code yX5_isInOrder cX5_isInOrder 1 (some .boolean), Cond.fieldLink RX5 113 "EchoCaveModel$Sound" "places" "I", Cond.fieldLink RX5 75 "EchoCaveModel$Sound" "inOrder" "I"]
def wsX6_digest : List Cond := .code yX6_digest cX6_digest 5 (some .long) :: ((wsX6_digest_r1 ++ wsX6_digest_r2) ++ wsX60 ++ wsX50)
def wsJ9_max_7cf53 : List Cond := .code yJ9_max_7cf53 cJ9_max_7cf53 2 (some .int) :: ([])
def wsJ9_min_7cf53 : List Cond := .code yJ9_min_7cf53 cJ9_min_7cf53 2 (some .int) :: ([])
def wsL_addChamber_r1 : List Cond := [Cond.classLink RL 13 "java/lang/IllegalArgumentException", Cond.classLink RL 15 "java/lang/IllegalStateException", Cond.methodLink RL 7 yX4_addChamber, Cond.instanceMethod yX4_addChamber, Cond.selects RX4 yX4_addChamber yX4_addChamber, Cond.initialized RX4, Cond.code yX4_addChamber cX4_addChamber 4 (some .int), Cond.classLink RX4 56 "java/lang/IllegalStateException", Cond.initialized "java/lang/IllegalStateException", Cond.fieldLink RX4 12 "EchoCave" "cave" "LEchoCave$Cave;", Cond.methodLink RX4 45 yX4_isWithin, Cond.static yX4_isWithin, Cond.code yX4_isWithin cX4_isWithin 3 (some .boolean), Cond.methodLink RX4 49 yX4_requireArgument, Cond.static yX4_requireArgument, Cond.code yX4_requireArgument cX4_requireArgument 1 none, Cond.classLink RX4 181 "java/lang/IllegalArgumentException", Cond.initialized "java/lang/IllegalArgumentException", Cond.methodLink RX4 63 yX0_findChamber, Cond.instanceMethod yX0_findChamber, Cond.selects RX0 yX0_findChamber yX0_findChamber, Cond.initialized RX0, Cond.code yX0_findChamber cX0_findChamber 5 (some .int), Cond.fieldLink RX0 50 "EchoCave$Cave" "chambers" "I"]
def wsL_addChamber_r2 : List Cond := [Cond.fieldLink RX0 9 "EchoCave$Cave" "wall" "[I", Cond.fieldLink RX0 15 "EchoCave$Cave" "height" "[I", Cond.fieldLink RX0 18 "EchoCave$Cave" "bats" "[I"]
def wsL_addChamber : List Cond := .codeWith yL_addChamber cL_addChamber 6 (some .int) [(0, 12, 15, 13), (0, 12, 19, 15)] :: ((wsL_addChamber_r1 ++ wsL_addChamber_r2) ++ wsX40 ++ wsX00 ++ (vx_atS RX4 60 "java/lang/IllegalStateException" ["java/lang/RuntimeException", "java/lang/Exception"]).filter goodWord ++ (vx_atS RX4 185 "java/lang/IllegalArgumentException" ["java/lang/RuntimeException", "java/lang/Exception"]).filter goodWord)
def wsL_addPassage_r1 : List Cond := [Cond.classLink RL 21 "java/lang/IndexOutOfBoundsException", Cond.classLink RL 13 "java/lang/IllegalArgumentException", Cond.classLink RL 15 "java/lang/IllegalStateException", Cond.methodLink RL 17 yX4_addPassage, Cond.instanceMethod yX4_addPassage, Cond.selects RX4 yX4_addPassage yX4_addPassage, Cond.initialized RX4, Cond.code yX4_addPassage cX4_addPassage 5 (some .int), Cond.classLink RX4 56 "java/lang/IllegalStateException", Cond.initialized "java/lang/IllegalStateException", Cond.fieldLink RX4 12 "EchoCave" "cave" "LEchoCave$Cave;", Cond.methodLink RX4 67 yX0_hasChamber, Cond.instanceMethod yX0_hasChamber, Cond.selects RX0 yX0_hasChamber yX0_hasChamber, Cond.initialized RX0, Cond.code yX0_hasChamber cX0_hasChamber 2 (some .boolean), Cond.fieldLink RX0 50 "EchoCave$Cave" "chambers" "I", Cond.static yX4_isWithin, Cond.code yX4_isWithin cX4_isWithin 3 (some .boolean), Cond.methodLink RX4 71 yX4_requireIndex, Cond.static yX4_requireIndex, Cond.code yX4_requireIndex cX4_requireIndex 1 none, Cond.classLink RX4 176 "java/lang/IndexOutOfBoundsException", Cond.initialized "java/lang/IndexOutOfBoundsException"]
def wsL_addPassage_r2 : List Cond := [Cond.methodLink RX4 49 yX4_requireArgument, Cond.static yX4_requireArgument, Cond.code yX4_requireArgument cX4_requireArgument 1 none, Cond.classLink RX4 181 "java/lang/IllegalArgumentException", Cond.initialized "java/lang/IllegalArgumentException", Cond.methodLink RX4 45 yX4_isWithin, Cond.methodLink RX4 79 yX0_findPassage, Cond.instanceMethod yX0_findPassage, Cond.selects RX0 yX0_findPassage yX0_findPassage, Cond.code yX0_findPassage cX0_findPassage 6 (some .int), Cond.fieldLink RX0 54 "EchoCave$Cave" "passages" "I", Cond.fieldLink RX0 35 "EchoCave$Cave" "from" "[I", Cond.fieldLink RX0 38 "EchoCave$Cave" "to" "[I", Cond.fieldLink RX0 41 "EchoCave$Cave" "length" "[I", Cond.fieldLink RX0 44 "EchoCave$Cave" "narrow" "[I", Cond.methodLink RX0 64 yX0_addDoor, Cond.instanceMethod yX0_addDoor, Cond.selects RX0 yX0_addDoor yX0_addDoor, Cond.code yX0_addDoor cX0_addDoor 3 none, Cond.fieldLink RX0 32 "EchoCave$Cave" "passageBehind" "[[I", Cond.fieldLink RX0 27 "EchoCave$Cave" "doors" "[I"]
def wsL_addPassage : List Cond := .codeWith yL_addPassage cL_addPassage 7 (some .int) [(0, 14, 17, 21), (0, 14, 21, 13), (0, 14, 25, 15)] :: ((wsL_addPassage_r1 ++ wsL_addPassage_r2) ++ wsX40 ++ wsX00 ++ (vx_atS RX4 60 "java/lang/IllegalStateException" ["java/lang/RuntimeException", "java/lang/Exception"]).filter goodWord ++ (vx_atS RX4 180 "java/lang/IndexOutOfBoundsException" ["java/lang/RuntimeException", "java/lang/Exception"]).filter goodWord ++ (vx_atS RX4 185 "java/lang/IllegalArgumentException" ["java/lang/RuntimeException", "java/lang/Exception"]).filter goodWord)
def wsL_setWater : List Cond := .codeWith yL_setWater cL_setWater 4 (some .int) [(0, 9, 12, 13)] :: ([.classLink RL 13 "java/lang/IllegalArgumentException", .methodLink RL 23 yX4_setWater, .instanceMethod yX4_setWater, .selects RX4 yX4_setWater yX4_setWater, .initialized RX4, .code yX4_setWater cX4_setWater 3 (some .int), .fieldLink RX4 12 "EchoCave" "cave" "LEchoCave$Cave;", .methodLink RX4 45 yX4_isWithin, .static yX4_isWithin, .code yX4_isWithin cX4_isWithin 3 (some .boolean), .methodLink RX4 49 yX4_requireArgument, .static yX4_requireArgument, .code yX4_requireArgument cX4_requireArgument 1 none, .classLink RX4 181 "java/lang/IllegalArgumentException", .initialized "java/lang/IllegalArgumentException"] ++ wsX40 ++ wsX00 ++ (vx_atS RX4 185 "java/lang/IllegalArgumentException" ["java/lang/RuntimeException", "java/lang/Exception"]).filter goodWord)
def wsL_setBats_r1 : List Cond := [Cond.classLink RL 21 "java/lang/IndexOutOfBoundsException", Cond.classLink RL 13 "java/lang/IllegalArgumentException", Cond.methodLink RL 27 yX4_setBats, Cond.instanceMethod yX4_setBats, Cond.selects RX4 yX4_setBats yX4_setBats, Cond.initialized RX4, Cond.code yX4_setBats cX4_setBats 4 (some .int), Cond.fieldLink RX4 12 "EchoCave" "cave" "LEchoCave$Cave;", Cond.methodLink RX4 67 yX0_hasChamber, Cond.instanceMethod yX0_hasChamber, Cond.selects RX0 yX0_hasChamber yX0_hasChamber, Cond.initialized RX0, Cond.code yX0_hasChamber cX0_hasChamber 2 (some .boolean), Cond.fieldLink RX0 50 "EchoCave$Cave" "chambers" "I", Cond.static yX4_isWithin, Cond.code yX4_isWithin cX4_isWithin 3 (some .boolean), Cond.methodLink RX4 71 yX4_requireIndex, Cond.static yX4_requireIndex, Cond.code yX4_requireIndex cX4_requireIndex 1 none, Cond.classLink RX4 176 "java/lang/IndexOutOfBoundsException", Cond.initialized "java/lang/IndexOutOfBoundsException", Cond.methodLink RX4 45 yX4_isWithin, Cond.methodLink RX4 49 yX4_requireArgument, Cond.static yX4_requireArgument]
def wsL_setBats_r2 : List Cond := [Cond.code yX4_requireArgument cX4_requireArgument 1 none, Cond.classLink RX4 181 "java/lang/IllegalArgumentException", Cond.initialized "java/lang/IllegalArgumentException"]
def wsL_setBats : List Cond := .codeWith yL_setBats cL_setBats 5 (some .int) [(0, 10, 13, 21), (0, 10, 17, 13)] :: ((wsL_setBats_r1 ++ wsL_setBats_r2) ++ wsX40 ++ wsX00 ++ (vx_atS RX4 180 "java/lang/IndexOutOfBoundsException" ["java/lang/RuntimeException", "java/lang/Exception"]).filter goodWord ++ (vx_atS RX4 185 "java/lang/IllegalArgumentException" ["java/lang/RuntimeException", "java/lang/Exception"]).filter goodWord)
def wsL_setClapper_r1 : List Cond := [Cond.classLink RL 21 "java/lang/IndexOutOfBoundsException", Cond.classLink RL 13 "java/lang/IllegalArgumentException", Cond.methodLink RL 31 yX4_setClapper, Cond.instanceMethod yX4_setClapper, Cond.selects RX4 yX4_setClapper yX4_setClapper, Cond.initialized RX4, Cond.code yX4_setClapper cX4_setClapper 5 (some .int), Cond.fieldLink RX4 12 "EchoCave" "cave" "LEchoCave$Cave;", Cond.methodLink RX4 67 yX0_hasChamber, Cond.instanceMethod yX0_hasChamber, Cond.selects RX0 yX0_hasChamber yX0_hasChamber, Cond.initialized RX0, Cond.code yX0_hasChamber cX0_hasChamber 2 (some .boolean), Cond.fieldLink RX0 50 "EchoCave$Cave" "chambers" "I", Cond.static yX4_isWithin, Cond.code yX4_isWithin cX4_isWithin 3 (some .boolean), Cond.methodLink RX4 71 yX4_requireIndex, Cond.static yX4_requireIndex, Cond.code yX4_requireIndex cX4_requireIndex 1 none, Cond.classLink RX4 176 "java/lang/IndexOutOfBoundsException", Cond.initialized "java/lang/IndexOutOfBoundsException", Cond.methodLink RX4 49 yX4_requireArgument, Cond.static yX4_requireArgument, Cond.code yX4_requireArgument cX4_requireArgument 1 none]
def wsL_setClapper_r2 : List Cond := [Cond.classLink RX4 181 "java/lang/IllegalArgumentException", Cond.initialized "java/lang/IllegalArgumentException", Cond.methodLink RX4 45 yX4_isWithin, Cond.methodLink RX4 93 yX0_putClapper, Cond.instanceMethod yX0_putClapper, Cond.selects RX0 yX0_putClapper yX0_putClapper, Cond.code yX0_putClapper cX0_putClapper 4 none, Cond.fieldLink RX0 21 "EchoCave$Cave" "syllable" "[I", Cond.fieldLink RX0 24 "EchoCave$Cave" "delay" "[I"]
def wsL_setClapper : List Cond := .codeWith yL_setClapper cL_setClapper 6 (some .int) [(0, 12, 15, 21), (0, 12, 19, 13)] :: ((wsL_setClapper_r1 ++ wsL_setClapper_r2) ++ wsX40 ++ wsX00 ++ (vx_atS RX4 180 "java/lang/IndexOutOfBoundsException" ["java/lang/RuntimeException", "java/lang/Exception"]).filter goodWord ++ (vx_atS RX4 185 "java/lang/IllegalArgumentException" ["java/lang/RuntimeException", "java/lang/Exception"]).filter goodWord)
def wsL_setEar : List Cond := .codeWith yL_setEar cL_setEar 4 (some .int) [(0, 9, 12, 13)] :: ([.classLink RL 13 "java/lang/IllegalArgumentException", .methodLink RL 34 yX4_setEar, .instanceMethod yX4_setEar, .selects RX4 yX4_setEar yX4_setEar, .initialized RX4, .code yX4_setEar cX4_setEar 3 (some .int), .fieldLink RX4 35 "EchoCave" "ear" "I", .methodLink RX4 45 yX4_isWithin, .static yX4_isWithin, .code yX4_isWithin cX4_isWithin 3 (some .boolean), .methodLink RX4 49 yX4_requireArgument, .static yX4_requireArgument, .code yX4_requireArgument cX4_requireArgument 1 none, .classLink RX4 181 "java/lang/IllegalArgumentException", .initialized "java/lang/IllegalArgumentException"] ++ wsX40 ++ (vx_atS RX4 185 "java/lang/IllegalArgumentException" ["java/lang/RuntimeException", "java/lang/Exception"]).filter goodWord)
def wsL_chamber_r1 : List Cond := [Cond.classLink RL 21 "java/lang/IndexOutOfBoundsException", Cond.methodLink RL 37 yX4_chamber, Cond.instanceMethod yX4_chamber, Cond.selects RX4 yX4_chamber yX4_chamber, Cond.initialized RX4, Cond.code yX4_chamber cX4_chamber 3 (some .int), Cond.fieldLink RX4 12 "EchoCave" "cave" "LEchoCave$Cave;", Cond.methodLink RX4 67 yX0_hasChamber, Cond.instanceMethod yX0_hasChamber, Cond.selects RX0 yX0_hasChamber yX0_hasChamber, Cond.initialized RX0, Cond.code yX0_hasChamber cX0_hasChamber 2 (some .boolean), Cond.fieldLink RX0 50 "EchoCave$Cave" "chambers" "I", Cond.static yX4_isWithin, Cond.code yX4_isWithin cX4_isWithin 3 (some .boolean), Cond.methodLink RX4 71 yX4_requireIndex, Cond.static yX4_requireIndex, Cond.code yX4_requireIndex cX4_requireIndex 1 none, Cond.classLink RX4 176 "java/lang/IndexOutOfBoundsException", Cond.initialized "java/lang/IndexOutOfBoundsException", Cond.methodLink RX4 45 yX4_isWithin, Cond.methodLink RX4 97 yX0_chamberFact, Cond.instanceMethod yX0_chamberFact, Cond.selects RX0 yX0_chamberFact yX0_chamberFact]
def wsL_chamber_r2 : List Cond := [Cond.code yX0_chamberFact cX0_chamberFact 3 (some .int), Cond.fieldLink RX0 9 "EchoCave$Cave" "wall" "[I", Cond.fieldLink RX0 15 "EchoCave$Cave" "height" "[I", Cond.fieldLink RX0 18 "EchoCave$Cave" "bats" "[I", Cond.fieldLink RX0 21 "EchoCave$Cave" "syllable" "[I", Cond.fieldLink RX0 24 "EchoCave$Cave" "delay" "[I", Cond.fieldLink RX0 27 "EchoCave$Cave" "doors" "[I", Cond.methodLink RX0 72 yX0_openDoors, Cond.instanceMethod yX0_openDoors, Cond.selects RX0 yX0_openDoors yX0_openDoors, Cond.code yX0_openDoors cX0_openDoors 4 (some .int), Cond.fieldLink RX0 32 "EchoCave$Cave" "passageBehind" "[[I", Cond.methodLink RX0 68 yX0_isOpen, Cond.instanceMethod yX0_isOpen, Cond.selects RX0 yX0_isOpen yX0_isOpen, Cond.code yX0_isOpen cX0_isOpen 2 (some .boolean), Cond.fieldLink RX0 35 "EchoCave$Cave" "from" "[I", Cond.fieldLink RX0 57 "EchoCave$Cave" "water" "I", Cond.fieldLink RX0 38 "EchoCave$Cave" "to" "[I"]
def wsL_chamber : List Cond := .codeWith yL_chamber cL_chamber 5 (some .int) [(0, 10, 13, 21)] :: ((wsL_chamber_r1 ++ wsL_chamber_r2) ++ wsX40 ++ wsX00 ++ (vx_atS RX4 180 "java/lang/IndexOutOfBoundsException" ["java/lang/RuntimeException", "java/lang/Exception"]).filter goodWord)
def wsL_passage_r1 : List Cond := [Cond.classLink RL 21 "java/lang/IndexOutOfBoundsException", Cond.methodLink RL 40 yX4_passage, Cond.instanceMethod yX4_passage, Cond.selects RX4 yX4_passage yX4_passage, Cond.initialized RX4, Cond.code yX4_passage cX4_passage 3 (some .int), Cond.fieldLink RX4 12 "EchoCave" "cave" "LEchoCave$Cave;", Cond.methodLink RX4 101 yX0_hasPassage, Cond.instanceMethod yX0_hasPassage, Cond.selects RX0 yX0_hasPassage yX0_hasPassage, Cond.initialized RX0, Cond.code yX0_hasPassage cX0_hasPassage 2 (some .boolean), Cond.fieldLink RX0 54 "EchoCave$Cave" "passages" "I", Cond.static yX4_isWithin, Cond.code yX4_isWithin cX4_isWithin 3 (some .boolean), Cond.methodLink RX4 71 yX4_requireIndex, Cond.static yX4_requireIndex, Cond.code yX4_requireIndex cX4_requireIndex 1 none, Cond.classLink RX4 176 "java/lang/IndexOutOfBoundsException", Cond.initialized "java/lang/IndexOutOfBoundsException", Cond.methodLink RX4 45 yX4_isWithin, Cond.methodLink RX4 104 yX0_passageFact, Cond.instanceMethod yX0_passageFact, Cond.selects RX0 yX0_passageFact yX0_passageFact]
def wsL_passage_r2 : List Cond := [Cond.code yX0_passageFact cX0_passageFact 3 (some .int), Cond.fieldLink RX0 35 "EchoCave$Cave" "from" "[I", Cond.fieldLink RX0 38 "EchoCave$Cave" "to" "[I", Cond.fieldLink RX0 41 "EchoCave$Cave" "length" "[I", Cond.fieldLink RX0 44 "EchoCave$Cave" "narrow" "[I", Cond.methodLink RX0 68 yX0_isOpen, Cond.instanceMethod yX0_isOpen, Cond.selects RX0 yX0_isOpen yX0_isOpen, Cond.code yX0_isOpen cX0_isOpen 2 (some .boolean), Cond.fieldLink RX0 15 "EchoCave$Cave" "height" "[I", Cond.fieldLink RX0 57 "EchoCave$Cave" "water" "I"]
def wsL_passage : List Cond := .codeWith yL_passage cL_passage 5 (some .int) [(0, 10, 13, 21)] :: ((wsL_passage_r1 ++ wsL_passage_r2) ++ wsX40 ++ wsX00 ++ (vx_atS RX4 180 "java/lang/IndexOutOfBoundsException" ["java/lang/RuntimeException", "java/lang/Exception"]).filter goodWord)
def wsL_say_r1 : List Cond := [Cond.classLink RL 13 "java/lang/IllegalArgumentException", Cond.methodLink RL 43 yX4_say, Cond.instanceMethod yX4_say, Cond.selects RX4 yX4_say yX4_say, Cond.initialized RX4, Cond.code yX4_say cX4_say 3 (some .int), Cond.fieldLink RX4 21 "EchoCave" "sound" "LEchoCave$Sound;", Cond.fieldLink RX4 35 "EchoCave" "ear" "I", Cond.fieldLink RX4 28 "EchoCave" "latest" "LEchoCave$Echo;", Cond.fieldLink RX4 39 "EchoCave" "wordsSaid" "I", Cond.fieldLink RX4 42 "EchoCave" "latestWord" "I", Cond.methodLink RX4 107 yX4_requireWordAndBeat, Cond.static yX4_requireWordAndBeat, Cond.code yX4_requireWordAndBeat cX4_requireWordAndBeat 2 none, Cond.methodLink RX4 151 yX4_isWord, Cond.static yX4_isWord, Cond.code yX4_isWord cX4_isWord 2 (some .boolean), Cond.constant RX4 175 (999999), Cond.methodLink RX4 45 yX4_isWithin, Cond.static yX4_isWithin, Cond.code yX4_isWithin cX4_isWithin 3 (some .boolean), Cond.methodLink RX4 49 yX4_requireArgument, Cond.static yX4_requireArgument, Cond.code yX4_requireArgument cX4_requireArgument 1 none]
def wsL_say_r2 : List Cond := [Cond.classLink RX4 181 "java/lang/IllegalArgumentException", Cond.initialized "java/lang/IllegalArgumentException", Cond.methodLink RX4 111 yX3_runThrough, Cond.instanceMethod yX3_runThrough, Cond.selects RX3 yX3_runThrough yX3_runThrough, Cond.initialized RX3, Cond.code yX3_runThrough cX3_runThrough 7 none, Cond.fieldLink RX3 18 "EchoCave$Sound" "comings" "LEchoCave$Comings;", Cond.static yX4_placesOf, Cond.code yX4_placesOf cX4_placesOf 3 (some .int), Cond.methodLink RX3 44 yX2_begin, Cond.instanceMethod yX2_begin, Cond.selects RX2 yX2_begin yX2_begin, Cond.initialized RX2, Cond.code yX2_begin cX2_begin 3 none, Cond.fieldLink RX2 18 "EchoCave$Echo" "places" "I", Cond.fieldLink RX2 22 "EchoCave$Echo" "ear" "I", Cond.fieldLink RX2 25 "EchoCave$Echo" "kept" "I", Cond.fieldLink RX2 28 "EchoCave$Echo" "counted" "I", Cond.fieldLink RX2 31 "EchoCave$Echo" "placesInOrder" "I", Cond.fieldLink RX2 34 "EchoCave$Echo" "lastTime" "I", Cond.fieldLink RX2 15 "EchoCave$Echo" "firstTime" "[I", Cond.methodLink RX2 37 yJ7_fill_53178, Cond.static yJ7_fill_53178]
def wsL_say_r3 : List Cond := [Cond.initialized RJ7, Cond.code yJ7_fill_53178 cJ7_fill_53178 4 none, Cond.methodLink RX3 50 yX3_begin, Cond.instanceMethod yX3_begin, Cond.selects RX3 yX3_begin yX3_begin, Cond.code yX3_begin cX3_begin 6 none, Cond.fieldLink RX3 33 "EchoCave$Sound" "runs" "I", Cond.fieldLink RX3 37 "EchoCave$Sound" "clappersSetOff" "I", Cond.methodLink RX3 65 yX1_clear, Cond.instanceMethod yX1_clear, Cond.selects RX1 yX1_clear yX1_clear, Cond.initialized RX1, Cond.code yX1_clear cX1_clear 1 none, Cond.fieldLink RX1 15 "EchoCave$Comings" "size" "I", Cond.methodLink RX3 68 yX3_startRun, Cond.instanceMethod yX3_startRun, Cond.selects RX3 yX3_startRun yX3_startRun, Cond.code yX3_startRun cX3_startRun 6 none, Cond.fieldLink RX3 22 "EchoCave$Sound" "syllable" "[I", Cond.fieldLink RX3 26 "EchoCave$Sound" "place" "[I", Cond.fieldLink RX3 29 "EchoCave$Sound" "passagesUsed" "[J", Cond.methodLink RX3 72 yX1_pack, Cond.static yX1_pack, Cond.code yX1_pack cX1_pack 5 (some .int)]
def wsL_say_r4 : List Cond := [Cond.methodLink RX3 76 yX1_put, Cond.instanceMethod yX1_put, Cond.selects RX1 yX1_put yX1_put, Cond.code yX1_put cX1_put 3 none, Cond.fieldLink RX1 11 "EchoCave$Comings" "heap" "[I", Cond.methodLink RX3 53 yX1_isEmpty, Cond.instanceMethod yX1_isEmpty, Cond.selects RX1 yX1_isEmpty yX1_isEmpty, Cond.code yX1_isEmpty cX1_isEmpty 1 (some .boolean), Cond.methodLink RX3 57 yX1_takeNext, Cond.instanceMethod yX1_takeNext, Cond.selects RX1 yX1_takeNext yX1_takeNext, Cond.code yX1_takeNext cX1_takeNext 2 (some .int), Cond.methodLink RX1 19 yX1_sink, Cond.instanceMethod yX1_sink, Cond.selects RX1 yX1_sink yX1_sink, Cond.code yX1_sink cX1_sink 4 none, Cond.methodLink RX3 61 yX3_come, Cond.instanceMethod yX3_come, Cond.selects RX3 yX3_come yX3_come, Cond.code yX3_come cX3_come 8 none, Cond.fieldLink RX3 9 "EchoCave$Sound" "cave" "LEchoCave$Cave;", Cond.methodLink RX3 80 yX1_timeOf, Cond.static yX1_timeOf]
def wsL_say_r5 : List Cond := [Cond.code yX1_timeOf cX1_timeOf 1 (some .int), Cond.methodLink RX3 83 yX1_chamberOf, Cond.static yX1_chamberOf, Cond.code yX1_chamberOf cX1_chamberOf 1 (some .int), Cond.methodLink RX3 86 yX1_runOf, Cond.static yX1_runOf, Cond.code yX1_runOf cX1_runOf 1 (some .int), Cond.methodLink RX3 89 yX1_passageOf, Cond.static yX1_passageOf, Cond.code yX1_passageOf cX1_passageOf 1 (some .int), Cond.methodLink RX3 92 yX1_strengthOf, Cond.static yX1_strengthOf, Cond.code yX1_strengthOf cX1_strengthOf 1 (some .int), Cond.methodLink RX3 95 yX0_hasChamber, Cond.instanceMethod yX0_hasChamber, Cond.selects RX0 yX0_hasChamber yX0_hasChamber, Cond.initialized RX0, Cond.code yX0_hasChamber cX0_hasChamber 2 (some .boolean), Cond.fieldLink RX0 50 "EchoCave$Cave" "chambers" "I", Cond.methodLink RX3 104 yX2_hear, Cond.instanceMethod yX2_hear, Cond.selects RX2 yX2_hear yX2_hear, Cond.code yX2_hear cX2_hear 6 none, Cond.fieldLink RX2 9 "EchoCave$Echo" "facts" "[I"]
def wsL_say_r6 : List Cond := [Cond.methodLink RX2 43 yX2_letCount, Cond.instanceMethod yX2_letCount, Cond.selects RX2 yX2_letCount yX2_letCount, Cond.code yX2_letCount cX2_letCount 3 none, Cond.methodLink RX3 108 yX0_drowns, Cond.instanceMethod yX0_drowns, Cond.selects RX0 yX0_drowns yX0_drowns, Cond.code yX0_drowns cX0_drowns 3 (some .boolean), Cond.fieldLink RX0 18 "EchoCave$Cave" "bats" "[I", Cond.methodLink RX3 112 yX3_setOffClapper, Cond.instanceMethod yX3_setOffClapper, Cond.selects RX3 yX3_setOffClapper yX3_setOffClapper, Cond.code yX3_setOffClapper cX3_setOffClapper 6 none, Cond.methodLink RX3 115 yX3_goOn, Cond.instanceMethod yX3_goOn, Cond.selects RX3 yX3_goOn yX3_goOn, Cond.code yX3_goOn cX3_goOn 8 none, Cond.methodLink RX3 136 yX0_isOpen, Cond.instanceMethod yX0_isOpen, Cond.selects RX0 yX0_isOpen yX0_isOpen, Cond.code yX0_isOpen cX0_isOpen 2 (some .boolean), Cond.fieldLink RX0 15 "EchoCave$Cave" "height" "[I", Cond.fieldLink RX0 35 "EchoCave$Cave" "from" "[I", Cond.fieldLink RX0 57 "EchoCave$Cave" "water" "I"]
def wsL_say_r7 : List Cond := [Cond.fieldLink RX0 38 "EchoCave$Cave" "to" "[I", Cond.methodLink RX3 122 yX3_goInto, Cond.instanceMethod yX3_goInto, Cond.selects RX3 yX3_goInto yX3_goInto, Cond.code yX3_goInto cX3_goInto 10 none, Cond.methodLink RX3 145 yX0_otherEnd, Cond.instanceMethod yX0_otherEnd, Cond.selects RX0 yX0_otherEnd yX0_otherEnd, Cond.code yX0_otherEnd cX0_otherEnd 3 (some .int), Cond.methodLink RX3 148 yX0_strengthBehind, Cond.instanceMethod yX0_strengthBehind, Cond.selects RX0 yX0_strengthBehind yX0_strengthBehind, Cond.code yX0_strengthBehind cX0_strengthBehind 3 (some .int), Cond.fieldLink RX0 44 "EchoCave$Cave" "narrow" "[I", Cond.methodLink RX3 118 yX0_strengthFromWall, Cond.instanceMethod yX0_strengthFromWall, Cond.selects RX0 yX0_strengthFromWall yX0_strengthFromWall, Cond.code yX0_strengthFromWall cX0_strengthFromWall 3 (some .int), Cond.fieldLink RX0 9 "EchoCave$Cave" "wall" "[I"]
def wsL_say : List Cond := .codeWith yL_say cL_say 5 (some .int) [(0, 10, 13, 13)] :: ((wsL_say_r1 ++ (wsL_say_r2 ++ (wsL_say_r3 ++ (wsL_say_r4 ++ (wsL_say_r5 ++ (wsL_say_r6 ++ wsL_say_r7)))))) ++ wsX40 ++ wsX20 ++ wsX30 ++ wsX10 ++ wsX00 ++ (vx_atS RX4 185 "java/lang/IllegalArgumentException" ["java/lang/RuntimeException", "java/lang/Exception"]).filter goodWord)
def wsL_heard : List Cond := .codeWith yL_heard cL_heard 5 (some .int) [(0, 10, 13, 21)] :: ([.classLink RL 21 "java/lang/IndexOutOfBoundsException", .methodLink RL 46 yX4_heard, .instanceMethod yX4_heard, .selects RX4 yX4_heard yX4_heard, .initialized RX4, .code yX4_heard cX4_heard 3 (some .int), .fieldLink RX4 28 "EchoCave" "latest" "LEchoCave$Echo;", .methodLink RX4 45 yX4_isWithin, .static yX4_isWithin, .code yX4_isWithin cX4_isWithin 3 (some .boolean), .methodLink RX4 71 yX4_requireIndex, .static yX4_requireIndex, .code yX4_requireIndex cX4_requireIndex 1 none, .classLink RX4 176 "java/lang/IndexOutOfBoundsException", .initialized "java/lang/IndexOutOfBoundsException", .methodLink RX4 121 yX2_heardFact, .instanceMethod yX2_heardFact, .selects RX2 yX2_heardFact yX2_heardFact, .initialized RX2, .code yX2_heardFact cX2_heardFact 3 (some .int), .fieldLink RX2 9 "EchoCave$Echo" "facts" "[I"] ++ wsX40 ++ wsX20 ++ (vx_atS RX4 180 "java/lang/IndexOutOfBoundsException" ["java/lang/RuntimeException", "java/lang/Exception"]).filter goodWord)
def wsL_first : List Cond := .codeWith yL_first cL_first 4 (some .int) [(0, 9, 12, 21)] :: ([.classLink RL 21 "java/lang/IndexOutOfBoundsException", .methodLink RL 49 yX4_first, .instanceMethod yX4_first, .selects RX4 yX4_first yX4_first, .initialized RX4, .code yX4_first cX4_first 2 (some .int), .fieldLink RX4 28 "EchoCave" "latest" "LEchoCave$Echo;", .methodLink RX4 45 yX4_isWithin, .static yX4_isWithin, .code yX4_isWithin cX4_isWithin 3 (some .boolean), .methodLink RX4 71 yX4_requireIndex, .static yX4_requireIndex, .code yX4_requireIndex cX4_requireIndex 1 none, .classLink RX4 176 "java/lang/IndexOutOfBoundsException", .initialized "java/lang/IndexOutOfBoundsException"] ++ wsX40 ++ wsX20 ++ (vx_atS RX4 180 "java/lang/IndexOutOfBoundsException" ["java/lang/RuntimeException", "java/lang/Exception"]).filter goodWord)
def wsL_count_r1 : List Cond := [Cond.classLink RL 21 "java/lang/IndexOutOfBoundsException", Cond.methodLink RL 52 yX4_count, Cond.instanceMethod yX4_count, Cond.selects RX4 yX4_count yX4_count, Cond.initialized RX4, Cond.code yX4_count cX4_count 2 (some .int), Cond.methodLink RX4 45 yX4_isWithin, Cond.static yX4_isWithin, Cond.code yX4_isWithin cX4_isWithin 3 (some .boolean), Cond.methodLink RX4 71 yX4_requireIndex, Cond.static yX4_requireIndex, Cond.code yX4_requireIndex cX4_requireIndex 1 none, Cond.classLink RX4 176 "java/lang/IndexOutOfBoundsException", Cond.initialized "java/lang/IndexOutOfBoundsException", Cond.methodLink RX4 134 yX4_countFact, Cond.instanceMethod yX4_countFact, Cond.selects RX4 yX4_countFact yX4_countFact, Cond.code yX4_countFact cX4_countFact 2 (some .int), Cond.fieldLink RX4 12 "EchoCave" "cave" "LEchoCave$Cave;", Cond.fieldLink RX4 35 "EchoCave" "ear" "I", Cond.fieldLink RX4 39 "EchoCave" "wordsSaid" "I", Cond.fieldLink RX4 42 "EchoCave" "latestWord" "I", Cond.fieldLink RX4 28 "EchoCave" "latest" "LEchoCave$Echo;", Cond.methodLink RX4 168 yX0_openPassages]
def wsL_count_r2 : List Cond := [Cond.instanceMethod yX0_openPassages, Cond.selects RX0 yX0_openPassages yX0_openPassages, Cond.initialized RX0, Cond.code yX0_openPassages cX0_openPassages 3 (some .int), Cond.fieldLink RX0 54 "EchoCave$Cave" "passages" "I", Cond.methodLink RX0 68 yX0_isOpen, Cond.instanceMethod yX0_isOpen, Cond.selects RX0 yX0_isOpen yX0_isOpen, Cond.code yX0_isOpen cX0_isOpen 2 (some .boolean), Cond.fieldLink RX0 15 "EchoCave$Cave" "height" "[I", Cond.fieldLink RX0 35 "EchoCave$Cave" "from" "[I", Cond.fieldLink RX0 57 "EchoCave$Cave" "water" "I", Cond.fieldLink RX0 38 "EchoCave$Cave" "to" "[I", Cond.methodLink RX4 172 yX0_clappers, Cond.instanceMethod yX0_clappers, Cond.selects RX0 yX0_clappers yX0_clappers, Cond.code yX0_clappers cX0_clappers 3 (some .int), Cond.fieldLink RX0 50 "EchoCave$Cave" "chambers" "I", Cond.fieldLink RX0 21 "EchoCave$Cave" "syllable" "[I"]
def wsL_count : List Cond := .codeWith yL_count cL_count 4 (some .int) [(0, 9, 12, 21)] :: ((wsL_count_r1 ++ wsL_count_r2) ++ wsX40 ++ wsX00 ++ wsX20 ++ (vx_atS RX4 180 "java/lang/IndexOutOfBoundsException" ["java/lang/RuntimeException", "java/lang/Exception"]).filter goodWord)
def wsL_would_r1 : List Cond := [Cond.classLink RL 13 "java/lang/IllegalArgumentException", Cond.classLink RL 21 "java/lang/IndexOutOfBoundsException", Cond.methodLink RL 55 yX4_would, Cond.instanceMethod yX4_would, Cond.selects RX4 yX4_would yX4_would, Cond.initialized RX4, Cond.code yX4_would cX4_would 4 (some .int), Cond.fieldLink RX4 21 "EchoCave" "sound" "LEchoCave$Sound;", Cond.fieldLink RX4 35 "EchoCave" "ear" "I", Cond.fieldLink RX4 32 "EchoCave" "trial" "LEchoCave$Echo;", Cond.methodLink RX4 107 yX4_requireWordAndBeat, Cond.static yX4_requireWordAndBeat, Cond.code yX4_requireWordAndBeat cX4_requireWordAndBeat 2 none, Cond.methodLink RX4 151 yX4_isWord, Cond.static yX4_isWord, Cond.code yX4_isWord cX4_isWord 2 (some .boolean), Cond.constant RX4 175 (999999), Cond.methodLink RX4 45 yX4_isWithin, Cond.static yX4_isWithin, Cond.code yX4_isWithin cX4_isWithin 3 (some .boolean), Cond.methodLink RX4 49 yX4_requireArgument, Cond.static yX4_requireArgument, Cond.code yX4_requireArgument cX4_requireArgument 1 none, Cond.classLink RX4 181 "java/lang/IllegalArgumentException"]
def wsL_would_r2 : List Cond := [Cond.initialized "java/lang/IllegalArgumentException", Cond.methodLink RX4 71 yX4_requireIndex, Cond.static yX4_requireIndex, Cond.code yX4_requireIndex cX4_requireIndex 1 none, Cond.classLink RX4 176 "java/lang/IndexOutOfBoundsException", Cond.initialized "java/lang/IndexOutOfBoundsException", Cond.methodLink RX4 111 yX3_runThrough, Cond.instanceMethod yX3_runThrough, Cond.selects RX3 yX3_runThrough yX3_runThrough, Cond.initialized RX3, Cond.code yX3_runThrough cX3_runThrough 7 none, Cond.fieldLink RX3 18 "EchoCave$Sound" "comings" "LEchoCave$Comings;", Cond.static yX4_placesOf, Cond.code yX4_placesOf cX4_placesOf 3 (some .int), Cond.methodLink RX3 44 yX2_begin, Cond.instanceMethod yX2_begin, Cond.selects RX2 yX2_begin yX2_begin, Cond.initialized RX2, Cond.code yX2_begin cX2_begin 3 none, Cond.fieldLink RX2 18 "EchoCave$Echo" "places" "I", Cond.fieldLink RX2 22 "EchoCave$Echo" "ear" "I", Cond.fieldLink RX2 25 "EchoCave$Echo" "kept" "I", Cond.fieldLink RX2 28 "EchoCave$Echo" "counted" "I", Cond.fieldLink RX2 31 "EchoCave$Echo" "placesInOrder" "I"]
def wsL_would_r3 : List Cond := [Cond.fieldLink RX2 34 "EchoCave$Echo" "lastTime" "I", Cond.fieldLink RX2 15 "EchoCave$Echo" "firstTime" "[I", Cond.methodLink RX2 37 yJ7_fill_53178, Cond.static yJ7_fill_53178, Cond.initialized RJ7, Cond.code yJ7_fill_53178 cJ7_fill_53178 4 none, Cond.methodLink RX3 50 yX3_begin, Cond.instanceMethod yX3_begin, Cond.selects RX3 yX3_begin yX3_begin, Cond.code yX3_begin cX3_begin 6 none, Cond.fieldLink RX3 33 "EchoCave$Sound" "runs" "I", Cond.fieldLink RX3 37 "EchoCave$Sound" "clappersSetOff" "I", Cond.methodLink RX3 65 yX1_clear, Cond.instanceMethod yX1_clear, Cond.selects RX1 yX1_clear yX1_clear, Cond.initialized RX1, Cond.code yX1_clear cX1_clear 1 none, Cond.fieldLink RX1 15 "EchoCave$Comings" "size" "I", Cond.methodLink RX3 68 yX3_startRun, Cond.instanceMethod yX3_startRun, Cond.selects RX3 yX3_startRun yX3_startRun, Cond.code yX3_startRun cX3_startRun 6 none, Cond.fieldLink RX3 22 "EchoCave$Sound" "syllable" "[I", Cond.fieldLink RX3 26 "EchoCave$Sound" "place" "[I"]
def wsL_would_r4 : List Cond := [Cond.fieldLink RX3 29 "EchoCave$Sound" "passagesUsed" "[J", Cond.methodLink RX3 72 yX1_pack, Cond.static yX1_pack, Cond.code yX1_pack cX1_pack 5 (some .int), Cond.methodLink RX3 76 yX1_put, Cond.instanceMethod yX1_put, Cond.selects RX1 yX1_put yX1_put, Cond.code yX1_put cX1_put 3 none, Cond.fieldLink RX1 11 "EchoCave$Comings" "heap" "[I", Cond.methodLink RX3 53 yX1_isEmpty, Cond.instanceMethod yX1_isEmpty, Cond.selects RX1 yX1_isEmpty yX1_isEmpty, Cond.code yX1_isEmpty cX1_isEmpty 1 (some .boolean), Cond.methodLink RX3 57 yX1_takeNext, Cond.instanceMethod yX1_takeNext, Cond.selects RX1 yX1_takeNext yX1_takeNext, Cond.code yX1_takeNext cX1_takeNext 2 (some .int), Cond.methodLink RX1 19 yX1_sink, Cond.instanceMethod yX1_sink, Cond.selects RX1 yX1_sink yX1_sink, Cond.code yX1_sink cX1_sink 4 none, Cond.methodLink RX3 61 yX3_come, Cond.instanceMethod yX3_come, Cond.selects RX3 yX3_come yX3_come]
def wsL_would_r5 : List Cond := [Cond.code yX3_come cX3_come 8 none, Cond.fieldLink RX3 9 "EchoCave$Sound" "cave" "LEchoCave$Cave;", Cond.methodLink RX3 80 yX1_timeOf, Cond.static yX1_timeOf, Cond.code yX1_timeOf cX1_timeOf 1 (some .int), Cond.methodLink RX3 83 yX1_chamberOf, Cond.static yX1_chamberOf, Cond.code yX1_chamberOf cX1_chamberOf 1 (some .int), Cond.methodLink RX3 86 yX1_runOf, Cond.static yX1_runOf, Cond.code yX1_runOf cX1_runOf 1 (some .int), Cond.methodLink RX3 89 yX1_passageOf, Cond.static yX1_passageOf, Cond.code yX1_passageOf cX1_passageOf 1 (some .int), Cond.methodLink RX3 92 yX1_strengthOf, Cond.static yX1_strengthOf, Cond.code yX1_strengthOf cX1_strengthOf 1 (some .int), Cond.methodLink RX3 95 yX0_hasChamber, Cond.instanceMethod yX0_hasChamber, Cond.selects RX0 yX0_hasChamber yX0_hasChamber, Cond.initialized RX0, Cond.code yX0_hasChamber cX0_hasChamber 2 (some .boolean), Cond.fieldLink RX0 50 "EchoCave$Cave" "chambers" "I", Cond.methodLink RX3 104 yX2_hear]
def wsL_would_r6 : List Cond := [Cond.instanceMethod yX2_hear, Cond.selects RX2 yX2_hear yX2_hear, Cond.code yX2_hear cX2_hear 6 none, Cond.fieldLink RX2 9 "EchoCave$Echo" "facts" "[I", Cond.methodLink RX2 43 yX2_letCount, Cond.instanceMethod yX2_letCount, Cond.selects RX2 yX2_letCount yX2_letCount, Cond.code yX2_letCount cX2_letCount 3 none, Cond.methodLink RX3 108 yX0_drowns, Cond.instanceMethod yX0_drowns, Cond.selects RX0 yX0_drowns yX0_drowns, Cond.code yX0_drowns cX0_drowns 3 (some .boolean), Cond.fieldLink RX0 18 "EchoCave$Cave" "bats" "[I", Cond.methodLink RX3 112 yX3_setOffClapper, Cond.instanceMethod yX3_setOffClapper, Cond.selects RX3 yX3_setOffClapper yX3_setOffClapper, Cond.code yX3_setOffClapper cX3_setOffClapper 6 none, Cond.methodLink RX3 115 yX3_goOn, Cond.instanceMethod yX3_goOn, Cond.selects RX3 yX3_goOn yX3_goOn, Cond.code yX3_goOn cX3_goOn 8 none, Cond.methodLink RX3 136 yX0_isOpen, Cond.instanceMethod yX0_isOpen, Cond.selects RX0 yX0_isOpen yX0_isOpen]
def wsL_would_r7 : List Cond := [Cond.code yX0_isOpen cX0_isOpen 2 (some .boolean), Cond.fieldLink RX0 15 "EchoCave$Cave" "height" "[I", Cond.fieldLink RX0 35 "EchoCave$Cave" "from" "[I", Cond.fieldLink RX0 57 "EchoCave$Cave" "water" "I", Cond.fieldLink RX0 38 "EchoCave$Cave" "to" "[I", Cond.methodLink RX3 122 yX3_goInto, Cond.instanceMethod yX3_goInto, Cond.selects RX3 yX3_goInto yX3_goInto, Cond.code yX3_goInto cX3_goInto 10 none, Cond.methodLink RX3 145 yX0_otherEnd, Cond.instanceMethod yX0_otherEnd, Cond.selects RX0 yX0_otherEnd yX0_otherEnd, Cond.code yX0_otherEnd cX0_otherEnd 3 (some .int), Cond.methodLink RX3 148 yX0_strengthBehind, Cond.instanceMethod yX0_strengthBehind, Cond.selects RX0 yX0_strengthBehind yX0_strengthBehind, Cond.code yX0_strengthBehind cX0_strengthBehind 3 (some .int), Cond.fieldLink RX0 44 "EchoCave$Cave" "narrow" "[I", Cond.methodLink RX3 118 yX0_strengthFromWall, Cond.instanceMethod yX0_strengthFromWall, Cond.selects RX0 yX0_strengthFromWall yX0_strengthFromWall, Cond.code yX0_strengthFromWall cX0_strengthFromWall 3 (some .int), Cond.fieldLink RX0 9 "EchoCave$Cave" "wall" "[I", Cond.methodLink RX4 124 yX2_cameInOrder]
def wsL_would_r8 : List Cond := [Cond.instanceMethod yX2_cameInOrder, Cond.selects RX2 yX2_cameInOrder yX2_cameInOrder, Cond.code yX2_cameInOrder cX2_cameInOrder 1 (some .boolean)]
def wsL_would : List Cond := .codeWith yL_would cL_would 6 (some .int) [(0, 12, 15, 13), (0, 12, 19, 21)] :: ((wsL_would_r1 ++ (wsL_would_r2 ++ (wsL_would_r3 ++ (wsL_would_r4 ++ (wsL_would_r5 ++ (wsL_would_r6 ++ (wsL_would_r7 ++ wsL_would_r8))))))) ++ wsX40 ++ wsX20 ++ wsX30 ++ wsX10 ++ wsX00 ++ (vx_atS RX4 185 "java/lang/IllegalArgumentException" ["java/lang/RuntimeException", "java/lang/Exception"]).filter goodWord ++ (vx_atS RX4 180 "java/lang/IndexOutOfBoundsException" ["java/lang/RuntimeException", "java/lang/Exception"]).filter goodWord)
def wsL_advise_r1 : List Cond := [Cond.classLink RL 13 "java/lang/IllegalArgumentException", Cond.methodLink RL 58 yX4_advise, Cond.instanceMethod yX4_advise, Cond.selects RX4 yX4_advise yX4_advise, Cond.initialized RX4, Cond.code yX4_advise cX4_advise 9 (some .int), Cond.fieldLink RX4 12 "EchoCave" "cave" "LEchoCave$Cave;", Cond.methodLink RX4 107 yX4_requireWordAndBeat, Cond.static yX4_requireWordAndBeat, Cond.code yX4_requireWordAndBeat cX4_requireWordAndBeat 2 none, Cond.methodLink RX4 151 yX4_isWord, Cond.static yX4_isWord, Cond.code yX4_isWord cX4_isWord 2 (some .boolean), Cond.constant RX4 175 (999999), Cond.methodLink RX4 45 yX4_isWithin, Cond.static yX4_isWithin, Cond.code yX4_isWithin cX4_isWithin 3 (some .boolean), Cond.methodLink RX4 49 yX4_requireArgument, Cond.static yX4_requireArgument, Cond.code yX4_requireArgument cX4_requireArgument 1 none, Cond.classLink RX4 181 "java/lang/IllegalArgumentException", Cond.initialized "java/lang/IllegalArgumentException", Cond.methodLink RX4 93 yX0_putClapper, Cond.instanceMethod yX0_putClapper]
def wsL_advise_r2 : List Cond := [Cond.selects RX0 yX0_putClapper yX0_putClapper, Cond.initialized RX0, Cond.code yX0_putClapper cX0_putClapper 4 none, Cond.fieldLink RX0 21 "EchoCave$Cave" "syllable" "[I", Cond.fieldLink RX0 24 "EchoCave$Cave" "delay" "[I", Cond.methodLink RX4 147 yX4_wouldComeInOrder, Cond.instanceMethod yX4_wouldComeInOrder, Cond.selects RX4 yX4_wouldComeInOrder yX4_wouldComeInOrder, Cond.code yX4_wouldComeInOrder cX4_wouldComeInOrder 3 (some .boolean), Cond.fieldLink RX4 21 "EchoCave" "sound" "LEchoCave$Sound;", Cond.fieldLink RX4 35 "EchoCave" "ear" "I", Cond.fieldLink RX4 32 "EchoCave" "trial" "LEchoCave$Echo;", Cond.methodLink RX4 111 yX3_runThrough, Cond.instanceMethod yX3_runThrough, Cond.selects RX3 yX3_runThrough yX3_runThrough, Cond.initialized RX3, Cond.code yX3_runThrough cX3_runThrough 7 none, Cond.fieldLink RX3 18 "EchoCave$Sound" "comings" "LEchoCave$Comings;", Cond.static yX4_placesOf, Cond.code yX4_placesOf cX4_placesOf 3 (some .int), Cond.methodLink RX3 44 yX2_begin, Cond.instanceMethod yX2_begin, Cond.selects RX2 yX2_begin yX2_begin, Cond.initialized RX2]
def wsL_advise_r3 : List Cond := [Cond.code yX2_begin cX2_begin 3 none, Cond.fieldLink RX2 18 "EchoCave$Echo" "places" "I", Cond.fieldLink RX2 22 "EchoCave$Echo" "ear" "I", Cond.fieldLink RX2 25 "EchoCave$Echo" "kept" "I", Cond.fieldLink RX2 28 "EchoCave$Echo" "counted" "I", Cond.fieldLink RX2 31 "EchoCave$Echo" "placesInOrder" "I", Cond.fieldLink RX2 34 "EchoCave$Echo" "lastTime" "I", Cond.fieldLink RX2 15 "EchoCave$Echo" "firstTime" "[I", Cond.methodLink RX2 37 yJ7_fill_53178, Cond.static yJ7_fill_53178, Cond.initialized RJ7, Cond.code yJ7_fill_53178 cJ7_fill_53178 4 none, Cond.methodLink RX3 50 yX3_begin, Cond.instanceMethod yX3_begin, Cond.selects RX3 yX3_begin yX3_begin, Cond.code yX3_begin cX3_begin 6 none, Cond.fieldLink RX3 33 "EchoCave$Sound" "runs" "I", Cond.fieldLink RX3 37 "EchoCave$Sound" "clappersSetOff" "I", Cond.methodLink RX3 65 yX1_clear, Cond.instanceMethod yX1_clear, Cond.selects RX1 yX1_clear yX1_clear, Cond.initialized RX1, Cond.code yX1_clear cX1_clear 1 none, Cond.fieldLink RX1 15 "EchoCave$Comings" "size" "I"]
def wsL_advise_r4 : List Cond := [Cond.methodLink RX3 68 yX3_startRun, Cond.instanceMethod yX3_startRun, Cond.selects RX3 yX3_startRun yX3_startRun, Cond.code yX3_startRun cX3_startRun 6 none, Cond.fieldLink RX3 22 "EchoCave$Sound" "syllable" "[I", Cond.fieldLink RX3 26 "EchoCave$Sound" "place" "[I", Cond.fieldLink RX3 29 "EchoCave$Sound" "passagesUsed" "[J", Cond.methodLink RX3 72 yX1_pack, Cond.static yX1_pack, Cond.code yX1_pack cX1_pack 5 (some .int), Cond.methodLink RX3 76 yX1_put, Cond.instanceMethod yX1_put, Cond.selects RX1 yX1_put yX1_put, Cond.code yX1_put cX1_put 3 none, Cond.fieldLink RX1 11 "EchoCave$Comings" "heap" "[I", Cond.methodLink RX3 53 yX1_isEmpty, Cond.instanceMethod yX1_isEmpty, Cond.selects RX1 yX1_isEmpty yX1_isEmpty, Cond.code yX1_isEmpty cX1_isEmpty 1 (some .boolean), Cond.methodLink RX3 57 yX1_takeNext, Cond.instanceMethod yX1_takeNext, Cond.selects RX1 yX1_takeNext yX1_takeNext, Cond.code yX1_takeNext cX1_takeNext 2 (some .int), Cond.methodLink RX1 19 yX1_sink]
def wsL_advise_r5 : List Cond := [Cond.instanceMethod yX1_sink, Cond.selects RX1 yX1_sink yX1_sink, Cond.code yX1_sink cX1_sink 4 none, Cond.methodLink RX3 61 yX3_come, Cond.instanceMethod yX3_come, Cond.selects RX3 yX3_come yX3_come, Cond.code yX3_come cX3_come 8 none, Cond.fieldLink RX3 9 "EchoCave$Sound" "cave" "LEchoCave$Cave;", Cond.methodLink RX3 80 yX1_timeOf, Cond.static yX1_timeOf, Cond.code yX1_timeOf cX1_timeOf 1 (some .int), Cond.methodLink RX3 83 yX1_chamberOf, Cond.static yX1_chamberOf, Cond.code yX1_chamberOf cX1_chamberOf 1 (some .int), Cond.methodLink RX3 86 yX1_runOf, Cond.static yX1_runOf, Cond.code yX1_runOf cX1_runOf 1 (some .int), Cond.methodLink RX3 89 yX1_passageOf, Cond.static yX1_passageOf, Cond.code yX1_passageOf cX1_passageOf 1 (some .int), Cond.methodLink RX3 92 yX1_strengthOf, Cond.static yX1_strengthOf, Cond.code yX1_strengthOf cX1_strengthOf 1 (some .int), Cond.methodLink RX3 95 yX0_hasChamber]
def wsL_advise_r6 : List Cond := [Cond.instanceMethod yX0_hasChamber, Cond.selects RX0 yX0_hasChamber yX0_hasChamber, Cond.code yX0_hasChamber cX0_hasChamber 2 (some .boolean), Cond.fieldLink RX0 50 "EchoCave$Cave" "chambers" "I", Cond.methodLink RX3 104 yX2_hear, Cond.instanceMethod yX2_hear, Cond.selects RX2 yX2_hear yX2_hear, Cond.code yX2_hear cX2_hear 6 none, Cond.fieldLink RX2 9 "EchoCave$Echo" "facts" "[I", Cond.methodLink RX2 43 yX2_letCount, Cond.instanceMethod yX2_letCount, Cond.selects RX2 yX2_letCount yX2_letCount, Cond.code yX2_letCount cX2_letCount 3 none, Cond.methodLink RX3 108 yX0_drowns, Cond.instanceMethod yX0_drowns, Cond.selects RX0 yX0_drowns yX0_drowns, Cond.code yX0_drowns cX0_drowns 3 (some .boolean), Cond.fieldLink RX0 18 "EchoCave$Cave" "bats" "[I", Cond.methodLink RX3 112 yX3_setOffClapper, Cond.instanceMethod yX3_setOffClapper, Cond.selects RX3 yX3_setOffClapper yX3_setOffClapper, Cond.code yX3_setOffClapper cX3_setOffClapper 6 none, Cond.methodLink RX3 115 yX3_goOn, Cond.instanceMethod yX3_goOn]
def wsL_advise_r7 : List Cond := [Cond.selects RX3 yX3_goOn yX3_goOn, Cond.code yX3_goOn cX3_goOn 8 none, Cond.methodLink RX3 136 yX0_isOpen, Cond.instanceMethod yX0_isOpen, Cond.selects RX0 yX0_isOpen yX0_isOpen, Cond.code yX0_isOpen cX0_isOpen 2 (some .boolean), Cond.fieldLink RX0 15 "EchoCave$Cave" "height" "[I", Cond.fieldLink RX0 35 "EchoCave$Cave" "from" "[I", Cond.fieldLink RX0 57 "EchoCave$Cave" "water" "I", Cond.fieldLink RX0 38 "EchoCave$Cave" "to" "[I", Cond.methodLink RX3 122 yX3_goInto, Cond.instanceMethod yX3_goInto, Cond.selects RX3 yX3_goInto yX3_goInto, Cond.code yX3_goInto cX3_goInto 10 none, Cond.methodLink RX3 145 yX0_otherEnd, Cond.instanceMethod yX0_otherEnd, Cond.selects RX0 yX0_otherEnd yX0_otherEnd, Cond.code yX0_otherEnd cX0_otherEnd 3 (some .int), Cond.methodLink RX3 148 yX0_strengthBehind, Cond.instanceMethod yX0_strengthBehind, Cond.selects RX0 yX0_strengthBehind yX0_strengthBehind, Cond.code yX0_strengthBehind cX0_strengthBehind 3 (some .int), Cond.fieldLink RX0 44 "EchoCave$Cave" "narrow" "[I", Cond.methodLink RX3 118 yX0_strengthFromWall]
def wsL_advise_r8 : List Cond := [Cond.instanceMethod yX0_strengthFromWall, Cond.selects RX0 yX0_strengthFromWall yX0_strengthFromWall, Cond.code yX0_strengthFromWall cX0_strengthFromWall 3 (some .int), Cond.fieldLink RX0 9 "EchoCave$Cave" "wall" "[I", Cond.methodLink RX4 124 yX2_cameInOrder, Cond.instanceMethod yX2_cameInOrder, Cond.selects RX2 yX2_cameInOrder yX2_cameInOrder, Cond.code yX2_cameInOrder cX2_cameInOrder 1 (some .boolean)]
def wsL_advise : List Cond := .codeWith yL_advise cL_advise 7 (some .int) [(0, 14, 17, 13)] :: ((wsL_advise_r1 ++ (wsL_advise_r2 ++ (wsL_advise_r3 ++ (wsL_advise_r4 ++ (wsL_advise_r5 ++ (wsL_advise_r6 ++ (wsL_advise_r7 ++ wsL_advise_r8))))))) ++ wsX40 ++ wsX00 ++ wsX30 ++ wsX20 ++ wsX10 ++ (vx_atS RX4 185 "java/lang/IllegalArgumentException" ["java/lang/RuntimeException", "java/lang/Exception"]).filter goodWord)
def wsL_longest_r1 : List Cond := [Cond.classLink RL 13 "java/lang/IllegalArgumentException", Cond.methodLink RL 61 yX4_longest, Cond.instanceMethod yX4_longest, Cond.selects RX4 yX4_longest yX4_longest, Cond.initialized RX4, Cond.code yX4_longest cX4_longest 6 (some .int), Cond.methodLink RX4 45 yX4_isWithin, Cond.static yX4_isWithin, Cond.code yX4_isWithin cX4_isWithin 3 (some .boolean), Cond.methodLink RX4 49 yX4_requireArgument, Cond.static yX4_requireArgument, Cond.code yX4_requireArgument cX4_requireArgument 1 none, Cond.classLink RX4 181 "java/lang/IllegalArgumentException", Cond.initialized "java/lang/IllegalArgumentException", Cond.methodLink RX4 147 yX4_wouldComeInOrder, Cond.instanceMethod yX4_wouldComeInOrder, Cond.selects RX4 yX4_wouldComeInOrder yX4_wouldComeInOrder, Cond.code yX4_wouldComeInOrder cX4_wouldComeInOrder 3 (some .boolean), Cond.fieldLink RX4 21 "EchoCave" "sound" "LEchoCave$Sound;", Cond.fieldLink RX4 35 "EchoCave" "ear" "I", Cond.fieldLink RX4 32 "EchoCave" "trial" "LEchoCave$Echo;", Cond.methodLink RX4 111 yX3_runThrough, Cond.instanceMethod yX3_runThrough, Cond.selects RX3 yX3_runThrough yX3_runThrough]
def wsL_longest_r2 : List Cond := [Cond.initialized RX3, Cond.code yX3_runThrough cX3_runThrough 7 none, Cond.fieldLink RX3 18 "EchoCave$Sound" "comings" "LEchoCave$Comings;", Cond.static yX4_placesOf, Cond.code yX4_placesOf cX4_placesOf 3 (some .int), Cond.methodLink RX3 44 yX2_begin, Cond.instanceMethod yX2_begin, Cond.selects RX2 yX2_begin yX2_begin, Cond.initialized RX2, Cond.code yX2_begin cX2_begin 3 none, Cond.fieldLink RX2 18 "EchoCave$Echo" "places" "I", Cond.fieldLink RX2 22 "EchoCave$Echo" "ear" "I", Cond.fieldLink RX2 25 "EchoCave$Echo" "kept" "I", Cond.fieldLink RX2 28 "EchoCave$Echo" "counted" "I", Cond.fieldLink RX2 31 "EchoCave$Echo" "placesInOrder" "I", Cond.fieldLink RX2 34 "EchoCave$Echo" "lastTime" "I", Cond.fieldLink RX2 15 "EchoCave$Echo" "firstTime" "[I", Cond.methodLink RX2 37 yJ7_fill_53178, Cond.static yJ7_fill_53178, Cond.initialized RJ7, Cond.code yJ7_fill_53178 cJ7_fill_53178 4 none, Cond.methodLink RX3 50 yX3_begin, Cond.instanceMethod yX3_begin, Cond.selects RX3 yX3_begin yX3_begin]
def wsL_longest_r3 : List Cond := [Cond.code yX3_begin cX3_begin 6 none, Cond.fieldLink RX3 33 "EchoCave$Sound" "runs" "I", Cond.fieldLink RX3 37 "EchoCave$Sound" "clappersSetOff" "I", Cond.methodLink RX3 65 yX1_clear, Cond.instanceMethod yX1_clear, Cond.selects RX1 yX1_clear yX1_clear, Cond.initialized RX1, Cond.code yX1_clear cX1_clear 1 none, Cond.fieldLink RX1 15 "EchoCave$Comings" "size" "I", Cond.methodLink RX3 68 yX3_startRun, Cond.instanceMethod yX3_startRun, Cond.selects RX3 yX3_startRun yX3_startRun, Cond.code yX3_startRun cX3_startRun 6 none, Cond.fieldLink RX3 22 "EchoCave$Sound" "syllable" "[I", Cond.fieldLink RX3 26 "EchoCave$Sound" "place" "[I", Cond.fieldLink RX3 29 "EchoCave$Sound" "passagesUsed" "[J", Cond.methodLink RX3 72 yX1_pack, Cond.static yX1_pack, Cond.code yX1_pack cX1_pack 5 (some .int), Cond.methodLink RX3 76 yX1_put, Cond.instanceMethod yX1_put, Cond.selects RX1 yX1_put yX1_put, Cond.code yX1_put cX1_put 3 none, Cond.fieldLink RX1 11 "EchoCave$Comings" "heap" "[I"]
def wsL_longest_r4 : List Cond := [Cond.methodLink RX3 53 yX1_isEmpty, Cond.instanceMethod yX1_isEmpty, Cond.selects RX1 yX1_isEmpty yX1_isEmpty, Cond.code yX1_isEmpty cX1_isEmpty 1 (some .boolean), Cond.methodLink RX3 57 yX1_takeNext, Cond.instanceMethod yX1_takeNext, Cond.selects RX1 yX1_takeNext yX1_takeNext, Cond.code yX1_takeNext cX1_takeNext 2 (some .int), Cond.methodLink RX1 19 yX1_sink, Cond.instanceMethod yX1_sink, Cond.selects RX1 yX1_sink yX1_sink, Cond.code yX1_sink cX1_sink 4 none, Cond.methodLink RX3 61 yX3_come, Cond.instanceMethod yX3_come, Cond.selects RX3 yX3_come yX3_come, Cond.code yX3_come cX3_come 8 none, Cond.fieldLink RX3 9 "EchoCave$Sound" "cave" "LEchoCave$Cave;", Cond.methodLink RX3 80 yX1_timeOf, Cond.static yX1_timeOf, Cond.code yX1_timeOf cX1_timeOf 1 (some .int), Cond.methodLink RX3 83 yX1_chamberOf, Cond.static yX1_chamberOf, Cond.code yX1_chamberOf cX1_chamberOf 1 (some .int), Cond.methodLink RX3 86 yX1_runOf]
def wsL_longest_r5 : List Cond := [Cond.static yX1_runOf, Cond.code yX1_runOf cX1_runOf 1 (some .int), Cond.methodLink RX3 89 yX1_passageOf, Cond.static yX1_passageOf, Cond.code yX1_passageOf cX1_passageOf 1 (some .int), Cond.methodLink RX3 92 yX1_strengthOf, Cond.static yX1_strengthOf, Cond.code yX1_strengthOf cX1_strengthOf 1 (some .int), Cond.methodLink RX3 95 yX0_hasChamber, Cond.instanceMethod yX0_hasChamber, Cond.selects RX0 yX0_hasChamber yX0_hasChamber, Cond.initialized RX0, Cond.code yX0_hasChamber cX0_hasChamber 2 (some .boolean), Cond.fieldLink RX0 50 "EchoCave$Cave" "chambers" "I", Cond.methodLink RX3 104 yX2_hear, Cond.instanceMethod yX2_hear, Cond.selects RX2 yX2_hear yX2_hear, Cond.code yX2_hear cX2_hear 6 none, Cond.fieldLink RX2 9 "EchoCave$Echo" "facts" "[I", Cond.methodLink RX2 43 yX2_letCount, Cond.instanceMethod yX2_letCount, Cond.selects RX2 yX2_letCount yX2_letCount, Cond.code yX2_letCount cX2_letCount 3 none, Cond.methodLink RX3 108 yX0_drowns]
def wsL_longest_r6 : List Cond := [Cond.instanceMethod yX0_drowns, Cond.selects RX0 yX0_drowns yX0_drowns, Cond.code yX0_drowns cX0_drowns 3 (some .boolean), Cond.fieldLink RX0 18 "EchoCave$Cave" "bats" "[I", Cond.methodLink RX3 112 yX3_setOffClapper, Cond.instanceMethod yX3_setOffClapper, Cond.selects RX3 yX3_setOffClapper yX3_setOffClapper, Cond.code yX3_setOffClapper cX3_setOffClapper 6 none, Cond.methodLink RX3 115 yX3_goOn, Cond.instanceMethod yX3_goOn, Cond.selects RX3 yX3_goOn yX3_goOn, Cond.code yX3_goOn cX3_goOn 8 none, Cond.methodLink RX3 136 yX0_isOpen, Cond.instanceMethod yX0_isOpen, Cond.selects RX0 yX0_isOpen yX0_isOpen, Cond.code yX0_isOpen cX0_isOpen 2 (some .boolean), Cond.fieldLink RX0 15 "EchoCave$Cave" "height" "[I", Cond.fieldLink RX0 35 "EchoCave$Cave" "from" "[I", Cond.fieldLink RX0 57 "EchoCave$Cave" "water" "I", Cond.fieldLink RX0 38 "EchoCave$Cave" "to" "[I", Cond.methodLink RX3 122 yX3_goInto, Cond.instanceMethod yX3_goInto, Cond.selects RX3 yX3_goInto yX3_goInto, Cond.code yX3_goInto cX3_goInto 10 none]
def wsL_longest_r7 : List Cond := [Cond.methodLink RX3 145 yX0_otherEnd, Cond.instanceMethod yX0_otherEnd, Cond.selects RX0 yX0_otherEnd yX0_otherEnd, Cond.code yX0_otherEnd cX0_otherEnd 3 (some .int), Cond.methodLink RX3 148 yX0_strengthBehind, Cond.instanceMethod yX0_strengthBehind, Cond.selects RX0 yX0_strengthBehind yX0_strengthBehind, Cond.code yX0_strengthBehind cX0_strengthBehind 3 (some .int), Cond.fieldLink RX0 44 "EchoCave$Cave" "narrow" "[I", Cond.methodLink RX3 118 yX0_strengthFromWall, Cond.instanceMethod yX0_strengthFromWall, Cond.selects RX0 yX0_strengthFromWall yX0_strengthFromWall, Cond.code yX0_strengthFromWall cX0_strengthFromWall 3 (some .int), Cond.fieldLink RX0 9 "EchoCave$Cave" "wall" "[I", Cond.methodLink RX4 124 yX2_cameInOrder, Cond.instanceMethod yX2_cameInOrder, Cond.selects RX2 yX2_cameInOrder yX2_cameInOrder, Cond.code yX2_cameInOrder cX2_cameInOrder 1 (some .boolean)]
def wsL_longest : List Cond := .codeWith yL_longest cL_longest 5 (some .int) [(0, 10, 13, 13)] :: ((wsL_longest_r1 ++ (wsL_longest_r2 ++ (wsL_longest_r3 ++ (wsL_longest_r4 ++ (wsL_longest_r5 ++ (wsL_longest_r6 ++ wsL_longest_r7)))))) ++ wsX40 ++ wsX30 ++ wsX20 ++ wsX10 ++ wsX00 ++ (vx_atS RX4 185 "java/lang/IllegalArgumentException" ["java/lang/RuntimeException", "java/lang/Exception"]).filter goodWord)
def wsL_quickest_r1 : List Cond := [Cond.classLink RL 13 "java/lang/IllegalArgumentException", Cond.methodLink RL 64 yX4_quickest, Cond.instanceMethod yX4_quickest, Cond.selects RX4 yX4_quickest yX4_quickest, Cond.initialized RX4, Cond.code yX4_quickest cX4_quickest 3 (some .int), Cond.methodLink RX4 151 yX4_isWord, Cond.static yX4_isWord, Cond.code yX4_isWord cX4_isWord 2 (some .boolean), Cond.constant RX4 175 (999999), Cond.methodLink RX4 45 yX4_isWithin, Cond.static yX4_isWithin, Cond.code yX4_isWithin cX4_isWithin 3 (some .boolean), Cond.methodLink RX4 49 yX4_requireArgument, Cond.static yX4_requireArgument, Cond.code yX4_requireArgument cX4_requireArgument 1 none, Cond.classLink RX4 181 "java/lang/IllegalArgumentException", Cond.initialized "java/lang/IllegalArgumentException", Cond.methodLink RX4 147 yX4_wouldComeInOrder, Cond.instanceMethod yX4_wouldComeInOrder, Cond.selects RX4 yX4_wouldComeInOrder yX4_wouldComeInOrder, Cond.code yX4_wouldComeInOrder cX4_wouldComeInOrder 3 (some .boolean), Cond.fieldLink RX4 21 "EchoCave" "sound" "LEchoCave$Sound;", Cond.fieldLink RX4 35 "EchoCave" "ear" "I"]
def wsL_quickest_r2 : List Cond := [Cond.fieldLink RX4 32 "EchoCave" "trial" "LEchoCave$Echo;", Cond.methodLink RX4 111 yX3_runThrough, Cond.instanceMethod yX3_runThrough, Cond.selects RX3 yX3_runThrough yX3_runThrough, Cond.initialized RX3, Cond.code yX3_runThrough cX3_runThrough 7 none, Cond.fieldLink RX3 18 "EchoCave$Sound" "comings" "LEchoCave$Comings;", Cond.static yX4_placesOf, Cond.code yX4_placesOf cX4_placesOf 3 (some .int), Cond.methodLink RX3 44 yX2_begin, Cond.instanceMethod yX2_begin, Cond.selects RX2 yX2_begin yX2_begin, Cond.initialized RX2, Cond.code yX2_begin cX2_begin 3 none, Cond.fieldLink RX2 18 "EchoCave$Echo" "places" "I", Cond.fieldLink RX2 22 "EchoCave$Echo" "ear" "I", Cond.fieldLink RX2 25 "EchoCave$Echo" "kept" "I", Cond.fieldLink RX2 28 "EchoCave$Echo" "counted" "I", Cond.fieldLink RX2 31 "EchoCave$Echo" "placesInOrder" "I", Cond.fieldLink RX2 34 "EchoCave$Echo" "lastTime" "I", Cond.fieldLink RX2 15 "EchoCave$Echo" "firstTime" "[I", Cond.methodLink RX2 37 yJ7_fill_53178, Cond.static yJ7_fill_53178, Cond.initialized RJ7]
def wsL_quickest_r3 : List Cond := [Cond.code yJ7_fill_53178 cJ7_fill_53178 4 none, Cond.methodLink RX3 50 yX3_begin, Cond.instanceMethod yX3_begin, Cond.selects RX3 yX3_begin yX3_begin, Cond.code yX3_begin cX3_begin 6 none, Cond.fieldLink RX3 33 "EchoCave$Sound" "runs" "I", Cond.fieldLink RX3 37 "EchoCave$Sound" "clappersSetOff" "I", Cond.methodLink RX3 65 yX1_clear, Cond.instanceMethod yX1_clear, Cond.selects RX1 yX1_clear yX1_clear, Cond.initialized RX1, Cond.code yX1_clear cX1_clear 1 none, Cond.fieldLink RX1 15 "EchoCave$Comings" "size" "I", Cond.methodLink RX3 68 yX3_startRun, Cond.instanceMethod yX3_startRun, Cond.selects RX3 yX3_startRun yX3_startRun, Cond.code yX3_startRun cX3_startRun 6 none, Cond.fieldLink RX3 22 "EchoCave$Sound" "syllable" "[I", Cond.fieldLink RX3 26 "EchoCave$Sound" "place" "[I", Cond.fieldLink RX3 29 "EchoCave$Sound" "passagesUsed" "[J", Cond.methodLink RX3 72 yX1_pack, Cond.static yX1_pack, Cond.code yX1_pack cX1_pack 5 (some .int), Cond.methodLink RX3 76 yX1_put]
def wsL_quickest_r4 : List Cond := [Cond.instanceMethod yX1_put, Cond.selects RX1 yX1_put yX1_put, Cond.code yX1_put cX1_put 3 none, Cond.fieldLink RX1 11 "EchoCave$Comings" "heap" "[I", Cond.methodLink RX3 53 yX1_isEmpty, Cond.instanceMethod yX1_isEmpty, Cond.selects RX1 yX1_isEmpty yX1_isEmpty, Cond.code yX1_isEmpty cX1_isEmpty 1 (some .boolean), Cond.methodLink RX3 57 yX1_takeNext, Cond.instanceMethod yX1_takeNext, Cond.selects RX1 yX1_takeNext yX1_takeNext, Cond.code yX1_takeNext cX1_takeNext 2 (some .int), Cond.methodLink RX1 19 yX1_sink, Cond.instanceMethod yX1_sink, Cond.selects RX1 yX1_sink yX1_sink, Cond.code yX1_sink cX1_sink 4 none, Cond.methodLink RX3 61 yX3_come, Cond.instanceMethod yX3_come, Cond.selects RX3 yX3_come yX3_come, Cond.code yX3_come cX3_come 8 none, Cond.fieldLink RX3 9 "EchoCave$Sound" "cave" "LEchoCave$Cave;", Cond.methodLink RX3 80 yX1_timeOf, Cond.static yX1_timeOf, Cond.code yX1_timeOf cX1_timeOf 1 (some .int)]
def wsL_quickest_r5 : List Cond := [Cond.methodLink RX3 83 yX1_chamberOf, Cond.static yX1_chamberOf, Cond.code yX1_chamberOf cX1_chamberOf 1 (some .int), Cond.methodLink RX3 86 yX1_runOf, Cond.static yX1_runOf, Cond.code yX1_runOf cX1_runOf 1 (some .int), Cond.methodLink RX3 89 yX1_passageOf, Cond.static yX1_passageOf, Cond.code yX1_passageOf cX1_passageOf 1 (some .int), Cond.methodLink RX3 92 yX1_strengthOf, Cond.static yX1_strengthOf, Cond.code yX1_strengthOf cX1_strengthOf 1 (some .int), Cond.methodLink RX3 95 yX0_hasChamber, Cond.instanceMethod yX0_hasChamber, Cond.selects RX0 yX0_hasChamber yX0_hasChamber, Cond.initialized RX0, Cond.code yX0_hasChamber cX0_hasChamber 2 (some .boolean), Cond.fieldLink RX0 50 "EchoCave$Cave" "chambers" "I", Cond.methodLink RX3 104 yX2_hear, Cond.instanceMethod yX2_hear, Cond.selects RX2 yX2_hear yX2_hear, Cond.code yX2_hear cX2_hear 6 none, Cond.fieldLink RX2 9 "EchoCave$Echo" "facts" "[I", Cond.methodLink RX2 43 yX2_letCount]
def wsL_quickest_r6 : List Cond := [Cond.instanceMethod yX2_letCount, Cond.selects RX2 yX2_letCount yX2_letCount, Cond.code yX2_letCount cX2_letCount 3 none, Cond.methodLink RX3 108 yX0_drowns, Cond.instanceMethod yX0_drowns, Cond.selects RX0 yX0_drowns yX0_drowns, Cond.code yX0_drowns cX0_drowns 3 (some .boolean), Cond.fieldLink RX0 18 "EchoCave$Cave" "bats" "[I", Cond.methodLink RX3 112 yX3_setOffClapper, Cond.instanceMethod yX3_setOffClapper, Cond.selects RX3 yX3_setOffClapper yX3_setOffClapper, Cond.code yX3_setOffClapper cX3_setOffClapper 6 none, Cond.methodLink RX3 115 yX3_goOn, Cond.instanceMethod yX3_goOn, Cond.selects RX3 yX3_goOn yX3_goOn, Cond.code yX3_goOn cX3_goOn 8 none, Cond.methodLink RX3 136 yX0_isOpen, Cond.instanceMethod yX0_isOpen, Cond.selects RX0 yX0_isOpen yX0_isOpen, Cond.code yX0_isOpen cX0_isOpen 2 (some .boolean), Cond.fieldLink RX0 15 "EchoCave$Cave" "height" "[I", Cond.fieldLink RX0 35 "EchoCave$Cave" "from" "[I", Cond.fieldLink RX0 57 "EchoCave$Cave" "water" "I", Cond.fieldLink RX0 38 "EchoCave$Cave" "to" "[I"]
def wsL_quickest_r7 : List Cond := [Cond.methodLink RX3 122 yX3_goInto, Cond.instanceMethod yX3_goInto, Cond.selects RX3 yX3_goInto yX3_goInto, Cond.code yX3_goInto cX3_goInto 10 none, Cond.methodLink RX3 145 yX0_otherEnd, Cond.instanceMethod yX0_otherEnd, Cond.selects RX0 yX0_otherEnd yX0_otherEnd, Cond.code yX0_otherEnd cX0_otherEnd 3 (some .int), Cond.methodLink RX3 148 yX0_strengthBehind, Cond.instanceMethod yX0_strengthBehind, Cond.selects RX0 yX0_strengthBehind yX0_strengthBehind, Cond.code yX0_strengthBehind cX0_strengthBehind 3 (some .int), Cond.fieldLink RX0 44 "EchoCave$Cave" "narrow" "[I", Cond.methodLink RX3 118 yX0_strengthFromWall, Cond.instanceMethod yX0_strengthFromWall, Cond.selects RX0 yX0_strengthFromWall yX0_strengthFromWall, Cond.code yX0_strengthFromWall cX0_strengthFromWall 3 (some .int), Cond.fieldLink RX0 9 "EchoCave$Cave" "wall" "[I", Cond.methodLink RX4 124 yX2_cameInOrder, Cond.instanceMethod yX2_cameInOrder, Cond.selects RX2 yX2_cameInOrder yX2_cameInOrder, Cond.code yX2_cameInOrder cX2_cameInOrder 1 (some .boolean)]
def wsL_quickest : List Cond := .codeWith yL_quickest cL_quickest 4 (some .int) [(0, 9, 12, 13)] :: ((wsL_quickest_r1 ++ (wsL_quickest_r2 ++ (wsL_quickest_r3 ++ (wsL_quickest_r4 ++ (wsL_quickest_r5 ++ (wsL_quickest_r6 ++ wsL_quickest_r7)))))) ++ wsX40 ++ wsX30 ++ wsX20 ++ wsX10 ++ wsX00 ++ (vx_atS RX4 185 "java/lang/IllegalArgumentException" ["java/lang/RuntimeException", "java/lang/Exception"]).filter goodWord)
def wsL_way_r1 : List Cond := [Cond.classLink RL 21 "java/lang/IndexOutOfBoundsException", Cond.methodLink RL 67 yX4_way, Cond.instanceMethod yX4_way, Cond.selects RX4 yX4_way yX4_way, Cond.initialized RX4, Cond.code yX4_way cX4_way 3 (some .int), Cond.fieldLink RX4 12 "EchoCave" "cave" "LEchoCave$Cave;", Cond.methodLink RX4 67 yX0_hasChamber, Cond.instanceMethod yX0_hasChamber, Cond.selects RX0 yX0_hasChamber yX0_hasChamber, Cond.initialized RX0, Cond.code yX0_hasChamber cX0_hasChamber 2 (some .boolean), Cond.fieldLink RX0 50 "EchoCave$Cave" "chambers" "I", Cond.static yX4_isWithin, Cond.code yX4_isWithin cX4_isWithin 3 (some .boolean), Cond.methodLink RX4 71 yX4_requireIndex, Cond.static yX4_requireIndex, Cond.code yX4_requireIndex cX4_requireIndex 1 none, Cond.classLink RX4 176 "java/lang/IndexOutOfBoundsException", Cond.initialized "java/lang/IndexOutOfBoundsException", Cond.methodLink RX4 154 yX0_shortestWay, Cond.instanceMethod yX0_shortestWay, Cond.selects RX0 yX0_shortestWay yX0_shortestWay, Cond.code yX0_shortestWay cX0_shortestWay 5 (some .int)]
def wsL_way_r2 : List Cond := [Cond.fieldLink RX0 47 "EchoCave$Cave" "found" "[I", Cond.fieldLink RX0 54 "EchoCave$Cave" "passages" "I", Cond.fieldLink RX0 35 "EchoCave$Cave" "from" "[I", Cond.fieldLink RX0 38 "EchoCave$Cave" "to" "[I", Cond.fieldLink RX0 41 "EchoCave$Cave" "length" "[I", Cond.methodLink RX0 76 yJ7_fill_53178, Cond.static yJ7_fill_53178, Cond.initialized RJ7, Cond.code yJ7_fill_53178 cJ7_fill_53178 4 none, Cond.methodLink RX0 68 yX0_isOpen, Cond.instanceMethod yX0_isOpen, Cond.selects RX0 yX0_isOpen yX0_isOpen, Cond.code yX0_isOpen cX0_isOpen 2 (some .boolean), Cond.fieldLink RX0 15 "EchoCave$Cave" "height" "[I", Cond.fieldLink RX0 57 "EchoCave$Cave" "water" "I", Cond.methodLink RX0 82 yX0_shorten, Cond.instanceMethod yX0_shorten, Cond.selects RX0 yX0_shorten yX0_shorten, Cond.code yX0_shorten cX0_shorten 5 none]
def wsL_way : List Cond := .codeWith yL_way cL_way 5 (some .int) [(0, 10, 13, 21)] :: ((wsL_way_r1 ++ wsL_way_r2) ++ wsX40 ++ wsX00 ++ (vx_atS RX4 180 "java/lang/IndexOutOfBoundsException" ["java/lang/RuntimeException", "java/lang/Exception"]).filter goodWord)
def wsL_highest_r1 : List Cond := [Cond.classLink RL 21 "java/lang/IndexOutOfBoundsException", Cond.methodLink RL 70 yX4_highest, Cond.instanceMethod yX4_highest, Cond.selects RX4 yX4_highest yX4_highest, Cond.initialized RX4, Cond.code yX4_highest cX4_highest 2 (some .int), Cond.fieldLink RX4 12 "EchoCave" "cave" "LEchoCave$Cave;", Cond.methodLink RX4 67 yX0_hasChamber, Cond.instanceMethod yX0_hasChamber, Cond.selects RX0 yX0_hasChamber yX0_hasChamber, Cond.initialized RX0, Cond.code yX0_hasChamber cX0_hasChamber 2 (some .boolean), Cond.fieldLink RX0 50 "EchoCave$Cave" "chambers" "I", Cond.static yX4_isWithin, Cond.code yX4_isWithin cX4_isWithin 3 (some .boolean), Cond.methodLink RX4 71 yX4_requireIndex, Cond.static yX4_requireIndex, Cond.code yX4_requireIndex cX4_requireIndex 1 none, Cond.classLink RX4 176 "java/lang/IndexOutOfBoundsException", Cond.initialized "java/lang/IndexOutOfBoundsException", Cond.methodLink RX4 157 yX0_highestWater, Cond.instanceMethod yX0_highestWater, Cond.selects RX0 yX0_highestWater yX0_highestWater, Cond.code yX0_highestWater cX0_highestWater 4 (some .int)]
def wsL_highest_r2 : List Cond := [Cond.fieldLink RX0 47 "EchoCave$Cave" "found" "[I", Cond.fieldLink RX0 54 "EchoCave$Cave" "passages" "I", Cond.fieldLink RX0 35 "EchoCave$Cave" "from" "[I", Cond.fieldLink RX0 38 "EchoCave$Cave" "to" "[I", Cond.methodLink RX0 76 yJ7_fill_53178, Cond.static yJ7_fill_53178, Cond.initialized RJ7, Cond.code yJ7_fill_53178 cJ7_fill_53178 4 none, Cond.methodLink RX0 86 yX0_raise, Cond.instanceMethod yX0_raise, Cond.selects RX0 yX0_raise yX0_raise, Cond.code yX0_raise cX0_raise 4 none, Cond.fieldLink RX0 15 "EchoCave$Cave" "height" "[I", Cond.methodLink RX0 89 Lib.Math.min.name, Cond.static Lib.Math.min.name, Cond.initialized "java/lang/Math", Cond.code Lib.Math.min.name Lib.Math.min.code 2 (some .int), Cond.methodLink RX0 95 Lib.Math.max.name, Cond.static Lib.Math.max.name, Cond.code Lib.Math.max.name Lib.Math.max.code 2 (some .int)]
def wsL_highest : List Cond := .codeWith yL_highest cL_highest 4 (some .int) [(0, 9, 12, 21)] :: ((wsL_highest_r1 ++ wsL_highest_r2) ++ wsX40 ++ wsX00 ++ (vx_atS RX4 180 "java/lang/IndexOutOfBoundsException" ["java/lang/RuntimeException", "java/lang/Exception"]).filter goodWord)
def wsL_law0_r1 : List Cond := [Cond.classLink RL 8 RX4, Cond.instantiable RX4 7, Cond.initialized RX4, Cond.classLink RL 74 RX6, Cond.instantiable RX6 10, Cond.initialized RX6, Cond.arrayClass .long, Cond.methodLink RL 73 yX4_init, Cond.instanceMethod yX4_init, Cond.code yX4_init cX4_init 1 none, Cond.methodLink RX4 3 objectInit, Cond.instanceMethod objectInit, Cond.code objectInit ⟨#[0xb1]⟩ 1 none, Cond.classLink RX4 9 RX0, Cond.instantiable RX0 15, Cond.initialized RX0, Cond.fieldLink RX4 12 "EchoCave" "cave" "LEchoCave$Cave;", Cond.classLink RX4 16 RX3, Cond.instantiable RX3 7, Cond.initialized RX3, Cond.fieldLink RX4 21 "EchoCave" "sound" "LEchoCave$Sound;", Cond.classLink RX4 25 RX2, Cond.instantiable RX2 8, Cond.initialized RX2]
def wsL_law0_r2 : List Cond := [Cond.fieldLink RX4 28 "EchoCave" "latest" "LEchoCave$Echo;", Cond.fieldLink RX4 32 "EchoCave" "trial" "LEchoCave$Echo;", Cond.fieldLink RX4 35 "EchoCave" "ear" "I", Cond.fieldLink RX4 39 "EchoCave" "wordsSaid" "I", Cond.fieldLink RX4 42 "EchoCave" "latestWord" "I", Cond.methodLink RX4 11 yX0_init, Cond.instanceMethod yX0_init, Cond.code yX0_init cX0_init 1 none, Cond.methodLink RX0 3 objectInit, Cond.arrayClass .int, Cond.fieldLink RX0 9 "EchoCave$Cave" "wall" "[I", Cond.fieldLink RX0 15 "EchoCave$Cave" "height" "[I", Cond.fieldLink RX0 18 "EchoCave$Cave" "bats" "[I", Cond.fieldLink RX0 21 "EchoCave$Cave" "syllable" "[I", Cond.fieldLink RX0 24 "EchoCave$Cave" "delay" "[I", Cond.fieldLink RX0 27 "EchoCave$Cave" "doors" "[I", Cond.classLink RX0 30 "[[I", Cond.fieldLink RX0 32 "EchoCave$Cave" "passageBehind" "[[I", Cond.fieldLink RX0 35 "EchoCave$Cave" "from" "[I", Cond.fieldLink RX0 38 "EchoCave$Cave" "to" "[I", Cond.fieldLink RX0 41 "EchoCave$Cave" "length" "[I", Cond.fieldLink RX0 44 "EchoCave$Cave" "narrow" "[I", Cond.fieldLink RX0 47 "EchoCave$Cave" "found" "[I", Cond.fieldLink RX0 50 "EchoCave$Cave" "chambers" "I"]
def wsL_law0_r3 : List Cond := [Cond.fieldLink RX0 54 "EchoCave$Cave" "passages" "I", Cond.fieldLink RX0 57 "EchoCave$Cave" "water" "I", Cond.methodLink RX4 18 yX3_init, Cond.instanceMethod yX3_init, Cond.code yX3_init cX3_init 2 none, Cond.methodLink RX3 3 objectInit, Cond.fieldLink RX3 9 "EchoCave$Sound" "cave" "LEchoCave$Cave;", Cond.classLink RX3 15 RX1, Cond.instantiable RX1 2, Cond.initialized RX1, Cond.fieldLink RX3 18 "EchoCave$Sound" "comings" "LEchoCave$Comings;", Cond.fieldLink RX3 22 "EchoCave$Sound" "syllable" "[I", Cond.fieldLink RX3 26 "EchoCave$Sound" "place" "[I", Cond.fieldLink RX3 29 "EchoCave$Sound" "passagesUsed" "[J", Cond.fieldLink RX3 33 "EchoCave$Sound" "runs" "I", Cond.fieldLink RX3 37 "EchoCave$Sound" "clappersSetOff" "I", Cond.methodLink RX3 17 yX1_init, Cond.instanceMethod yX1_init, Cond.code yX1_init cX1_init 1 none, Cond.methodLink RX1 5 objectInit, Cond.fieldLink RX1 11 "EchoCave$Comings" "heap" "[I", Cond.fieldLink RX1 15 "EchoCave$Comings" "size" "I", Cond.methodLink RX4 27 yX2_init, Cond.instanceMethod yX2_init]
def wsL_law0_r4 : List Cond := [Cond.code yX2_init cX2_init 1 none, Cond.methodLink RX2 3 objectInit, Cond.fieldLink RX2 9 "EchoCave$Echo" "facts" "[I", Cond.fieldLink RX2 15 "EchoCave$Echo" "firstTime" "[I", Cond.fieldLink RX2 18 "EchoCave$Echo" "places" "I", Cond.fieldLink RX2 22 "EchoCave$Echo" "ear" "I", Cond.fieldLink RX2 25 "EchoCave$Echo" "kept" "I", Cond.fieldLink RX2 28 "EchoCave$Echo" "counted" "I", Cond.fieldLink RX2 31 "EchoCave$Echo" "placesInOrder" "I", Cond.fieldLink RX2 34 "EchoCave$Echo" "lastTime" "I", Cond.methodLink RL 76 yX6_init, Cond.instanceMethod yX6_init, Cond.code yX6_init cX6_init 1 none, Cond.methodLink RX6 3 objectInit, Cond.fieldLink RX6 9 "EchoCaveModel" "chambers" "I", Cond.fieldLink RX6 13 "EchoCaveModel" "ear" "I", Cond.fieldLink RX6 16 "EchoCaveModel" "room" "[I", Cond.fieldLink RX6 20 "EchoCaveModel" "tunnel" "[I", Cond.classLink RX6 23 RX5, Cond.instantiable RX5 21, Cond.initialized RX5, Cond.fieldLink RX6 28 "EchoCaveModel" "s" "LEchoCaveModel$Sound;", Cond.fieldLink RX6 32 "EchoCaveModel" "ahead" "LEchoCaveModel$Sound;", Cond.instanceMethod yX5_init]
def wsL_law0_r5 : List Cond := [Cond.code yX5_init cX5_init 2 none, Cond.fieldLink RX5 3 "EchoCaveModel$Sound" "this$0" "LEchoCaveModel;", Cond.methodLink RX5 9 objectInit, Cond.fieldLink RX5 15 "EchoCaveModel$Sound" "chamber" "I", Cond.fieldLink RX5 19 "EchoCaveModel$Sound" "firsts" "[I", Cond.fieldLink RX5 23 "EchoCaveModel$Sound" "heard" "[I", Cond.fieldLink RX5 26 "EchoCaveModel$Sound" "place" "[I", Cond.fieldLink RX5 29 "EchoCaveModel$Sound" "syllable" "[I", Cond.fieldLink RX5 32 "EchoCaveModel$Sound" "there" "[I", Cond.fieldLink RX5 35 "EchoCaveModel$Sound" "back" "[I", Cond.fieldLink RX5 38 "EchoCaveModel$Sound" "order" "[I", Cond.fieldLink RX5 41 "EchoCaveModel$Sound" "power" "[I", Cond.methodLink RL 77 yL_addChamber, Cond.static yL_addChamber, Cond.initialized RL, Cond.codeWith yL_addChamber cL_addChamber 6 (some .int) [(0, 12, 15, 13), (0, 12, 19, 15)], Cond.classLink RL 13 "java/lang/IllegalArgumentException", Cond.classLink RL 15 "java/lang/IllegalStateException", Cond.methodLink RL 7 yX4_addChamber, Cond.instanceMethod yX4_addChamber, Cond.selects RX4 yX4_addChamber yX4_addChamber, Cond.code yX4_addChamber cX4_addChamber 4 (some .int), Cond.classLink RX4 56 "java/lang/IllegalStateException", Cond.initialized "java/lang/IllegalStateException"]
def wsL_law0_r6 : List Cond := [Cond.methodLink RX4 45 yX4_isWithin, Cond.static yX4_isWithin, Cond.code yX4_isWithin cX4_isWithin 3 (some .boolean), Cond.methodLink RX4 49 yX4_requireArgument, Cond.static yX4_requireArgument, Cond.code yX4_requireArgument cX4_requireArgument 1 none, Cond.classLink RX4 181 "java/lang/IllegalArgumentException", Cond.initialized "java/lang/IllegalArgumentException", Cond.methodLink RX4 63 yX0_findChamber, Cond.instanceMethod yX0_findChamber, Cond.selects RX0 yX0_findChamber yX0_findChamber, Cond.code yX0_findChamber cX0_findChamber 5 (some .int), Cond.methodLink RL 82 yX6_addChamber, Cond.instanceMethod yX6_addChamber, Cond.selects RX6 yX6_addChamber yX6_addChamber, Cond.code yX6_addChamber cX6_addChamber 5 (some .int), Cond.fieldLink RX6 35 "EchoCaveModel" "thrown" "I", Cond.methodLink RX6 47 arraycopyName, Cond.native arraycopyName, Cond.static arraycopyName, Cond.initialized "java/lang/System", Cond.methodLink RX6 38 yX6_isIn, Cond.static yX6_isIn, Cond.code yX6_isIn cX6_isIn 3 (some .boolean)]
def wsL_law0_r7 : List Cond := [Cond.methodLink RX6 43 yX6_no, Cond.instanceMethod yX6_no, Cond.selects RX6 yX6_no yX6_no, Cond.code yX6_no cX6_no 2 (some .int), Cond.methodLink RL 83 yX6_thrown, Cond.instanceMethod yX6_thrown, Cond.selects RX6 yX6_thrown yX6_thrown, Cond.code yX6_thrown cX6_thrown 1 (some .int), Cond.methodLink RL 87 yL_addPassage, Cond.static yL_addPassage, Cond.codeWith yL_addPassage cL_addPassage 7 (some .int) [(0, 14, 17, 21), (0, 14, 21, 13), (0, 14, 25, 15)], Cond.classLink RL 21 "java/lang/IndexOutOfBoundsException", Cond.methodLink RL 17 yX4_addPassage, Cond.instanceMethod yX4_addPassage, Cond.selects RX4 yX4_addPassage yX4_addPassage, Cond.code yX4_addPassage cX4_addPassage 5 (some .int), Cond.methodLink RX4 67 yX0_hasChamber, Cond.instanceMethod yX0_hasChamber, Cond.selects RX0 yX0_hasChamber yX0_hasChamber, Cond.code yX0_hasChamber cX0_hasChamber 2 (some .boolean), Cond.methodLink RX4 71 yX4_requireIndex, Cond.static yX4_requireIndex, Cond.code yX4_requireIndex cX4_requireIndex 1 none, Cond.classLink RX4 176 "java/lang/IndexOutOfBoundsException"]
def wsL_law0_r8 : List Cond := [Cond.initialized "java/lang/IndexOutOfBoundsException", Cond.methodLink RX4 79 yX0_findPassage, Cond.instanceMethod yX0_findPassage, Cond.selects RX0 yX0_findPassage yX0_findPassage, Cond.code yX0_findPassage cX0_findPassage 6 (some .int), Cond.methodLink RX0 64 yX0_addDoor, Cond.instanceMethod yX0_addDoor, Cond.selects RX0 yX0_addDoor yX0_addDoor, Cond.code yX0_addDoor cX0_addDoor 3 none, Cond.methodLink RL 90 yX6_addPassage, Cond.instanceMethod yX6_addPassage, Cond.selects RX6 yX6_addPassage yX6_addPassage, Cond.code yX6_addPassage cX6_addPassage 6 (some .int), Cond.fieldLink RX6 57 "EchoCaveModel" "passages" "I", Cond.methodLink RX6 53 yX6_isChamber, Cond.instanceMethod yX6_isChamber, Cond.selects RX6 yX6_isChamber yX6_isChamber, Cond.code yX6_isChamber cX6_isChamber 2 (some .boolean), Cond.methodLink RL 91 yL_setWater, Cond.static yL_setWater, Cond.codeWith yL_setWater cL_setWater 4 (some .int) [(0, 9, 12, 13)], Cond.methodLink RL 23 yX4_setWater, Cond.instanceMethod yX4_setWater, Cond.selects RX4 yX4_setWater yX4_setWater]
def wsL_law0_r9 : List Cond := [Cond.code yX4_setWater cX4_setWater 3 (some .int), Cond.methodLink RL 94 yX6_setWater, Cond.instanceMethod yX6_setWater, Cond.selects RX6 yX6_setWater yX6_setWater, Cond.code yX6_setWater cX6_setWater 3 (some .int), Cond.fieldLink RX6 60 "EchoCaveModel" "water" "I", Cond.methodLink RL 95 yL_setBats, Cond.static yL_setBats, Cond.codeWith yL_setBats cL_setBats 5 (some .int) [(0, 10, 13, 21), (0, 10, 17, 13)], Cond.methodLink RL 27 yX4_setBats, Cond.instanceMethod yX4_setBats, Cond.selects RX4 yX4_setBats yX4_setBats, Cond.code yX4_setBats cX4_setBats 4 (some .int), Cond.methodLink RL 98 yX6_setBats, Cond.instanceMethod yX6_setBats, Cond.selects RX6 yX6_setBats yX6_setBats, Cond.code yX6_setBats cX6_setBats 4 (some .int), Cond.methodLink RL 99 yL_setClapper, Cond.static yL_setClapper, Cond.codeWith yL_setClapper cL_setClapper 6 (some .int) [(0, 12, 15, 21), (0, 12, 19, 13)], Cond.methodLink RL 31 yX4_setClapper, Cond.instanceMethod yX4_setClapper, Cond.selects RX4 yX4_setClapper yX4_setClapper, Cond.code yX4_setClapper cX4_setClapper 5 (some .int)]
def wsL_law0_r10 : List Cond := [Cond.methodLink RX4 93 yX0_putClapper, Cond.instanceMethod yX0_putClapper, Cond.selects RX0 yX0_putClapper yX0_putClapper, Cond.code yX0_putClapper cX0_putClapper 4 none, Cond.methodLink RL 101 yX6_setClapper, Cond.instanceMethod yX6_setClapper, Cond.selects RX6 yX6_setClapper yX6_setClapper, Cond.code yX6_setClapper cX6_setClapper 5 (some .int), Cond.methodLink RL 102 yL_setEar, Cond.static yL_setEar, Cond.codeWith yL_setEar cL_setEar 4 (some .int) [(0, 9, 12, 13)], Cond.methodLink RL 34 yX4_setEar, Cond.instanceMethod yX4_setEar, Cond.selects RX4 yX4_setEar yX4_setEar, Cond.code yX4_setEar cX4_setEar 3 (some .int), Cond.methodLink RL 104 yX6_setEar, Cond.instanceMethod yX6_setEar, Cond.selects RX6 yX6_setEar yX6_setEar, Cond.code yX6_setEar cX6_setEar 3 (some .int), Cond.methodLink RL 105 yL_chamber, Cond.static yL_chamber, Cond.codeWith yL_chamber cL_chamber 5 (some .int) [(0, 10, 13, 21)], Cond.methodLink RL 37 yX4_chamber, Cond.instanceMethod yX4_chamber]
def wsL_law0_r11 : List Cond := [Cond.selects RX4 yX4_chamber yX4_chamber, Cond.code yX4_chamber cX4_chamber 3 (some .int), Cond.methodLink RX4 97 yX0_chamberFact, Cond.instanceMethod yX0_chamberFact, Cond.selects RX0 yX0_chamberFact yX0_chamberFact, Cond.code yX0_chamberFact cX0_chamberFact 3 (some .int), Cond.methodLink RX0 72 yX0_openDoors, Cond.instanceMethod yX0_openDoors, Cond.selects RX0 yX0_openDoors yX0_openDoors, Cond.code yX0_openDoors cX0_openDoors 4 (some .int), Cond.methodLink RX0 68 yX0_isOpen, Cond.instanceMethod yX0_isOpen, Cond.selects RX0 yX0_isOpen yX0_isOpen, Cond.code yX0_isOpen cX0_isOpen 2 (some .boolean), Cond.methodLink RL 107 yX6_chamber, Cond.instanceMethod yX6_chamber, Cond.selects RX6 yX6_chamber yX6_chamber, Cond.code yX6_chamber cX6_chamber 3 (some .int), Cond.methodLink RX6 70 yX6_chamberTold, Cond.instanceMethod yX6_chamberTold, Cond.selects RX6 yX6_chamberTold yX6_chamberTold, Cond.code yX6_chamberTold cX6_chamberTold 5 (some .int), Cond.methodLink RX6 63 yX6_touches, Cond.instanceMethod yX6_touches]
def wsL_law0_r12 : List Cond := [Cond.selects RX6 yX6_touches yX6_touches, Cond.code yX6_touches cX6_touches 3 (some .boolean), Cond.methodLink RX6 67 yX6_isOpen, Cond.instanceMethod yX6_isOpen, Cond.selects RX6 yX6_isOpen yX6_isOpen, Cond.code yX6_isOpen cX6_isOpen 3 (some .boolean), Cond.methodLink RL 108 yL_passage, Cond.static yL_passage, Cond.codeWith yL_passage cL_passage 5 (some .int) [(0, 10, 13, 21)], Cond.methodLink RL 40 yX4_passage, Cond.instanceMethod yX4_passage, Cond.selects RX4 yX4_passage yX4_passage, Cond.code yX4_passage cX4_passage 3 (some .int), Cond.methodLink RX4 101 yX0_hasPassage, Cond.instanceMethod yX0_hasPassage, Cond.selects RX0 yX0_hasPassage yX0_hasPassage, Cond.code yX0_hasPassage cX0_hasPassage 2 (some .boolean), Cond.methodLink RX4 104 yX0_passageFact, Cond.instanceMethod yX0_passageFact, Cond.selects RX0 yX0_passageFact yX0_passageFact, Cond.code yX0_passageFact cX0_passageFact 3 (some .int), Cond.methodLink RL 110 yX6_passage, Cond.instanceMethod yX6_passage, Cond.selects RX6 yX6_passage yX6_passage]
def wsL_law0_r13 : List Cond := [Cond.code yX6_passage cX6_passage 3 (some .int), Cond.methodLink RX6 74 yX6_passageTold, Cond.instanceMethod yX6_passageTold, Cond.selects RX6 yX6_passageTold yX6_passageTold, Cond.code yX6_passageTold cX6_passageTold 3 (some .int), Cond.methodLink RL 111 yL_say, Cond.static yL_say, Cond.codeWith yL_say cL_say 5 (some .int) [(0, 10, 13, 13)], Cond.methodLink RL 43 yX4_say, Cond.instanceMethod yX4_say, Cond.selects RX4 yX4_say yX4_say, Cond.code yX4_say cX4_say 3 (some .int), Cond.methodLink RX4 107 yX4_requireWordAndBeat, Cond.static yX4_requireWordAndBeat, Cond.code yX4_requireWordAndBeat cX4_requireWordAndBeat 2 none, Cond.methodLink RX4 151 yX4_isWord, Cond.static yX4_isWord, Cond.code yX4_isWord cX4_isWord 2 (some .boolean), Cond.constant RX4 175 (999999), Cond.methodLink RX4 111 yX3_runThrough, Cond.instanceMethod yX3_runThrough, Cond.selects RX3 yX3_runThrough yX3_runThrough, Cond.code yX3_runThrough cX3_runThrough 7 none, Cond.static yX4_placesOf]
def wsL_law0_r14 : List Cond := [Cond.code yX4_placesOf cX4_placesOf 3 (some .int), Cond.methodLink RX3 44 yX2_begin, Cond.instanceMethod yX2_begin, Cond.selects RX2 yX2_begin yX2_begin, Cond.code yX2_begin cX2_begin 3 none, Cond.methodLink RX2 37 yJ7_fill_53178, Cond.static yJ7_fill_53178, Cond.initialized RJ7, Cond.code yJ7_fill_53178 cJ7_fill_53178 4 none, Cond.methodLink RX3 50 yX3_begin, Cond.instanceMethod yX3_begin, Cond.selects RX3 yX3_begin yX3_begin, Cond.code yX3_begin cX3_begin 6 none, Cond.methodLink RX3 65 yX1_clear, Cond.instanceMethod yX1_clear, Cond.selects RX1 yX1_clear yX1_clear, Cond.code yX1_clear cX1_clear 1 none, Cond.methodLink RX3 68 yX3_startRun, Cond.instanceMethod yX3_startRun, Cond.selects RX3 yX3_startRun yX3_startRun, Cond.code yX3_startRun cX3_startRun 6 none, Cond.methodLink RX3 72 yX1_pack, Cond.static yX1_pack, Cond.code yX1_pack cX1_pack 5 (some .int)]
def wsL_law0_r15 : List Cond := [Cond.methodLink RX3 76 yX1_put, Cond.instanceMethod yX1_put, Cond.selects RX1 yX1_put yX1_put, Cond.code yX1_put cX1_put 3 none, Cond.methodLink RX3 53 yX1_isEmpty, Cond.instanceMethod yX1_isEmpty, Cond.selects RX1 yX1_isEmpty yX1_isEmpty, Cond.code yX1_isEmpty cX1_isEmpty 1 (some .boolean), Cond.methodLink RX3 57 yX1_takeNext, Cond.instanceMethod yX1_takeNext, Cond.selects RX1 yX1_takeNext yX1_takeNext, Cond.code yX1_takeNext cX1_takeNext 2 (some .int), Cond.methodLink RX1 19 yX1_sink, Cond.instanceMethod yX1_sink, Cond.selects RX1 yX1_sink yX1_sink, Cond.code yX1_sink cX1_sink 4 none, Cond.methodLink RX3 61 yX3_come, Cond.instanceMethod yX3_come, Cond.selects RX3 yX3_come yX3_come, Cond.code yX3_come cX3_come 8 none, Cond.methodLink RX3 80 yX1_timeOf, Cond.static yX1_timeOf, Cond.code yX1_timeOf cX1_timeOf 1 (some .int), Cond.methodLink RX3 83 yX1_chamberOf]
def wsL_law0_r16 : List Cond := [Cond.static yX1_chamberOf, Cond.code yX1_chamberOf cX1_chamberOf 1 (some .int), Cond.methodLink RX3 86 yX1_runOf, Cond.static yX1_runOf, Cond.code yX1_runOf cX1_runOf 1 (some .int), Cond.methodLink RX3 89 yX1_passageOf, Cond.static yX1_passageOf, Cond.code yX1_passageOf cX1_passageOf 1 (some .int), Cond.methodLink RX3 92 yX1_strengthOf, Cond.static yX1_strengthOf, Cond.code yX1_strengthOf cX1_strengthOf 1 (some .int), Cond.methodLink RX3 95 yX0_hasChamber, Cond.methodLink RX3 104 yX2_hear, Cond.instanceMethod yX2_hear, Cond.selects RX2 yX2_hear yX2_hear, Cond.code yX2_hear cX2_hear 6 none, Cond.methodLink RX2 43 yX2_letCount, Cond.instanceMethod yX2_letCount, Cond.selects RX2 yX2_letCount yX2_letCount, Cond.code yX2_letCount cX2_letCount 3 none, Cond.methodLink RX3 108 yX0_drowns, Cond.instanceMethod yX0_drowns, Cond.selects RX0 yX0_drowns yX0_drowns, Cond.code yX0_drowns cX0_drowns 3 (some .boolean)]
def wsL_law0_r17 : List Cond := [Cond.methodLink RX3 112 yX3_setOffClapper, Cond.instanceMethod yX3_setOffClapper, Cond.selects RX3 yX3_setOffClapper yX3_setOffClapper, Cond.code yX3_setOffClapper cX3_setOffClapper 6 none, Cond.methodLink RX3 115 yX3_goOn, Cond.instanceMethod yX3_goOn, Cond.selects RX3 yX3_goOn yX3_goOn, Cond.code yX3_goOn cX3_goOn 8 none, Cond.methodLink RX3 136 yX0_isOpen, Cond.methodLink RX3 122 yX3_goInto, Cond.instanceMethod yX3_goInto, Cond.selects RX3 yX3_goInto yX3_goInto, Cond.code yX3_goInto cX3_goInto 10 none, Cond.methodLink RX3 145 yX0_otherEnd, Cond.instanceMethod yX0_otherEnd, Cond.selects RX0 yX0_otherEnd yX0_otherEnd, Cond.code yX0_otherEnd cX0_otherEnd 3 (some .int), Cond.methodLink RX3 148 yX0_strengthBehind, Cond.instanceMethod yX0_strengthBehind, Cond.selects RX0 yX0_strengthBehind yX0_strengthBehind, Cond.code yX0_strengthBehind cX0_strengthBehind 3 (some .int), Cond.methodLink RX3 118 yX0_strengthFromWall, Cond.instanceMethod yX0_strengthFromWall, Cond.selects RX0 yX0_strengthFromWall yX0_strengthFromWall]
def wsL_law0_r18 : List Cond := [Cond.code yX0_strengthFromWall cX0_strengthFromWall 3 (some .int), Cond.methodLink RL 113 yX6_say, Cond.instanceMethod yX6_say, Cond.selects RX6 yX6_say yX6_say, Cond.code yX6_say cX6_say 3 (some .int), Cond.fieldLink RX6 84 "EchoCaveModel" "said" "I", Cond.methodLink RX6 77 yX6_isWord, Cond.static yX6_isWord, Cond.code yX6_isWord cX6_isWord 3 (some .boolean), Cond.constant RX6 42 (999999), Cond.methodLink RX6 80 yX5_say, Cond.instanceMethod yX5_say, Cond.selects RX5 yX5_say yX5_say, Cond.code yX5_say cX5_say 5 none, Cond.fieldLink RX5 110 "EchoCaveModel$Sound" "word" "I", Cond.fieldLink RX5 113 "EchoCaveModel$Sound" "places" "I", Cond.fieldLink RX5 53 "EchoCaveModel$Sound" "runs" "I", Cond.fieldLink RX5 63 "EchoCaveModel$Sound" "kept" "I", Cond.fieldLink RX5 69 "EchoCaveModel$Sound" "counted" "I", Cond.fieldLink RX5 75 "EchoCaveModel$Sound" "inOrder" "I", Cond.fieldLink RX5 72 "EchoCaveModel$Sound" "latest" "I", Cond.fieldLink RX5 50 "EchoCaveModel$Sound" "waiting" "I", Cond.fieldLink RX5 81 "EchoCaveModel$Sound" "clapped" "I", Cond.methodLink RX5 116 Lib.Math.max.name]
def wsL_law0_r19 : List Cond := [Cond.static Lib.Math.max.name, Cond.initialized "java/lang/Math", Cond.code Lib.Math.max.name Lib.Math.max.code 2 (some .int), Cond.methodLink RX5 84 yX5_start, Cond.instanceMethod yX5_start, Cond.selects RX5 yX5_start yX5_start, Cond.code yX5_start cX5_start 6 none, Cond.methodLink RX5 56 yX5_come, Cond.instanceMethod yX5_come, Cond.selects RX5 yX5_come yX5_come, Cond.code yX5_come cX5_come 8 none, Cond.methodLink RX5 122 yX5_arrive, Cond.instanceMethod yX5_arrive, Cond.selects RX5 yX5_arrive yX5_arrive, Cond.code yX5_arrive cX5_arrive 8 none, Cond.methodLink RX5 87 yX5_hear, Cond.instanceMethod yX5_hear, Cond.selects RX5 yX5_hear yX5_hear, Cond.code yX5_hear cX5_hear 6 none, Cond.methodLink RX5 91 yX5_clap, Cond.instanceMethod yX5_clap, Cond.selects RX5 yX5_clap yX5_clap, Cond.code yX5_clap cX5_clap 6 none, Cond.fieldLink RX5 44 "EchoCaveModel$Sound" "with" "I"]
def wsL_law0_r20 : List Cond := [Cond.fieldLink RX5 47 "EchoCaveModel$Sound" "late" "I", Cond.methodLink RX5 107 yX5_go, Cond.instanceMethod yX5_go, Cond.selects RX5 yX5_go yX5_go, Cond.code yX5_go cX5_go 8 none, Cond.methodLink RL 114 yL_heard, Cond.static yL_heard, Cond.codeWith yL_heard cL_heard 5 (some .int) [(0, 10, 13, 21)], Cond.methodLink RL 46 yX4_heard, Cond.instanceMethod yX4_heard, Cond.selects RX4 yX4_heard yX4_heard, Cond.code yX4_heard cX4_heard 3 (some .int), Cond.methodLink RX4 121 yX2_heardFact, Cond.instanceMethod yX2_heardFact, Cond.selects RX2 yX2_heardFact yX2_heardFact, Cond.code yX2_heardFact cX2_heardFact 3 (some .int), Cond.methodLink RL 116 yX6_heard, Cond.instanceMethod yX6_heard, Cond.selects RX6 yX6_heard yX6_heard, Cond.code yX6_heard cX6_heard 3 (some .int), Cond.methodLink RL 117 yX4_inOrder, Cond.instanceMethod yX4_inOrder, Cond.selects RX4 yX4_inOrder yX4_inOrder, Cond.code yX4_inOrder cX4_inOrder 1 (some .boolean)]
def wsL_law0_r21 : List Cond := [Cond.methodLink RX4 124 yX2_cameInOrder, Cond.instanceMethod yX2_cameInOrder, Cond.selects RX2 yX2_cameInOrder yX2_cameInOrder, Cond.code yX2_cameInOrder cX2_cameInOrder 1 (some .boolean), Cond.methodLink RL 121 yX6_inOrder, Cond.instanceMethod yX6_inOrder, Cond.selects RX6 yX6_inOrder yX6_inOrder, Cond.code yX6_inOrder cX6_inOrder 1 (some .boolean), Cond.methodLink RX6 96 yX5_isInOrder, Cond.instanceMethod yX5_isInOrder, Cond.selects RX5 yX5_isInOrder yX5_isInOrder, Cond.code yX5_isInOrder cX5_isInOrder 1 (some .boolean), Cond.methodLink RL 122 yL_first, Cond.static yL_first, Cond.codeWith yL_first cL_first 4 (some .int) [(0, 9, 12, 21)], Cond.methodLink RL 49 yX4_first, Cond.instanceMethod yX4_first, Cond.selects RX4 yX4_first yX4_first, Cond.code yX4_first cX4_first 2 (some .int), Cond.methodLink RL 124 yX6_first, Cond.instanceMethod yX6_first, Cond.selects RX6 yX6_first yX6_first, Cond.code yX6_first cX6_first 2 (some .int), Cond.methodLink RL 125 yL_count]
def wsL_law0_r22 : List Cond := [Cond.static yL_count, Cond.codeWith yL_count cL_count 4 (some .int) [(0, 9, 12, 21)], Cond.methodLink RL 52 yX4_count, Cond.instanceMethod yX4_count, Cond.selects RX4 yX4_count yX4_count, Cond.code yX4_count cX4_count 2 (some .int), Cond.methodLink RX4 134 yX4_countFact, Cond.instanceMethod yX4_countFact, Cond.selects RX4 yX4_countFact yX4_countFact, Cond.code yX4_countFact cX4_countFact 2 (some .int), Cond.methodLink RX4 168 yX0_openPassages, Cond.instanceMethod yX0_openPassages, Cond.selects RX0 yX0_openPassages yX0_openPassages, Cond.code yX0_openPassages cX0_openPassages 3 (some .int), Cond.methodLink RX4 172 yX0_clappers, Cond.instanceMethod yX0_clappers, Cond.selects RX0 yX0_clappers yX0_clappers, Cond.code yX0_clappers cX0_clappers 3 (some .int), Cond.methodLink RL 127 yX6_count, Cond.instanceMethod yX6_count, Cond.selects RX6 yX6_count yX6_count, Cond.code yX6_count cX6_count 2 (some .int), Cond.methodLink RX6 109 yX6_counted, Cond.instanceMethod yX6_counted]
def wsL_law0_r23 : List Cond := [Cond.selects RX6 yX6_counted yX6_counted, Cond.code yX6_counted cX6_counted 4 (some .int), Cond.methodLink RL 128 yL_would, Cond.static yL_would, Cond.codeWith yL_would cL_would 6 (some .int) [(0, 12, 15, 13), (0, 12, 19, 21)], Cond.methodLink RL 55 yX4_would, Cond.instanceMethod yX4_would, Cond.selects RX4 yX4_would yX4_would, Cond.code yX4_would cX4_would 4 (some .int), Cond.methodLink RL 130 yX6_would, Cond.instanceMethod yX6_would, Cond.selects RX6 yX6_would yX6_would, Cond.code yX6_would cX6_would 5 (some .int), Cond.methodLink RX6 111 yX6_comes, Cond.instanceMethod yX6_comes, Cond.selects RX6 yX6_comes yX6_comes, Cond.code yX6_comes cX6_comes 3 (some .boolean), Cond.methodLink RL 131 yL_advise, Cond.static yL_advise, Cond.codeWith yL_advise cL_advise 7 (some .int) [(0, 14, 17, 13)], Cond.methodLink RL 58 yX4_advise, Cond.instanceMethod yX4_advise, Cond.selects RX4 yX4_advise yX4_advise, Cond.code yX4_advise cX4_advise 9 (some .int)]
def wsL_law0_r24 : List Cond := [Cond.methodLink RX4 147 yX4_wouldComeInOrder, Cond.instanceMethod yX4_wouldComeInOrder, Cond.selects RX4 yX4_wouldComeInOrder yX4_wouldComeInOrder, Cond.code yX4_wouldComeInOrder cX4_wouldComeInOrder 3 (some .boolean), Cond.methodLink RL 133 yX6_advise, Cond.instanceMethod yX6_advise, Cond.selects RX6 yX6_advise yX6_advise, Cond.code yX6_advise cX6_advise 7 (some .int), Cond.methodLink RX6 120 yX5_instead, Cond.instanceMethod yX5_instead, Cond.selects RX5 yX5_instead yX5_instead, Cond.code yX5_instead cX5_instead 4 none, Cond.methodLink RL 134 yL_longest, Cond.static yL_longest, Cond.codeWith yL_longest cL_longest 5 (some .int) [(0, 10, 13, 13)], Cond.methodLink RL 61 yX4_longest, Cond.instanceMethod yX4_longest, Cond.selects RX4 yX4_longest yX4_longest, Cond.code yX4_longest cX4_longest 6 (some .int), Cond.methodLink RL 136 yX6_longest, Cond.instanceMethod yX6_longest, Cond.selects RX6 yX6_longest yX6_longest, Cond.code yX6_longest cX6_longest 6 (some .int), Cond.methodLink RL 137 yL_quickest]
def wsL_law0_r25 : List Cond := [Cond.static yL_quickest, Cond.codeWith yL_quickest cL_quickest 4 (some .int) [(0, 9, 12, 13)], Cond.methodLink RL 64 yX4_quickest, Cond.instanceMethod yX4_quickest, Cond.selects RX4 yX4_quickest yX4_quickest, Cond.code yX4_quickest cX4_quickest 3 (some .int), Cond.methodLink RL 139 yX6_quickest, Cond.instanceMethod yX6_quickest, Cond.selects RX6 yX6_quickest yX6_quickest, Cond.code yX6_quickest cX6_quickest 3 (some .int), Cond.methodLink RL 140 yL_way, Cond.static yL_way, Cond.codeWith yL_way cL_way 5 (some .int) [(0, 10, 13, 21)], Cond.methodLink RL 67 yX4_way, Cond.instanceMethod yX4_way, Cond.selects RX4 yX4_way yX4_way, Cond.code yX4_way cX4_way 3 (some .int), Cond.methodLink RX4 154 yX0_shortestWay, Cond.instanceMethod yX0_shortestWay, Cond.selects RX0 yX0_shortestWay yX0_shortestWay, Cond.code yX0_shortestWay cX0_shortestWay 5 (some .int), Cond.methodLink RX0 76 yJ7_fill_53178, Cond.methodLink RX0 82 yX0_shorten, Cond.instanceMethod yX0_shorten]
def wsL_law0_r26 : List Cond := [Cond.selects RX0 yX0_shorten yX0_shorten, Cond.code yX0_shorten cX0_shorten 5 none, Cond.methodLink RL 142 yX6_way, Cond.instanceMethod yX6_way, Cond.selects RX6 yX6_way yX6_way, Cond.code yX6_way cX6_way 3 (some .int), Cond.methodLink RX6 129 yX6_shortest, Cond.instanceMethod yX6_shortest, Cond.selects RX6 yX6_shortest yX6_shortest, Cond.code yX6_shortest cX6_shortest 10 (some .int), Cond.methodLink RX6 124 Lib.Math.min.name, Cond.static Lib.Math.min.name, Cond.code Lib.Math.min.name Lib.Math.min.code 2 (some .int), Cond.methodLink RL 143 yL_highest, Cond.static yL_highest, Cond.codeWith yL_highest cL_highest 4 (some .int) [(0, 9, 12, 21)], Cond.methodLink RL 70 yX4_highest, Cond.instanceMethod yX4_highest, Cond.selects RX4 yX4_highest yX4_highest, Cond.code yX4_highest cX4_highest 2 (some .int), Cond.methodLink RX4 157 yX0_highestWater, Cond.instanceMethod yX0_highestWater, Cond.selects RX0 yX0_highestWater yX0_highestWater, Cond.code yX0_highestWater cX0_highestWater 4 (some .int)]
def wsL_law0_r27 : List Cond := [Cond.methodLink RX0 86 yX0_raise, Cond.instanceMethod yX0_raise, Cond.selects RX0 yX0_raise yX0_raise, Cond.code yX0_raise cX0_raise 4 none, Cond.methodLink RX0 89 Lib.Math.min.name, Cond.methodLink RX0 95 Lib.Math.max.name, Cond.methodLink RL 145 yX6_highest, Cond.instanceMethod yX6_highest, Cond.selects RX6 yX6_highest yX6_highest, Cond.code yX6_highest cX6_highest 3 (some .int), Cond.methodLink RL 146 yX4_mean, Cond.instanceMethod yX4_mean, Cond.selects RX4 yX4_mean yX4_mean, Cond.code yX4_mean cX4_mean 1 (some .double), Cond.methodLink RX4 160 yX2_meanStrength, Cond.instanceMethod yX2_meanStrength, Cond.selects RX2 yX2_meanStrength yX2_meanStrength, Cond.code yX2_meanStrength cX2_meanStrength 3 (some .double), Cond.methodLink RX2 51 yX2_heardFact, Cond.methodLink RL 150 yX6_mean, Cond.instanceMethod yX6_mean, Cond.selects RX6 yX6_mean yX6_mean, Cond.code yX6_mean cX6_mean 3 (some .double), Cond.methodLink RL 151 yX4_digest]
def wsL_law0_r28 : List Cond := [Cond.instanceMethod yX4_digest, Cond.selects RX4 yX4_digest yX4_digest, Cond.code yX4_digest cX4_digest 5 (some .long), Cond.constantLong RX4 164 (691), Cond.constantLong RX4 166 (31), Cond.methodLink RL 155 yX6_digest, Cond.instanceMethod yX6_digest, Cond.selects RX6 yX6_digest yX6_digest, Cond.code yX6_digest cX6_digest 5 (some .long), Cond.constantLong RX6 133 (691), Cond.constantLong RX6 135 (31)]
def wsL_law0 : List Cond := (wsL_law0_r1 ++ (wsL_law0_r2 ++ (wsL_law0_r3 ++ (wsL_law0_r4 ++ (wsL_law0_r5 ++ (wsL_law0_r6 ++ (wsL_law0_r7 ++ (wsL_law0_r8 ++ (wsL_law0_r9 ++ (wsL_law0_r10 ++ (wsL_law0_r11 ++ (wsL_law0_r12 ++ (wsL_law0_r13 ++ (wsL_law0_r14 ++ (wsL_law0_r15 ++ (wsL_law0_r16 ++ (wsL_law0_r17 ++ (wsL_law0_r18 ++ (wsL_law0_r19 ++ (wsL_law0_r20 ++ (wsL_law0_r21 ++ (wsL_law0_r22 ++ (wsL_law0_r23 ++ (wsL_law0_r24 ++ (wsL_law0_r25 ++ (wsL_law0_r26 ++ (wsL_law0_r27 ++ wsL_law0_r28))))))))))))))))))))))))))) ++ wsX40 ++ wsX60 ++ wsX00 ++ wsX30 ++ wsX20 ++ wsX10 ++ wsX50 ++ ([] : List Cond)
def wsL_law : List Cond := wsL_law0 ++ (vx_atS RX4 60 "java/lang/IllegalStateException" ["java/lang/RuntimeException", "java/lang/Exception"]).filter goodWord ++ (vx_atS RX4 185 "java/lang/IllegalArgumentException" ["java/lang/RuntimeException", "java/lang/Exception"]).filter goodWord ++ (vx_atS RX4 180 "java/lang/IndexOutOfBoundsException" ["java/lang/RuntimeException", "java/lang/Exception"]).filter goodWord
set_option maxRecDepth 20000 in
theorem wsL_law_in0 : ∀ w ∈ wsL_law0, w ∈ lw_tbl := fun w h => (goodIn_p wsL_law0 [51, 54, 59, 127, 133, 170, 684, 690, 287, 290, 293, 381, 807, 810, 814, 803, 389, 393, 397, 418, 422, 821, 825, 429, 829, 436, 833, 443, 447, 837, 454, 841, 461, 269, 273, 261, 845, 849, 853, 857, 468, 472, 277, 861, 865, 479, 482, 485, 490, 493, 497, 500, 504, 508, 512, 515, 519, 523, 527, 531, 535, 538, 541, 544, 547, 550, 555, 559, 564, 568, 572, 577, 581, 585, 589, 869, 872, 877, 679, 881, 885, 890, 894, 898, 904, 596, 243, 908, 227, 231, 912, 916, 603, 920, 610, 253, 257, 265, 924, 928, 617, 932, 936, 624, 628, 940, 944, 635, 948, 642, 952, 649, 653, 658, 956, 960, 676, 665, 669, 673, 965, 235, 239, 969, 247, 973] (by decide +kernel) (by decide +kernel) w h).1
theorem wsL_law_x0 : ∀ w ∈ (vx_atS RX4 60 "java/lang/IllegalStateException" ["java/lang/RuntimeException", "java/lang/Exception"]).filter goodWord, w ∈ lw_tbl := by decide +kernel
theorem wsL_law_x1 : ∀ w ∈ (vx_atS RX4 185 "java/lang/IllegalArgumentException" ["java/lang/RuntimeException", "java/lang/Exception"]).filter goodWord, w ∈ lw_tbl := by decide +kernel
theorem wsL_law_x2 : ∀ w ∈ (vx_atS RX4 180 "java/lang/IndexOutOfBoundsException" ["java/lang/RuntimeException", "java/lang/Exception"]).filter goodWord, w ∈ lw_tbl := by decide +kernel
theorem wsL_law_in : ∀ w ∈ wsL_law, w ∈ lw_tbl := fun w h => (List.mem_append.mp h).elim (fun h => (List.mem_append.mp h).elim (fun h => (List.mem_append.mp h).elim (fun h => wsL_law_in0 w h) (fun h => wsL_law_x0 w h)) (fun h => wsL_law_x1 w h)) (fun h => wsL_law_x2 w h)
theorem inlX0 : ∀ w ∈ wsX00, w ∈ wsL_law := fun _ h => List.mem_append_left _ (List.mem_append_left _ (List.mem_append_left _ (List.mem_append_left _ (List.mem_append_left _ (List.mem_append_left _ (List.mem_append_left _ (List.mem_append_left _ (List.mem_append_right _ h))))))))
theorem inX0 : ∀ w ∈ wsX00, w ∈ lw_tbl := fun w h => wsL_law_in w (inlX0 w h)
theorem inlX1 : ∀ w ∈ wsX10, w ∈ wsL_law := fun _ h => List.mem_append_left _ (List.mem_append_left _ (List.mem_append_left _ (List.mem_append_left _ (List.mem_append_left _ (List.mem_append_right _ h)))))
theorem inX1 : ∀ w ∈ wsX10, w ∈ lw_tbl := fun w h => wsL_law_in w (inlX1 w h)
theorem inlX2 : ∀ w ∈ wsX20, w ∈ wsL_law := fun _ h => List.mem_append_left _ (List.mem_append_left _ (List.mem_append_left _ (List.mem_append_left _ (List.mem_append_left _ (List.mem_append_left _ (List.mem_append_right _ h))))))
theorem inX2 : ∀ w ∈ wsX20, w ∈ lw_tbl := fun w h => wsL_law_in w (inlX2 w h)
theorem inlX3 : ∀ w ∈ wsX30, w ∈ wsL_law := fun _ h => List.mem_append_left _ (List.mem_append_left _ (List.mem_append_left _ (List.mem_append_left _ (List.mem_append_left _ (List.mem_append_left _ (List.mem_append_left _ (List.mem_append_right _ h)))))))
theorem inX3 : ∀ w ∈ wsX30, w ∈ lw_tbl := fun w h => wsL_law_in w (inlX3 w h)
theorem inlX4 : ∀ w ∈ wsX40, w ∈ wsL_law := fun _ h => List.mem_append_left _ (List.mem_append_left _ (List.mem_append_left _ (List.mem_append_left _ (List.mem_append_left _ (List.mem_append_left _ (List.mem_append_left _ (List.mem_append_left _ (List.mem_append_left _ (List.mem_append_left _ (List.mem_append_right _ h))))))))))
theorem inX4 : ∀ w ∈ wsX40, w ∈ lw_tbl := fun w h => wsL_law_in w (inlX4 w h)
theorem inlX5 : ∀ w ∈ wsX50, w ∈ wsL_law := fun _ h => List.mem_append_left _ (List.mem_append_left _ (List.mem_append_left _ (List.mem_append_left _ (List.mem_append_right _ h))))
theorem inX5 : ∀ w ∈ wsX50, w ∈ lw_tbl := fun w h => wsL_law_in w (inlX5 w h)
theorem inlX6 : ∀ w ∈ wsX60, w ∈ wsL_law := fun _ h => List.mem_append_left _ (List.mem_append_left _ (List.mem_append_left _ (List.mem_append_left _ (List.mem_append_left _ (List.mem_append_left _ (List.mem_append_left _ (List.mem_append_left _ (List.mem_append_left _ (List.mem_append_right _ h)))))))))
theorem inX6 : ∀ w ∈ wsX60, w ∈ lw_tbl := fun w h => wsL_law_in w (inlX6 w h)
theorem inJx145de : ∀ w ∈ wsJx145de0, w ∈ lw_tbl := by decide +kernel
theorem inJ9 : ∀ w ∈ wsJ90, w ∈ lw_tbl := by decide +kernel
theorem inJ0 : ∀ w ∈ wsJ00, w ∈ lw_tbl := by decide +kernel
theorem inJ10 : ∀ w ∈ wsJ100, w ∈ lw_tbl := by decide +kernel
theorem inJ7 : ∀ w ∈ wsJ70, w ∈ lw_tbl := by decide +kernel
theorem dX0_init_0 : decode cX0_init 0 = .ok (.aload_n 0, 1) := by decide +kernel
theorem dX0_init_1 : decode cX0_init 1 = .ok (.invokespecial 3, 3) := by decide +kernel
theorem dX0_init_4 : decode cX0_init 4 = .ok (.aload_n 0, 1) := by decide +kernel
theorem dX0_init_5 : decode cX0_init 5 = .ok (.bipush 12, 2) := by decide +kernel
theorem dX0_init_7 : decode cX0_init 7 = .ok (.newarray .int, 2) := by decide +kernel
theorem dX0_init_9 : decode cX0_init 9 = .ok (.putfield 9, 3) := by decide +kernel
theorem dX0_init_12 : decode cX0_init 12 = .ok (.aload_n 0, 1) := by decide +kernel
theorem dX0_init_13 : decode cX0_init 13 = .ok (.bipush 12, 2) := by decide +kernel
theorem dX0_init_15 : decode cX0_init 15 = .ok (.newarray .int, 2) := by decide +kernel
theorem dX0_init_17 : decode cX0_init 17 = .ok (.putfield 15, 3) := by decide +kernel
theorem dX0_init_20 : decode cX0_init 20 = .ok (.aload_n 0, 1) := by decide +kernel
theorem dX0_init_21 : decode cX0_init 21 = .ok (.bipush 12, 2) := by decide +kernel
theorem dX0_init_23 : decode cX0_init 23 = .ok (.newarray .int, 2) := by decide +kernel
theorem dX0_init_25 : decode cX0_init 25 = .ok (.putfield 18, 3) := by decide +kernel
theorem dX0_init_28 : decode cX0_init 28 = .ok (.aload_n 0, 1) := by decide +kernel
theorem dX0_init_29 : decode cX0_init 29 = .ok (.bipush 12, 2) := by decide +kernel
theorem dX0_init_31 : decode cX0_init 31 = .ok (.newarray .int, 2) := by decide +kernel
theorem dX0_init_33 : decode cX0_init 33 = .ok (.putfield 21, 3) := by decide +kernel
theorem dX0_init_36 : decode cX0_init 36 = .ok (.aload_n 0, 1) := by decide +kernel
theorem dX0_init_37 : decode cX0_init 37 = .ok (.bipush 12, 2) := by decide +kernel
theorem dX0_init_39 : decode cX0_init 39 = .ok (.newarray .int, 2) := by decide +kernel
theorem dX0_init_41 : decode cX0_init 41 = .ok (.putfield 24, 3) := by decide +kernel
theorem dX0_init_44 : decode cX0_init 44 = .ok (.aload_n 0, 1) := by decide +kernel
theorem dX0_init_45 : decode cX0_init 45 = .ok (.bipush 12, 2) := by decide +kernel
theorem dX0_init_47 : decode cX0_init 47 = .ok (.newarray .int, 2) := by decide +kernel
theorem dX0_init_49 : decode cX0_init 49 = .ok (.putfield 27, 3) := by decide +kernel
theorem dX0_init_52 : decode cX0_init 52 = .ok (.aload_n 0, 1) := by decide +kernel
theorem dX0_init_53 : decode cX0_init 53 = .ok (.bipush 12, 2) := by decide +kernel
theorem dX0_init_55 : decode cX0_init 55 = .ok (.bipush 18, 2) := by decide +kernel
theorem dX0_init_57 : decode cX0_init 57 = .ok (.multianewarray 30 2, 4) := by decide +kernel
theorem dX0_init_61 : decode cX0_init 61 = .ok (.putfield 32, 3) := by decide +kernel
theorem dX0_init_64 : decode cX0_init 64 = .ok (.aload_n 0, 1) := by decide +kernel
theorem dX0_init_65 : decode cX0_init 65 = .ok (.bipush 18, 2) := by decide +kernel
theorem dX0_init_67 : decode cX0_init 67 = .ok (.newarray .int, 2) := by decide +kernel
theorem dX0_init_69 : decode cX0_init 69 = .ok (.putfield 35, 3) := by decide +kernel
theorem dX0_init_72 : decode cX0_init 72 = .ok (.aload_n 0, 1) := by decide +kernel
theorem dX0_init_73 : decode cX0_init 73 = .ok (.bipush 18, 2) := by decide +kernel
theorem dX0_init_75 : decode cX0_init 75 = .ok (.newarray .int, 2) := by decide +kernel
theorem dX0_init_77 : decode cX0_init 77 = .ok (.putfield 38, 3) := by decide +kernel
theorem dX0_init_80 : decode cX0_init 80 = .ok (.aload_n 0, 1) := by decide +kernel
theorem dX0_init_81 : decode cX0_init 81 = .ok (.bipush 18, 2) := by decide +kernel
theorem dX0_init_83 : decode cX0_init 83 = .ok (.newarray .int, 2) := by decide +kernel
theorem dX0_init_85 : decode cX0_init 85 = .ok (.putfield 41, 3) := by decide +kernel
theorem dX0_init_88 : decode cX0_init 88 = .ok (.aload_n 0, 1) := by decide +kernel
theorem dX0_init_89 : decode cX0_init 89 = .ok (.bipush 18, 2) := by decide +kernel
theorem dX0_init_91 : decode cX0_init 91 = .ok (.newarray .int, 2) := by decide +kernel
theorem dX0_init_93 : decode cX0_init 93 = .ok (.putfield 44, 3) := by decide +kernel
theorem dX0_init_96 : decode cX0_init 96 = .ok (.aload_n 0, 1) := by decide +kernel
theorem dX0_init_97 : decode cX0_init 97 = .ok (.bipush 12, 2) := by decide +kernel
theorem dX0_init_99 : decode cX0_init 99 = .ok (.newarray .int, 2) := by decide +kernel
theorem dX0_init_101 : decode cX0_init 101 = .ok (.putfield 47, 3) := by decide +kernel
theorem dX0_init_104 : decode cX0_init 104 = .ok (.aload_n 0, 1) := by decide +kernel
theorem dX0_init_105 : decode cX0_init 105 = .ok (.getfield 15, 3) := by decide +kernel
theorem dX0_init_108 : decode cX0_init 108 = .ok (.iconst 0, 1) := by decide +kernel
theorem dX0_init_109 : decode cX0_init 109 = .ok (.bipush 30, 2) := by decide +kernel
theorem dX0_init_111 : decode cX0_init 111 = .ok (.iastore, 1) := by decide +kernel
theorem dX0_init_112 : decode cX0_init 112 = .ok (.aload_n 0, 1) := by decide +kernel
theorem dX0_init_113 : decode cX0_init 113 = .ok (.iconst 1, 1) := by decide +kernel
theorem dX0_init_114 : decode cX0_init 114 = .ok (.putfield 50, 3) := by decide +kernel
theorem dX0_init_117 : decode cX0_init 117 = .ok (.aload_n 0, 1) := by decide +kernel
theorem dX0_init_118 : decode cX0_init 118 = .ok (.iconst 0, 1) := by decide +kernel
theorem dX0_init_119 : decode cX0_init 119 = .ok (.putfield 54, 3) := by decide +kernel
theorem dX0_init_122 : decode cX0_init 122 = .ok (.aload_n 0, 1) := by decide +kernel
theorem dX0_init_123 : decode cX0_init 123 = .ok (.iconst 0, 1) := by decide +kernel
theorem dX0_init_124 : decode cX0_init 124 = .ok (.putfield 57, 3) := by decide +kernel
theorem dX0_init_127 : decode cX0_init 127 = .ok (.return_, 1) := by decide +kernel
set_option maxRecDepth 20000 in
theorem ggX0_hasChamber_X4_isWithin : GoodIn wsX0_hasChamber wsX4_isWithin := goodIn_r _ [4] (by decide +kernel) (by decide +kernel)
set_option maxRecDepth 20000 in
theorem gX0_hasChamber_X4_isWithin_n60 : GoodIn wsX0_hasChamber (wsX4_isWithin) := ggX0_hasChamber_X4_isWithin
theorem dX0_hasChamber_0 : decode cX0_hasChamber 0 = .ok (.iload_n 1, 1) := by decide +kernel
theorem dX0_hasChamber_1 : decode cX0_hasChamber 1 = .ok (.iconst 0, 1) := by decide +kernel
theorem dX0_hasChamber_2 : decode cX0_hasChamber 2 = .ok (.aload_n 0, 1) := by decide +kernel
theorem dX0_hasChamber_3 : decode cX0_hasChamber 3 = .ok (.getfield 50, 3) := by decide +kernel
theorem dX0_hasChamber_6 : decode cX0_hasChamber 6 = .ok (.iconst 1, 1) := by decide +kernel
theorem dX0_hasChamber_7 : decode cX0_hasChamber 7 = .ok (.isub, 1) := by decide +kernel
theorem dX0_hasChamber_8 : decode cX0_hasChamber 8 = .ok (.invokestatic 60, 3) := by decide +kernel
theorem dX0_hasChamber_11 : decode cX0_hasChamber 11 = .ok (.ireturn, 1) := by decide +kernel
set_option maxRecDepth 20000 in
theorem ggX0_hasPassage_X4_isWithin : GoodIn wsX0_hasPassage wsX4_isWithin := goodIn_r _ [4] (by decide +kernel) (by decide +kernel)
set_option maxRecDepth 20000 in
theorem gX0_hasPassage_X4_isWithin_n60 : GoodIn wsX0_hasPassage (wsX4_isWithin) := ggX0_hasPassage_X4_isWithin
theorem dX0_hasPassage_0 : decode cX0_hasPassage 0 = .ok (.iload_n 1, 1) := by decide +kernel
theorem dX0_hasPassage_1 : decode cX0_hasPassage 1 = .ok (.iconst 0, 1) := by decide +kernel
theorem dX0_hasPassage_2 : decode cX0_hasPassage 2 = .ok (.aload_n 0, 1) := by decide +kernel
theorem dX0_hasPassage_3 : decode cX0_hasPassage 3 = .ok (.getfield 54, 3) := by decide +kernel
theorem dX0_hasPassage_6 : decode cX0_hasPassage 6 = .ok (.iconst 1, 1) := by decide +kernel
theorem dX0_hasPassage_7 : decode cX0_hasPassage 7 = .ok (.isub, 1) := by decide +kernel
theorem dX0_hasPassage_8 : decode cX0_hasPassage 8 = .ok (.invokestatic 60, 3) := by decide +kernel
theorem dX0_hasPassage_11 : decode cX0_hasPassage 11 = .ok (.ireturn, 1) := by decide +kernel
theorem dX0_findChamber_0 : decode cX0_findChamber 0 = .ok (.aload_n 0, 1) := by decide +kernel
theorem dX0_findChamber_1 : decode cX0_findChamber 1 = .ok (.getfield 50, 3) := by decide +kernel
theorem dX0_findChamber_4 : decode cX0_findChamber 4 = .ok (.istore 4, 2) := by decide +kernel
theorem dX0_findChamber_6 : decode cX0_findChamber 6 = .ok (.aload_n 0, 1) := by decide +kernel
theorem dX0_findChamber_7 : decode cX0_findChamber 7 = .ok (.getfield 9, 3) := by decide +kernel
theorem dX0_findChamber_10 : decode cX0_findChamber 10 = .ok (.iload 4, 2) := by decide +kernel
theorem dX0_findChamber_12 : decode cX0_findChamber 12 = .ok (.iload_n 1, 1) := by decide +kernel
theorem dX0_findChamber_13 : decode cX0_findChamber 13 = .ok (.iastore, 1) := by decide +kernel
theorem dX0_findChamber_14 : decode cX0_findChamber 14 = .ok (.aload_n 0, 1) := by decide +kernel
theorem dX0_findChamber_15 : decode cX0_findChamber 15 = .ok (.getfield 15, 3) := by decide +kernel
theorem dX0_findChamber_18 : decode cX0_findChamber 18 = .ok (.iload 4, 2) := by decide +kernel
theorem dX0_findChamber_20 : decode cX0_findChamber 20 = .ok (.iload_n 2, 1) := by decide +kernel
theorem dX0_findChamber_21 : decode cX0_findChamber 21 = .ok (.iastore, 1) := by decide +kernel
theorem dX0_findChamber_22 : decode cX0_findChamber 22 = .ok (.aload_n 0, 1) := by decide +kernel
theorem dX0_findChamber_23 : decode cX0_findChamber 23 = .ok (.getfield 18, 3) := by decide +kernel
theorem dX0_findChamber_26 : decode cX0_findChamber 26 = .ok (.iload 4, 2) := by decide +kernel
theorem dX0_findChamber_28 : decode cX0_findChamber 28 = .ok (.iload_n 3, 1) := by decide +kernel
theorem dX0_findChamber_29 : decode cX0_findChamber 29 = .ok (.iastore, 1) := by decide +kernel
theorem dX0_findChamber_30 : decode cX0_findChamber 30 = .ok (.aload_n 0, 1) := by decide +kernel
theorem dX0_findChamber_31 : decode cX0_findChamber 31 = .ok (.dup, 1) := by decide +kernel
theorem dX0_findChamber_32 : decode cX0_findChamber 32 = .ok (.getfield 50, 3) := by decide +kernel
theorem dX0_findChamber_35 : decode cX0_findChamber 35 = .ok (.iconst 1, 1) := by decide +kernel
theorem dX0_findChamber_36 : decode cX0_findChamber 36 = .ok (.iadd, 1) := by decide +kernel
theorem dX0_findChamber_37 : decode cX0_findChamber 37 = .ok (.putfield 50, 3) := by decide +kernel
theorem dX0_findChamber_40 : decode cX0_findChamber 40 = .ok (.iload 4, 2) := by decide +kernel
theorem dX0_findChamber_42 : decode cX0_findChamber 42 = .ok (.ireturn, 1) := by decide +kernel
set_option maxRecDepth 20000 in
theorem ggX0_findPassage_X0_addDoor : GoodIn wsX0_findPassage wsX0_addDoor := goodIn_r _ [10, 11, 12, 13, 14, 15, 16, 17, 18, 19, 20, 21, 22, 23, 24, 25, 26, 27] (by decide +kernel) (by decide +kernel)
set_option maxRecDepth 20000 in
theorem gX0_findPassage_X0_addDoor : GoodIn wsX0_findPassage (wsV RX0 64 RX0 yX0_addDoor wsX0_addDoor) := goodIn_app (goodIn_of _ (by decide +kernel)) ggX0_findPassage_X0_addDoor
theorem dX0_findPassage_0 : decode cX0_findPassage 0 = .ok (.aload_n 0, 1) := by decide +kernel
theorem dX0_findPassage_1 : decode cX0_findPassage 1 = .ok (.getfield 54, 3) := by decide +kernel
theorem dX0_findPassage_4 : decode cX0_findPassage 4 = .ok (.istore 5, 2) := by decide +kernel
theorem dX0_findPassage_6 : decode cX0_findPassage 6 = .ok (.aload_n 0, 1) := by decide +kernel
theorem dX0_findPassage_7 : decode cX0_findPassage 7 = .ok (.getfield 35, 3) := by decide +kernel
theorem dX0_findPassage_10 : decode cX0_findPassage 10 = .ok (.iload 5, 2) := by decide +kernel
theorem dX0_findPassage_12 : decode cX0_findPassage 12 = .ok (.iload_n 1, 1) := by decide +kernel
theorem dX0_findPassage_13 : decode cX0_findPassage 13 = .ok (.iastore, 1) := by decide +kernel
theorem dX0_findPassage_14 : decode cX0_findPassage 14 = .ok (.aload_n 0, 1) := by decide +kernel
theorem dX0_findPassage_15 : decode cX0_findPassage 15 = .ok (.getfield 38, 3) := by decide +kernel
theorem dX0_findPassage_18 : decode cX0_findPassage 18 = .ok (.iload 5, 2) := by decide +kernel
theorem dX0_findPassage_20 : decode cX0_findPassage 20 = .ok (.iload_n 2, 1) := by decide +kernel
theorem dX0_findPassage_21 : decode cX0_findPassage 21 = .ok (.iastore, 1) := by decide +kernel
theorem dX0_findPassage_22 : decode cX0_findPassage 22 = .ok (.aload_n 0, 1) := by decide +kernel
theorem dX0_findPassage_23 : decode cX0_findPassage 23 = .ok (.getfield 41, 3) := by decide +kernel
theorem dX0_findPassage_26 : decode cX0_findPassage 26 = .ok (.iload 5, 2) := by decide +kernel
theorem dX0_findPassage_28 : decode cX0_findPassage 28 = .ok (.iload_n 3, 1) := by decide +kernel
theorem dX0_findPassage_29 : decode cX0_findPassage 29 = .ok (.iastore, 1) := by decide +kernel
theorem dX0_findPassage_30 : decode cX0_findPassage 30 = .ok (.aload_n 0, 1) := by decide +kernel
theorem dX0_findPassage_31 : decode cX0_findPassage 31 = .ok (.getfield 44, 3) := by decide +kernel
theorem dX0_findPassage_34 : decode cX0_findPassage 34 = .ok (.iload 5, 2) := by decide +kernel
theorem dX0_findPassage_36 : decode cX0_findPassage 36 = .ok (.iload 4, 2) := by decide +kernel
theorem dX0_findPassage_38 : decode cX0_findPassage 38 = .ok (.iastore, 1) := by decide +kernel
theorem dX0_findPassage_39 : decode cX0_findPassage 39 = .ok (.aload_n 0, 1) := by decide +kernel
theorem dX0_findPassage_40 : decode cX0_findPassage 40 = .ok (.iload_n 1, 1) := by decide +kernel
theorem dX0_findPassage_41 : decode cX0_findPassage 41 = .ok (.iload 5, 2) := by decide +kernel
theorem dX0_findPassage_43 : decode cX0_findPassage 43 = .ok (.invokevirtual 64, 3) := by decide +kernel
theorem dX0_findPassage_46 : decode cX0_findPassage 46 = .ok (.aload_n 0, 1) := by decide +kernel
theorem dX0_findPassage_47 : decode cX0_findPassage 47 = .ok (.iload_n 2, 1) := by decide +kernel
theorem dX0_findPassage_48 : decode cX0_findPassage 48 = .ok (.iload 5, 2) := by decide +kernel
theorem dX0_findPassage_50 : decode cX0_findPassage 50 = .ok (.invokevirtual 64, 3) := by decide +kernel
theorem dX0_findPassage_53 : decode cX0_findPassage 53 = .ok (.aload_n 0, 1) := by decide +kernel
theorem dX0_findPassage_54 : decode cX0_findPassage 54 = .ok (.dup, 1) := by decide +kernel
theorem dX0_findPassage_55 : decode cX0_findPassage 55 = .ok (.getfield 54, 3) := by decide +kernel
theorem dX0_findPassage_58 : decode cX0_findPassage 58 = .ok (.iconst 1, 1) := by decide +kernel
theorem dX0_findPassage_59 : decode cX0_findPassage 59 = .ok (.iadd, 1) := by decide +kernel
theorem dX0_findPassage_60 : decode cX0_findPassage 60 = .ok (.putfield 54, 3) := by decide +kernel
theorem dX0_findPassage_63 : decode cX0_findPassage 63 = .ok (.iload 5, 2) := by decide +kernel
theorem dX0_findPassage_65 : decode cX0_findPassage 65 = .ok (.ireturn, 1) := by decide +kernel
theorem dX0_addDoor_0 : decode cX0_addDoor 0 = .ok (.aload_n 0, 1) := by decide +kernel
theorem dX0_addDoor_1 : decode cX0_addDoor 1 = .ok (.getfield 32, 3) := by decide +kernel
theorem dX0_addDoor_4 : decode cX0_addDoor 4 = .ok (.iload_n 1, 1) := by decide +kernel
theorem dX0_addDoor_5 : decode cX0_addDoor 5 = .ok (.aaload, 1) := by decide +kernel
theorem dX0_addDoor_6 : decode cX0_addDoor 6 = .ok (.aload_n 0, 1) := by decide +kernel
theorem dX0_addDoor_7 : decode cX0_addDoor 7 = .ok (.getfield 27, 3) := by decide +kernel
theorem dX0_addDoor_10 : decode cX0_addDoor 10 = .ok (.iload_n 1, 1) := by decide +kernel
theorem dX0_addDoor_11 : decode cX0_addDoor 11 = .ok (.iaload, 1) := by decide +kernel
theorem dX0_addDoor_12 : decode cX0_addDoor 12 = .ok (.iload_n 2, 1) := by decide +kernel
theorem dX0_addDoor_13 : decode cX0_addDoor 13 = .ok (.iastore, 1) := by decide +kernel
theorem dX0_addDoor_14 : decode cX0_addDoor 14 = .ok (.aload_n 0, 1) := by decide +kernel
theorem dX0_addDoor_15 : decode cX0_addDoor 15 = .ok (.getfield 27, 3) := by decide +kernel
theorem dX0_addDoor_18 : decode cX0_addDoor 18 = .ok (.iload_n 1, 1) := by decide +kernel
theorem dX0_addDoor_19 : decode cX0_addDoor 19 = .ok (.dup2, 1) := by decide +kernel
theorem dX0_addDoor_20 : decode cX0_addDoor 20 = .ok (.iaload, 1) := by decide +kernel
theorem dX0_addDoor_21 : decode cX0_addDoor 21 = .ok (.iconst 1, 1) := by decide +kernel
theorem dX0_addDoor_22 : decode cX0_addDoor 22 = .ok (.iadd, 1) := by decide +kernel
theorem dX0_addDoor_23 : decode cX0_addDoor 23 = .ok (.iastore, 1) := by decide +kernel
theorem dX0_addDoor_24 : decode cX0_addDoor 24 = .ok (.return_, 1) := by decide +kernel
theorem dX0_putClapper_0 : decode cX0_putClapper 0 = .ok (.aload_n 0, 1) := by decide +kernel
theorem dX0_putClapper_1 : decode cX0_putClapper 1 = .ok (.getfield 21, 3) := by decide +kernel
theorem dX0_putClapper_4 : decode cX0_putClapper 4 = .ok (.iload_n 1, 1) := by decide +kernel
theorem dX0_putClapper_5 : decode cX0_putClapper 5 = .ok (.iload_n 2, 1) := by decide +kernel
theorem dX0_putClapper_6 : decode cX0_putClapper 6 = .ok (.iastore, 1) := by decide +kernel
theorem dX0_putClapper_7 : decode cX0_putClapper 7 = .ok (.aload_n 0, 1) := by decide +kernel
theorem dX0_putClapper_8 : decode cX0_putClapper 8 = .ok (.getfield 24, 3) := by decide +kernel
theorem dX0_putClapper_11 : decode cX0_putClapper 11 = .ok (.iload_n 1, 1) := by decide +kernel
theorem dX0_putClapper_12 : decode cX0_putClapper 12 = .ok (.iload_n 2, 1) := by decide +kernel
theorem dX0_putClapper_13 : decode cX0_putClapper 13 = .ok (.ifCond .ne 7, 3) := by decide +kernel
theorem dX0_putClapper_16 : decode cX0_putClapper 16 = .ok (.iconst 0, 1) := by decide +kernel
theorem dX0_putClapper_17 : decode cX0_putClapper 17 = .ok (.goto 4, 3) := by decide +kernel
theorem dX0_putClapper_20 : decode cX0_putClapper 20 = .ok (.iload_n 3, 1) := by decide +kernel
theorem dX0_putClapper_21 : decode cX0_putClapper 21 = .ok (.iastore, 1) := by decide +kernel
theorem dX0_putClapper_22 : decode cX0_putClapper 22 = .ok (.return_, 1) := by decide +kernel
theorem dX0_isOpen_0 : decode cX0_isOpen 0 = .ok (.aload_n 0, 1) := by decide +kernel
theorem dX0_isOpen_1 : decode cX0_isOpen 1 = .ok (.getfield 15, 3) := by decide +kernel
theorem dX0_isOpen_4 : decode cX0_isOpen 4 = .ok (.aload_n 0, 1) := by decide +kernel
theorem dX0_isOpen_5 : decode cX0_isOpen 5 = .ok (.getfield 35, 3) := by decide +kernel
theorem dX0_isOpen_8 : decode cX0_isOpen 8 = .ok (.iload_n 1, 1) := by decide +kernel
theorem dX0_isOpen_9 : decode cX0_isOpen 9 = .ok (.iaload, 1) := by decide +kernel
theorem dX0_isOpen_10 : decode cX0_isOpen 10 = .ok (.iaload, 1) := by decide +kernel
theorem dX0_isOpen_11 : decode cX0_isOpen 11 = .ok (.aload_n 0, 1) := by decide +kernel
theorem dX0_isOpen_12 : decode cX0_isOpen 12 = .ok (.getfield 57, 3) := by decide +kernel
theorem dX0_isOpen_15 : decode cX0_isOpen 15 = .ok (.if_icmp .lt 25, 3) := by decide +kernel
theorem dX0_isOpen_18 : decode cX0_isOpen 18 = .ok (.aload_n 0, 1) := by decide +kernel
theorem dX0_isOpen_19 : decode cX0_isOpen 19 = .ok (.getfield 15, 3) := by decide +kernel
theorem dX0_isOpen_22 : decode cX0_isOpen 22 = .ok (.aload_n 0, 1) := by decide +kernel
theorem dX0_isOpen_23 : decode cX0_isOpen 23 = .ok (.getfield 38, 3) := by decide +kernel
theorem dX0_isOpen_26 : decode cX0_isOpen 26 = .ok (.iload_n 1, 1) := by decide +kernel
theorem dX0_isOpen_27 : decode cX0_isOpen 27 = .ok (.iaload, 1) := by decide +kernel
theorem dX0_isOpen_28 : decode cX0_isOpen 28 = .ok (.iaload, 1) := by decide +kernel
theorem dX0_isOpen_29 : decode cX0_isOpen 29 = .ok (.aload_n 0, 1) := by decide +kernel
theorem dX0_isOpen_30 : decode cX0_isOpen 30 = .ok (.getfield 57, 3) := by decide +kernel
theorem dX0_isOpen_33 : decode cX0_isOpen 33 = .ok (.if_icmp .lt 7, 3) := by decide +kernel
theorem dX0_isOpen_36 : decode cX0_isOpen 36 = .ok (.iconst 1, 1) := by decide +kernel
theorem dX0_isOpen_37 : decode cX0_isOpen 37 = .ok (.goto 4, 3) := by decide +kernel
theorem dX0_isOpen_40 : decode cX0_isOpen 40 = .ok (.iconst 0, 1) := by decide +kernel
theorem dX0_isOpen_41 : decode cX0_isOpen 41 = .ok (.ireturn, 1) := by decide +kernel
theorem dX0_otherEnd_0 : decode cX0_otherEnd 0 = .ok (.aload_n 0, 1) := by decide +kernel
theorem dX0_otherEnd_1 : decode cX0_otherEnd 1 = .ok (.getfield 35, 3) := by decide +kernel
theorem dX0_otherEnd_4 : decode cX0_otherEnd 4 = .ok (.iload_n 1, 1) := by decide +kernel
theorem dX0_otherEnd_5 : decode cX0_otherEnd 5 = .ok (.iaload, 1) := by decide +kernel
theorem dX0_otherEnd_6 : decode cX0_otherEnd 6 = .ok (.iload_n 2, 1) := by decide +kernel
theorem dX0_otherEnd_7 : decode cX0_otherEnd 7 = .ok (.if_icmp .ne 12, 3) := by decide +kernel
theorem dX0_otherEnd_10 : decode cX0_otherEnd 10 = .ok (.aload_n 0, 1) := by decide +kernel
theorem dX0_otherEnd_11 : decode cX0_otherEnd 11 = .ok (.getfield 38, 3) := by decide +kernel
theorem dX0_otherEnd_14 : decode cX0_otherEnd 14 = .ok (.iload_n 1, 1) := by decide +kernel
theorem dX0_otherEnd_15 : decode cX0_otherEnd 15 = .ok (.iaload, 1) := by decide +kernel
theorem dX0_otherEnd_16 : decode cX0_otherEnd 16 = .ok (.goto 9, 3) := by decide +kernel
theorem dX0_otherEnd_19 : decode cX0_otherEnd 19 = .ok (.aload_n 0, 1) := by decide +kernel
theorem dX0_otherEnd_20 : decode cX0_otherEnd 20 = .ok (.getfield 35, 3) := by decide +kernel
theorem dX0_otherEnd_23 : decode cX0_otherEnd 23 = .ok (.iload_n 1, 1) := by decide +kernel
theorem dX0_otherEnd_24 : decode cX0_otherEnd 24 = .ok (.iaload, 1) := by decide +kernel
theorem dX0_otherEnd_25 : decode cX0_otherEnd 25 = .ok (.ireturn, 1) := by decide +kernel
theorem dX0_drowns_0 : decode cX0_drowns 0 = .ok (.iload_n 2, 1) := by decide +kernel
theorem dX0_drowns_1 : decode cX0_drowns 1 = .ok (.iconst 2, 1) := by decide +kernel
theorem dX0_drowns_2 : decode cX0_drowns 2 = .ok (.aload_n 0, 1) := by decide +kernel
theorem dX0_drowns_3 : decode cX0_drowns 3 = .ok (.getfield 18, 3) := by decide +kernel
theorem dX0_drowns_6 : decode cX0_drowns 6 = .ok (.iload_n 1, 1) := by decide +kernel
theorem dX0_drowns_7 : decode cX0_drowns 7 = .ok (.iaload, 1) := by decide +kernel
theorem dX0_drowns_8 : decode cX0_drowns 8 = .ok (.imul, 1) := by decide +kernel
theorem dX0_drowns_9 : decode cX0_drowns 9 = .ok (.iconst 1, 1) := by decide +kernel
theorem dX0_drowns_10 : decode cX0_drowns 10 = .ok (.iadd, 1) := by decide +kernel
theorem dX0_drowns_11 : decode cX0_drowns 11 = .ok (.if_icmp .ge 7, 3) := by decide +kernel
theorem dX0_drowns_14 : decode cX0_drowns 14 = .ok (.iconst 1, 1) := by decide +kernel
theorem dX0_drowns_15 : decode cX0_drowns 15 = .ok (.goto 4, 3) := by decide +kernel
theorem dX0_drowns_18 : decode cX0_drowns 18 = .ok (.iconst 0, 1) := by decide +kernel
theorem dX0_drowns_19 : decode cX0_drowns 19 = .ok (.ireturn, 1) := by decide +kernel
theorem dX0_strengthBehind_0 : decode cX0_strengthBehind 0 = .ok (.iload_n 2, 1) := by decide +kernel
theorem dX0_strengthBehind_1 : decode cX0_strengthBehind 1 = .ok (.bipush 90, 2) := by decide +kernel
theorem dX0_strengthBehind_3 : decode cX0_strengthBehind 3 = .ok (.iconst 5, 1) := by decide +kernel
theorem dX0_strengthBehind_4 : decode cX0_strengthBehind 4 = .ok (.aload_n 0, 1) := by decide +kernel
theorem dX0_strengthBehind_5 : decode cX0_strengthBehind 5 = .ok (.getfield 44, 3) := by decide +kernel
theorem dX0_strengthBehind_8 : decode cX0_strengthBehind 8 = .ok (.iload_n 1, 1) := by decide +kernel
theorem dX0_strengthBehind_9 : decode cX0_strengthBehind 9 = .ok (.iaload, 1) := by decide +kernel
theorem dX0_strengthBehind_10 : decode cX0_strengthBehind 10 = .ok (.imul, 1) := by decide +kernel
theorem dX0_strengthBehind_11 : decode cX0_strengthBehind 11 = .ok (.isub, 1) := by decide +kernel
theorem dX0_strengthBehind_12 : decode cX0_strengthBehind 12 = .ok (.imul, 1) := by decide +kernel
theorem dX0_strengthBehind_13 : decode cX0_strengthBehind 13 = .ok (.bipush 100, 2) := by decide +kernel
theorem dX0_strengthBehind_15 : decode cX0_strengthBehind 15 = .ok (.idiv, 1) := by decide +kernel
theorem dX0_strengthBehind_16 : decode cX0_strengthBehind 16 = .ok (.ireturn, 1) := by decide +kernel
theorem dX0_strengthFromWall_0 : decode cX0_strengthFromWall 0 = .ok (.iload_n 2, 1) := by decide +kernel
theorem dX0_strengthFromWall_1 : decode cX0_strengthFromWall 1 = .ok (.aload_n 0, 1) := by decide +kernel
theorem dX0_strengthFromWall_2 : decode cX0_strengthFromWall 2 = .ok (.getfield 9, 3) := by decide +kernel
theorem dX0_strengthFromWall_5 : decode cX0_strengthFromWall 5 = .ok (.iload_n 1, 1) := by decide +kernel
theorem dX0_strengthFromWall_6 : decode cX0_strengthFromWall 6 = .ok (.iaload, 1) := by decide +kernel
theorem dX0_strengthFromWall_7 : decode cX0_strengthFromWall 7 = .ok (.imul, 1) := by decide +kernel
theorem dX0_strengthFromWall_8 : decode cX0_strengthFromWall 8 = .ok (.bipush 100, 2) := by decide +kernel
theorem dX0_strengthFromWall_10 : decode cX0_strengthFromWall 10 = .ok (.idiv, 1) := by decide +kernel
theorem dX0_strengthFromWall_11 : decode cX0_strengthFromWall 11 = .ok (.ireturn, 1) := by decide +kernel
set_option maxRecDepth 20000 in
theorem ggX0_openPassages_X0_isOpen : GoodIn wsX0_openPassages wsX0_isOpen := goodIn_r _ [6, 7, 8, 9, 10, 11, 12, 13, 14, 15, 16, 17, 18, 19, 20, 21, 22, 23, 24, 25] (by decide +kernel) (by decide +kernel)
set_option maxRecDepth 20000 in
theorem gX0_openPassages_X0_isOpen : GoodIn wsX0_openPassages (wsV RX0 68 RX0 yX0_isOpen wsX0_isOpen) := goodIn_app (goodIn_of _ (by decide +kernel)) ggX0_openPassages_X0_isOpen
theorem dX0_openPassages_0 : decode cX0_openPassages 0 = .ok (.iconst 0, 1) := by decide +kernel
theorem dX0_openPassages_1 : decode cX0_openPassages 1 = .ok (.istore_n 1, 1) := by decide +kernel
theorem dX0_openPassages_2 : decode cX0_openPassages 2 = .ok (.iconst 0, 1) := by decide +kernel
theorem dX0_openPassages_3 : decode cX0_openPassages 3 = .ok (.istore_n 2, 1) := by decide +kernel
theorem dX0_openPassages_4 : decode cX0_openPassages 4 = .ok (.iload_n 2, 1) := by decide +kernel
theorem dX0_openPassages_5 : decode cX0_openPassages 5 = .ok (.aload_n 0, 1) := by decide +kernel
theorem dX0_openPassages_6 : decode cX0_openPassages 6 = .ok (.getfield 54, 3) := by decide +kernel
theorem dX0_openPassages_9 : decode cX0_openPassages 9 = .ok (.if_icmp .ge 20, 3) := by decide +kernel
theorem dX0_openPassages_12 : decode cX0_openPassages 12 = .ok (.aload_n 0, 1) := by decide +kernel
theorem dX0_openPassages_13 : decode cX0_openPassages 13 = .ok (.iload_n 2, 1) := by decide +kernel
theorem dX0_openPassages_14 : decode cX0_openPassages 14 = .ok (.invokevirtual 68, 3) := by decide +kernel
theorem dX0_openPassages_17 : decode cX0_openPassages 17 = .ok (.ifCond .eq 6, 3) := by decide +kernel
theorem dX0_openPassages_20 : decode cX0_openPassages 20 = .ok (.iinc 1 1, 3) := by decide +kernel
theorem dX0_openPassages_23 : decode cX0_openPassages 23 = .ok (.iinc 2 1, 3) := by decide +kernel
theorem dX0_openPassages_26 : decode cX0_openPassages 26 = .ok (.goto (-22), 3) := by decide +kernel
theorem dX0_openPassages_29 : decode cX0_openPassages 29 = .ok (.iload_n 1, 1) := by decide +kernel
theorem dX0_openPassages_30 : decode cX0_openPassages 30 = .ok (.ireturn, 1) := by decide +kernel
theorem dX0_clappers_0 : decode cX0_clappers 0 = .ok (.iconst 0, 1) := by decide +kernel
theorem dX0_clappers_1 : decode cX0_clappers 1 = .ok (.istore_n 1, 1) := by decide +kernel
theorem dX0_clappers_2 : decode cX0_clappers 2 = .ok (.iconst 0, 1) := by decide +kernel
theorem dX0_clappers_3 : decode cX0_clappers 3 = .ok (.istore_n 2, 1) := by decide +kernel
theorem dX0_clappers_4 : decode cX0_clappers 4 = .ok (.iload_n 2, 1) := by decide +kernel
theorem dX0_clappers_5 : decode cX0_clappers 5 = .ok (.aload_n 0, 1) := by decide +kernel
theorem dX0_clappers_6 : decode cX0_clappers 6 = .ok (.getfield 50, 3) := by decide +kernel
theorem dX0_clappers_9 : decode cX0_clappers 9 = .ok (.if_icmp .ge 21, 3) := by decide +kernel
theorem dX0_clappers_12 : decode cX0_clappers 12 = .ok (.aload_n 0, 1) := by decide +kernel
theorem dX0_clappers_13 : decode cX0_clappers 13 = .ok (.getfield 21, 3) := by decide +kernel
theorem dX0_clappers_16 : decode cX0_clappers 16 = .ok (.iload_n 2, 1) := by decide +kernel
theorem dX0_clappers_17 : decode cX0_clappers 17 = .ok (.iaload, 1) := by decide +kernel
theorem dX0_clappers_18 : decode cX0_clappers 18 = .ok (.ifCond .eq 6, 3) := by decide +kernel
theorem dX0_clappers_21 : decode cX0_clappers 21 = .ok (.iinc 1 1, 3) := by decide +kernel
theorem dX0_clappers_24 : decode cX0_clappers 24 = .ok (.iinc 2 1, 3) := by decide +kernel
theorem dX0_clappers_27 : decode cX0_clappers 27 = .ok (.goto (-23), 3) := by decide +kernel
theorem dX0_clappers_30 : decode cX0_clappers 30 = .ok (.iload_n 1, 1) := by decide +kernel
theorem dX0_clappers_31 : decode cX0_clappers 31 = .ok (.ireturn, 1) := by decide +kernel
set_option maxRecDepth 20000 in
theorem ggX0_openDoors_X0_isOpen : GoodIn wsX0_openDoors wsX0_isOpen := goodIn_r _ [7, 8, 9, 10, 11, 12, 13, 14, 15, 16, 17, 18, 19, 20, 21, 22, 23, 24, 25, 26] (by decide +kernel) (by decide +kernel)
set_option maxRecDepth 20000 in
theorem gX0_openDoors_X0_isOpen : GoodIn wsX0_openDoors (wsV RX0 68 RX0 yX0_isOpen wsX0_isOpen) := goodIn_app (goodIn_of _ (by decide +kernel)) ggX0_openDoors_X0_isOpen
theorem dX0_openDoors_0 : decode cX0_openDoors 0 = .ok (.iconst 0, 1) := by decide +kernel
theorem dX0_openDoors_1 : decode cX0_openDoors 1 = .ok (.istore_n 2, 1) := by decide +kernel
theorem dX0_openDoors_2 : decode cX0_openDoors 2 = .ok (.iconst 0, 1) := by decide +kernel
theorem dX0_openDoors_3 : decode cX0_openDoors 3 = .ok (.istore_n 3, 1) := by decide +kernel
theorem dX0_openDoors_4 : decode cX0_openDoors 4 = .ok (.iload_n 3, 1) := by decide +kernel
theorem dX0_openDoors_5 : decode cX0_openDoors 5 = .ok (.aload_n 0, 1) := by decide +kernel
theorem dX0_openDoors_6 : decode cX0_openDoors 6 = .ok (.getfield 27, 3) := by decide +kernel
theorem dX0_openDoors_9 : decode cX0_openDoors 9 = .ok (.iload_n 1, 1) := by decide +kernel
theorem dX0_openDoors_10 : decode cX0_openDoors 10 = .ok (.iaload, 1) := by decide +kernel
theorem dX0_openDoors_11 : decode cX0_openDoors 11 = .ok (.if_icmp .ge 27, 3) := by decide +kernel
theorem dX0_openDoors_14 : decode cX0_openDoors 14 = .ok (.aload_n 0, 1) := by decide +kernel
theorem dX0_openDoors_15 : decode cX0_openDoors 15 = .ok (.aload_n 0, 1) := by decide +kernel
theorem dX0_openDoors_16 : decode cX0_openDoors 16 = .ok (.getfield 32, 3) := by decide +kernel
theorem dX0_openDoors_19 : decode cX0_openDoors 19 = .ok (.iload_n 1, 1) := by decide +kernel
theorem dX0_openDoors_20 : decode cX0_openDoors 20 = .ok (.aaload, 1) := by decide +kernel
theorem dX0_openDoors_21 : decode cX0_openDoors 21 = .ok (.iload_n 3, 1) := by decide +kernel
theorem dX0_openDoors_22 : decode cX0_openDoors 22 = .ok (.iaload, 1) := by decide +kernel
theorem dX0_openDoors_23 : decode cX0_openDoors 23 = .ok (.invokevirtual 68, 3) := by decide +kernel
theorem dX0_openDoors_26 : decode cX0_openDoors 26 = .ok (.ifCond .eq 6, 3) := by decide +kernel
theorem dX0_openDoors_29 : decode cX0_openDoors 29 = .ok (.iinc 2 1, 3) := by decide +kernel
theorem dX0_openDoors_32 : decode cX0_openDoors 32 = .ok (.iinc 3 1, 3) := by decide +kernel
theorem dX0_openDoors_35 : decode cX0_openDoors 35 = .ok (.goto (-31), 3) := by decide +kernel
theorem dX0_openDoors_38 : decode cX0_openDoors 38 = .ok (.iload_n 2, 1) := by decide +kernel
theorem dX0_openDoors_39 : decode cX0_openDoors 39 = .ok (.ireturn, 1) := by decide +kernel
set_option maxRecDepth 20000 in
theorem ggX0_chamberFact_X0_openDoors : GoodIn wsX0_chamberFact wsX0_openDoors := goodIn_r _ [11, 6, 12, 13, 14, 15, 10, 16, 2, 17, 18, 19, 20, 21, 22, 23, 24, 25, 26, 27, 28, 29, 30, 31, 32, 33, 34] (by decide +kernel) (by decide +kernel)
set_option maxRecDepth 20000 in
theorem gX0_chamberFact_X0_openDoors : GoodIn wsX0_chamberFact (wsV RX0 72 RX0 yX0_openDoors wsX0_openDoors) := goodIn_app (goodIn_of _ (by decide +kernel)) ggX0_chamberFact_X0_openDoors
theorem dX0_chamberFact_0 : decode cX0_chamberFact 0 = .ok (.iload_n 2, 1) := by decide +kernel
theorem dX0_chamberFact_1 : decode cX0_chamberFact 1 = .ok (.tableswitch 81 0 5 #[39, 46, 53, 60, 67, 74], 39) := by decide +kernel
theorem dX0_chamberFact_40 : decode cX0_chamberFact 40 = .ok (.aload_n 0, 1) := by decide +kernel
theorem dX0_chamberFact_41 : decode cX0_chamberFact 41 = .ok (.getfield 9, 3) := by decide +kernel
theorem dX0_chamberFact_44 : decode cX0_chamberFact 44 = .ok (.iload_n 1, 1) := by decide +kernel
theorem dX0_chamberFact_45 : decode cX0_chamberFact 45 = .ok (.iaload, 1) := by decide +kernel
theorem dX0_chamberFact_46 : decode cX0_chamberFact 46 = .ok (.ireturn, 1) := by decide +kernel
theorem dX0_chamberFact_47 : decode cX0_chamberFact 47 = .ok (.aload_n 0, 1) := by decide +kernel
theorem dX0_chamberFact_48 : decode cX0_chamberFact 48 = .ok (.getfield 15, 3) := by decide +kernel
theorem dX0_chamberFact_51 : decode cX0_chamberFact 51 = .ok (.iload_n 1, 1) := by decide +kernel
theorem dX0_chamberFact_52 : decode cX0_chamberFact 52 = .ok (.iaload, 1) := by decide +kernel
theorem dX0_chamberFact_53 : decode cX0_chamberFact 53 = .ok (.ireturn, 1) := by decide +kernel
theorem dX0_chamberFact_54 : decode cX0_chamberFact 54 = .ok (.aload_n 0, 1) := by decide +kernel
theorem dX0_chamberFact_55 : decode cX0_chamberFact 55 = .ok (.getfield 18, 3) := by decide +kernel
theorem dX0_chamberFact_58 : decode cX0_chamberFact 58 = .ok (.iload_n 1, 1) := by decide +kernel
theorem dX0_chamberFact_59 : decode cX0_chamberFact 59 = .ok (.iaload, 1) := by decide +kernel
theorem dX0_chamberFact_60 : decode cX0_chamberFact 60 = .ok (.ireturn, 1) := by decide +kernel
theorem dX0_chamberFact_61 : decode cX0_chamberFact 61 = .ok (.aload_n 0, 1) := by decide +kernel
theorem dX0_chamberFact_62 : decode cX0_chamberFact 62 = .ok (.getfield 21, 3) := by decide +kernel
theorem dX0_chamberFact_65 : decode cX0_chamberFact 65 = .ok (.iload_n 1, 1) := by decide +kernel
theorem dX0_chamberFact_66 : decode cX0_chamberFact 66 = .ok (.iaload, 1) := by decide +kernel
theorem dX0_chamberFact_67 : decode cX0_chamberFact 67 = .ok (.ireturn, 1) := by decide +kernel
theorem dX0_chamberFact_68 : decode cX0_chamberFact 68 = .ok (.aload_n 0, 1) := by decide +kernel
theorem dX0_chamberFact_69 : decode cX0_chamberFact 69 = .ok (.getfield 24, 3) := by decide +kernel
theorem dX0_chamberFact_72 : decode cX0_chamberFact 72 = .ok (.iload_n 1, 1) := by decide +kernel
theorem dX0_chamberFact_73 : decode cX0_chamberFact 73 = .ok (.iaload, 1) := by decide +kernel
theorem dX0_chamberFact_74 : decode cX0_chamberFact 74 = .ok (.ireturn, 1) := by decide +kernel
theorem dX0_chamberFact_75 : decode cX0_chamberFact 75 = .ok (.aload_n 0, 1) := by decide +kernel
theorem dX0_chamberFact_76 : decode cX0_chamberFact 76 = .ok (.getfield 27, 3) := by decide +kernel
theorem dX0_chamberFact_79 : decode cX0_chamberFact 79 = .ok (.iload_n 1, 1) := by decide +kernel
theorem dX0_chamberFact_80 : decode cX0_chamberFact 80 = .ok (.iaload, 1) := by decide +kernel
theorem dX0_chamberFact_81 : decode cX0_chamberFact 81 = .ok (.ireturn, 1) := by decide +kernel
theorem dX0_chamberFact_82 : decode cX0_chamberFact 82 = .ok (.aload_n 0, 1) := by decide +kernel
theorem dX0_chamberFact_83 : decode cX0_chamberFact 83 = .ok (.iload_n 1, 1) := by decide +kernel
theorem dX0_chamberFact_84 : decode cX0_chamberFact 84 = .ok (.invokevirtual 72, 3) := by decide +kernel
theorem dX0_chamberFact_87 : decode cX0_chamberFact 87 = .ok (.ireturn, 1) := by decide +kernel
set_option maxRecDepth 20000 in
theorem ggX0_passageFact_X0_isOpen : GoodIn wsX0_passageFact wsX0_isOpen := goodIn_r _ [9, 10, 1, 11, 2, 12, 13, 14, 15, 16, 17, 18, 19, 20, 21, 22, 23, 24, 25, 26] (by decide +kernel) (by decide +kernel)
set_option maxRecDepth 20000 in
theorem gX0_passageFact_X0_isOpen : GoodIn wsX0_passageFact (wsV RX0 68 RX0 yX0_isOpen wsX0_isOpen) := goodIn_app (goodIn_of _ (by decide +kernel)) ggX0_passageFact_X0_isOpen
theorem dX0_passageFact_0 : decode cX0_passageFact 0 = .ok (.iload_n 2, 1) := by decide +kernel
theorem dX0_passageFact_1 : decode cX0_passageFact 1 = .ok (.tableswitch 59 0 3 #[31, 38, 45, 52], 31) := by decide +kernel
theorem dX0_passageFact_32 : decode cX0_passageFact 32 = .ok (.aload_n 0, 1) := by decide +kernel
theorem dX0_passageFact_33 : decode cX0_passageFact 33 = .ok (.getfield 35, 3) := by decide +kernel
theorem dX0_passageFact_36 : decode cX0_passageFact 36 = .ok (.iload_n 1, 1) := by decide +kernel
theorem dX0_passageFact_37 : decode cX0_passageFact 37 = .ok (.iaload, 1) := by decide +kernel
theorem dX0_passageFact_38 : decode cX0_passageFact 38 = .ok (.ireturn, 1) := by decide +kernel
theorem dX0_passageFact_39 : decode cX0_passageFact 39 = .ok (.aload_n 0, 1) := by decide +kernel
theorem dX0_passageFact_40 : decode cX0_passageFact 40 = .ok (.getfield 38, 3) := by decide +kernel
theorem dX0_passageFact_43 : decode cX0_passageFact 43 = .ok (.iload_n 1, 1) := by decide +kernel
theorem dX0_passageFact_44 : decode cX0_passageFact 44 = .ok (.iaload, 1) := by decide +kernel
theorem dX0_passageFact_45 : decode cX0_passageFact 45 = .ok (.ireturn, 1) := by decide +kernel
theorem dX0_passageFact_46 : decode cX0_passageFact 46 = .ok (.aload_n 0, 1) := by decide +kernel
theorem dX0_passageFact_47 : decode cX0_passageFact 47 = .ok (.getfield 41, 3) := by decide +kernel
theorem dX0_passageFact_50 : decode cX0_passageFact 50 = .ok (.iload_n 1, 1) := by decide +kernel
theorem dX0_passageFact_51 : decode cX0_passageFact 51 = .ok (.iaload, 1) := by decide +kernel
theorem dX0_passageFact_52 : decode cX0_passageFact 52 = .ok (.ireturn, 1) := by decide +kernel
theorem dX0_passageFact_53 : decode cX0_passageFact 53 = .ok (.aload_n 0, 1) := by decide +kernel
theorem dX0_passageFact_54 : decode cX0_passageFact 54 = .ok (.getfield 44, 3) := by decide +kernel
theorem dX0_passageFact_57 : decode cX0_passageFact 57 = .ok (.iload_n 1, 1) := by decide +kernel
theorem dX0_passageFact_58 : decode cX0_passageFact 58 = .ok (.iaload, 1) := by decide +kernel
theorem dX0_passageFact_59 : decode cX0_passageFact 59 = .ok (.ireturn, 1) := by decide +kernel
theorem dX0_passageFact_60 : decode cX0_passageFact 60 = .ok (.aload_n 0, 1) := by decide +kernel
theorem dX0_passageFact_61 : decode cX0_passageFact 61 = .ok (.iload_n 1, 1) := by decide +kernel
theorem dX0_passageFact_62 : decode cX0_passageFact 62 = .ok (.invokevirtual 68, 3) := by decide +kernel
theorem dX0_passageFact_65 : decode cX0_passageFact 65 = .ok (.ifCond .eq 7, 3) := by decide +kernel
theorem dX0_passageFact_68 : decode cX0_passageFact 68 = .ok (.iconst 1, 1) := by decide +kernel
theorem dX0_passageFact_69 : decode cX0_passageFact 69 = .ok (.goto 4, 3) := by decide +kernel
theorem dX0_passageFact_72 : decode cX0_passageFact 72 = .ok (.iconst 0, 1) := by decide +kernel
theorem dX0_passageFact_73 : decode cX0_passageFact 73 = .ok (.ireturn, 1) := by decide +kernel
set_option maxRecDepth 20000 in
theorem ggX0_shortestWay_J7_fill_53178 : GoodIn wsX0_shortestWay wsJ7_fill_53178 := goodIn_r _ [10] (by decide +kernel) (by decide +kernel)
set_option maxRecDepth 20000 in
theorem gX0_shortestWay_J7_fill_53178 : GoodIn wsX0_shortestWay (va_wsS RX0 76 yJ7_fill_53178 wsJ7_fill_53178) := goodIn_app (goodIn_of _ (by decide +kernel)) ggX0_shortestWay_J7_fill_53178
set_option maxRecDepth 20000 in
theorem ggX0_shortestWay_X0_isOpen : GoodIn wsX0_shortestWay wsX0_isOpen := goodIn_r _ [15, 16, 4, 17, 5, 22, 23, 24, 25, 26, 27, 28, 29, 30, 31, 32, 33, 34, 35, 36] (by decide +kernel) (by decide +kernel)
set_option maxRecDepth 20000 in
theorem gX0_shortestWay_X0_isOpen : GoodIn wsX0_shortestWay (wsV RX0 68 RX0 yX0_isOpen wsX0_isOpen) := goodIn_app (goodIn_of _ (by decide +kernel)) ggX0_shortestWay_X0_isOpen
set_option maxRecDepth 20000 in
theorem ggX0_shortestWay_X0_shorten : GoodIn wsX0_shortestWay wsX0_shorten := goodIn_r _ [21, 1, 22, 23, 24, 25, 26, 27, 28, 29, 30, 31, 32, 33, 34, 35, 36] (by decide +kernel) (by decide +kernel)
set_option maxRecDepth 20000 in
theorem gX0_shortestWay_X0_shorten : GoodIn wsX0_shortestWay (wsV RX0 82 RX0 yX0_shorten wsX0_shorten) := goodIn_app (goodIn_of _ (by decide +kernel)) ggX0_shortestWay_X0_shorten
theorem dX0_shortestWay_0 : decode cX0_shortestWay 0 = .ok (.aload_n 0, 1) := by decide +kernel
theorem dX0_shortestWay_1 : decode cX0_shortestWay 1 = .ok (.getfield 47, 3) := by decide +kernel
theorem dX0_shortestWay_4 : decode cX0_shortestWay 4 = .ok (.iconst (-1), 1) := by decide +kernel
theorem dX0_shortestWay_5 : decode cX0_shortestWay 5 = .ok (.invokestatic 76, 3) := by decide +kernel
theorem dX0_shortestWay_8 : decode cX0_shortestWay 8 = .ok (.aload_n 0, 1) := by decide +kernel
theorem dX0_shortestWay_9 : decode cX0_shortestWay 9 = .ok (.getfield 47, 3) := by decide +kernel
theorem dX0_shortestWay_12 : decode cX0_shortestWay 12 = .ok (.iload_n 1, 1) := by decide +kernel
theorem dX0_shortestWay_13 : decode cX0_shortestWay 13 = .ok (.iconst 0, 1) := by decide +kernel
theorem dX0_shortestWay_14 : decode cX0_shortestWay 14 = .ok (.iastore, 1) := by decide +kernel
theorem dX0_shortestWay_15 : decode cX0_shortestWay 15 = .ok (.iconst 1, 1) := by decide +kernel
theorem dX0_shortestWay_16 : decode cX0_shortestWay 16 = .ok (.istore_n 3, 1) := by decide +kernel
theorem dX0_shortestWay_17 : decode cX0_shortestWay 17 = .ok (.iload_n 3, 1) := by decide +kernel
theorem dX0_shortestWay_18 : decode cX0_shortestWay 18 = .ok (.aload_n 0, 1) := by decide +kernel
theorem dX0_shortestWay_19 : decode cX0_shortestWay 19 = .ok (.getfield 50, 3) := by decide +kernel
theorem dX0_shortestWay_22 : decode cX0_shortestWay 22 = .ok (.if_icmp .ge 86, 3) := by decide +kernel
theorem dX0_shortestWay_25 : decode cX0_shortestWay 25 = .ok (.iconst 0, 1) := by decide +kernel
theorem dX0_shortestWay_26 : decode cX0_shortestWay 26 = .ok (.istore 4, 2) := by decide +kernel
theorem dX0_shortestWay_28 : decode cX0_shortestWay 28 = .ok (.iload 4, 2) := by decide +kernel
theorem dX0_shortestWay_30 : decode cX0_shortestWay 30 = .ok (.aload_n 0, 1) := by decide +kernel
theorem dX0_shortestWay_31 : decode cX0_shortestWay 31 = .ok (.getfield 54, 3) := by decide +kernel
theorem dX0_shortestWay_34 : decode cX0_shortestWay 34 = .ok (.if_icmp .ge 68, 3) := by decide +kernel
theorem dX0_shortestWay_37 : decode cX0_shortestWay 37 = .ok (.aload_n 0, 1) := by decide +kernel
theorem dX0_shortestWay_38 : decode cX0_shortestWay 38 = .ok (.iload 4, 2) := by decide +kernel
theorem dX0_shortestWay_40 : decode cX0_shortestWay 40 = .ok (.invokevirtual 68, 3) := by decide +kernel
theorem dX0_shortestWay_43 : decode cX0_shortestWay 43 = .ok (.ifCond .eq 53, 3) := by decide +kernel
theorem dX0_shortestWay_46 : decode cX0_shortestWay 46 = .ok (.aload_n 0, 1) := by decide +kernel
theorem dX0_shortestWay_47 : decode cX0_shortestWay 47 = .ok (.aload_n 0, 1) := by decide +kernel
theorem dX0_shortestWay_48 : decode cX0_shortestWay 48 = .ok (.getfield 35, 3) := by decide +kernel
theorem dX0_shortestWay_51 : decode cX0_shortestWay 51 = .ok (.iload 4, 2) := by decide +kernel
theorem dX0_shortestWay_53 : decode cX0_shortestWay 53 = .ok (.iaload, 1) := by decide +kernel
theorem dX0_shortestWay_54 : decode cX0_shortestWay 54 = .ok (.aload_n 0, 1) := by decide +kernel
theorem dX0_shortestWay_55 : decode cX0_shortestWay 55 = .ok (.getfield 38, 3) := by decide +kernel
theorem dX0_shortestWay_58 : decode cX0_shortestWay 58 = .ok (.iload 4, 2) := by decide +kernel
theorem dX0_shortestWay_60 : decode cX0_shortestWay 60 = .ok (.iaload, 1) := by decide +kernel
theorem dX0_shortestWay_61 : decode cX0_shortestWay 61 = .ok (.aload_n 0, 1) := by decide +kernel
theorem dX0_shortestWay_62 : decode cX0_shortestWay 62 = .ok (.getfield 41, 3) := by decide +kernel
theorem dX0_shortestWay_65 : decode cX0_shortestWay 65 = .ok (.iload 4, 2) := by decide +kernel
theorem dX0_shortestWay_67 : decode cX0_shortestWay 67 = .ok (.iaload, 1) := by decide +kernel
theorem dX0_shortestWay_68 : decode cX0_shortestWay 68 = .ok (.invokevirtual 82, 3) := by decide +kernel
theorem dX0_shortestWay_71 : decode cX0_shortestWay 71 = .ok (.aload_n 0, 1) := by decide +kernel
theorem dX0_shortestWay_72 : decode cX0_shortestWay 72 = .ok (.aload_n 0, 1) := by decide +kernel
theorem dX0_shortestWay_73 : decode cX0_shortestWay 73 = .ok (.getfield 38, 3) := by decide +kernel
theorem dX0_shortestWay_76 : decode cX0_shortestWay 76 = .ok (.iload 4, 2) := by decide +kernel
theorem dX0_shortestWay_78 : decode cX0_shortestWay 78 = .ok (.iaload, 1) := by decide +kernel
theorem dX0_shortestWay_79 : decode cX0_shortestWay 79 = .ok (.aload_n 0, 1) := by decide +kernel
theorem dX0_shortestWay_80 : decode cX0_shortestWay 80 = .ok (.getfield 35, 3) := by decide +kernel
theorem dX0_shortestWay_83 : decode cX0_shortestWay 83 = .ok (.iload 4, 2) := by decide +kernel
theorem dX0_shortestWay_85 : decode cX0_shortestWay 85 = .ok (.iaload, 1) := by decide +kernel
theorem dX0_shortestWay_86 : decode cX0_shortestWay 86 = .ok (.aload_n 0, 1) := by decide +kernel
theorem dX0_shortestWay_87 : decode cX0_shortestWay 87 = .ok (.getfield 41, 3) := by decide +kernel
theorem dX0_shortestWay_90 : decode cX0_shortestWay 90 = .ok (.iload 4, 2) := by decide +kernel
theorem dX0_shortestWay_92 : decode cX0_shortestWay 92 = .ok (.iaload, 1) := by decide +kernel
theorem dX0_shortestWay_93 : decode cX0_shortestWay 93 = .ok (.invokevirtual 82, 3) := by decide +kernel
theorem dX0_shortestWay_96 : decode cX0_shortestWay 96 = .ok (.iinc 4 1, 3) := by decide +kernel
theorem dX0_shortestWay_99 : decode cX0_shortestWay 99 = .ok (.goto (-71), 3) := by decide +kernel
theorem dX0_shortestWay_102 : decode cX0_shortestWay 102 = .ok (.iinc 3 1, 3) := by decide +kernel
theorem dX0_shortestWay_105 : decode cX0_shortestWay 105 = .ok (.goto (-88), 3) := by decide +kernel
theorem dX0_shortestWay_108 : decode cX0_shortestWay 108 = .ok (.aload_n 0, 1) := by decide +kernel
theorem dX0_shortestWay_109 : decode cX0_shortestWay 109 = .ok (.getfield 47, 3) := by decide +kernel
theorem dX0_shortestWay_112 : decode cX0_shortestWay 112 = .ok (.iload_n 2, 1) := by decide +kernel
theorem dX0_shortestWay_113 : decode cX0_shortestWay 113 = .ok (.iaload, 1) := by decide +kernel
theorem dX0_shortestWay_114 : decode cX0_shortestWay 114 = .ok (.ireturn, 1) := by decide +kernel
theorem dX0_shorten_0 : decode cX0_shorten 0 = .ok (.aload_n 0, 1) := by decide +kernel
theorem dX0_shorten_1 : decode cX0_shorten 1 = .ok (.getfield 47, 3) := by decide +kernel
theorem dX0_shorten_4 : decode cX0_shorten 4 = .ok (.iload_n 1, 1) := by decide +kernel
theorem dX0_shorten_5 : decode cX0_shorten 5 = .ok (.iaload, 1) := by decide +kernel
theorem dX0_shorten_6 : decode cX0_shorten 6 = .ok (.ifCond .ge 4, 3) := by decide +kernel
theorem dX0_shorten_9 : decode cX0_shorten 9 = .ok (.return_, 1) := by decide +kernel
theorem dX0_shorten_10 : decode cX0_shorten 10 = .ok (.aload_n 0, 1) := by decide +kernel
theorem dX0_shorten_11 : decode cX0_shorten 11 = .ok (.getfield 47, 3) := by decide +kernel
theorem dX0_shorten_14 : decode cX0_shorten 14 = .ok (.iload_n 1, 1) := by decide +kernel
theorem dX0_shorten_15 : decode cX0_shorten 15 = .ok (.iaload, 1) := by decide +kernel
theorem dX0_shorten_16 : decode cX0_shorten 16 = .ok (.iload_n 3, 1) := by decide +kernel
theorem dX0_shorten_17 : decode cX0_shorten 17 = .ok (.iadd, 1) := by decide +kernel
theorem dX0_shorten_18 : decode cX0_shorten 18 = .ok (.istore 4, 2) := by decide +kernel
theorem dX0_shorten_20 : decode cX0_shorten 20 = .ok (.aload_n 0, 1) := by decide +kernel
theorem dX0_shorten_21 : decode cX0_shorten 21 = .ok (.getfield 47, 3) := by decide +kernel
theorem dX0_shorten_24 : decode cX0_shorten 24 = .ok (.iload_n 2, 1) := by decide +kernel
theorem dX0_shorten_25 : decode cX0_shorten 25 = .ok (.iaload, 1) := by decide +kernel
theorem dX0_shorten_26 : decode cX0_shorten 26 = .ok (.ifCond .lt 14, 3) := by decide +kernel
theorem dX0_shorten_29 : decode cX0_shorten 29 = .ok (.iload 4, 2) := by decide +kernel
theorem dX0_shorten_31 : decode cX0_shorten 31 = .ok (.aload_n 0, 1) := by decide +kernel
theorem dX0_shorten_32 : decode cX0_shorten 32 = .ok (.getfield 47, 3) := by decide +kernel
theorem dX0_shorten_35 : decode cX0_shorten 35 = .ok (.iload_n 2, 1) := by decide +kernel
theorem dX0_shorten_36 : decode cX0_shorten 36 = .ok (.iaload, 1) := by decide +kernel
theorem dX0_shorten_37 : decode cX0_shorten 37 = .ok (.if_icmp .ge 11, 3) := by decide +kernel
theorem dX0_shorten_40 : decode cX0_shorten 40 = .ok (.aload_n 0, 1) := by decide +kernel
theorem dX0_shorten_41 : decode cX0_shorten 41 = .ok (.getfield 47, 3) := by decide +kernel
theorem dX0_shorten_44 : decode cX0_shorten 44 = .ok (.iload_n 2, 1) := by decide +kernel
theorem dX0_shorten_45 : decode cX0_shorten 45 = .ok (.iload 4, 2) := by decide +kernel
theorem dX0_shorten_47 : decode cX0_shorten 47 = .ok (.iastore, 1) := by decide +kernel
theorem dX0_shorten_48 : decode cX0_shorten 48 = .ok (.return_, 1) := by decide +kernel
set_option maxRecDepth 20000 in
theorem ggX0_highestWater_J7_fill_53178 : GoodIn wsX0_highestWater wsJ7_fill_53178 := goodIn_r _ [9] (by decide +kernel) (by decide +kernel)
set_option maxRecDepth 20000 in
theorem gX0_highestWater_J7_fill_53178 : GoodIn wsX0_highestWater (va_wsS RX0 76 yJ7_fill_53178 wsJ7_fill_53178) := goodIn_app (goodIn_of _ (by decide +kernel)) ggX0_highestWater_J7_fill_53178
set_option maxRecDepth 20000 in
theorem ggX0_highestWater_X0_raise : GoodIn wsX0_highestWater wsX0_raise := goodIn_r _ [14, 15, 16, 17, 18, 19, 1, 20, 21, 22, 23, 24, 25, 26, 27, 28, 29, 30, 31, 32, 33, 34, 35, 36, 37] (by decide +kernel) (by decide +kernel)
set_option maxRecDepth 20000 in
theorem gX0_highestWater_X0_raise : GoodIn wsX0_highestWater (wsV RX0 86 RX0 yX0_raise wsX0_raise) := goodIn_app (goodIn_of _ (by decide +kernel)) ggX0_highestWater_X0_raise
theorem dX0_highestWater_0 : decode cX0_highestWater 0 = .ok (.aload_n 0, 1) := by decide +kernel
theorem dX0_highestWater_1 : decode cX0_highestWater 1 = .ok (.getfield 47, 3) := by decide +kernel
theorem dX0_highestWater_4 : decode cX0_highestWater 4 = .ok (.iconst (-1), 1) := by decide +kernel
theorem dX0_highestWater_5 : decode cX0_highestWater 5 = .ok (.invokestatic 76, 3) := by decide +kernel
theorem dX0_highestWater_8 : decode cX0_highestWater 8 = .ok (.aload_n 0, 1) := by decide +kernel
theorem dX0_highestWater_9 : decode cX0_highestWater 9 = .ok (.getfield 47, 3) := by decide +kernel
theorem dX0_highestWater_12 : decode cX0_highestWater 12 = .ok (.iconst 0, 1) := by decide +kernel
theorem dX0_highestWater_13 : decode cX0_highestWater 13 = .ok (.bipush 30, 2) := by decide +kernel
theorem dX0_highestWater_15 : decode cX0_highestWater 15 = .ok (.iastore, 1) := by decide +kernel
theorem dX0_highestWater_16 : decode cX0_highestWater 16 = .ok (.iconst 1, 1) := by decide +kernel
theorem dX0_highestWater_17 : decode cX0_highestWater 17 = .ok (.istore_n 2, 1) := by decide +kernel
theorem dX0_highestWater_18 : decode cX0_highestWater 18 = .ok (.iload_n 2, 1) := by decide +kernel
theorem dX0_highestWater_19 : decode cX0_highestWater 19 = .ok (.aload_n 0, 1) := by decide +kernel
theorem dX0_highestWater_20 : decode cX0_highestWater 20 = .ok (.getfield 50, 3) := by decide +kernel
theorem dX0_highestWater_23 : decode cX0_highestWater 23 = .ok (.if_icmp .ge 57, 3) := by decide +kernel
theorem dX0_highestWater_26 : decode cX0_highestWater 26 = .ok (.iconst 0, 1) := by decide +kernel
theorem dX0_highestWater_27 : decode cX0_highestWater 27 = .ok (.istore_n 3, 1) := by decide +kernel
theorem dX0_highestWater_28 : decode cX0_highestWater 28 = .ok (.iload_n 3, 1) := by decide +kernel
theorem dX0_highestWater_29 : decode cX0_highestWater 29 = .ok (.aload_n 0, 1) := by decide +kernel
theorem dX0_highestWater_30 : decode cX0_highestWater 30 = .ok (.getfield 54, 3) := by decide +kernel
theorem dX0_highestWater_33 : decode cX0_highestWater 33 = .ok (.if_icmp .ge 41, 3) := by decide +kernel
theorem dX0_highestWater_36 : decode cX0_highestWater 36 = .ok (.aload_n 0, 1) := by decide +kernel
theorem dX0_highestWater_37 : decode cX0_highestWater 37 = .ok (.aload_n 0, 1) := by decide +kernel
theorem dX0_highestWater_38 : decode cX0_highestWater 38 = .ok (.getfield 35, 3) := by decide +kernel
theorem dX0_highestWater_41 : decode cX0_highestWater 41 = .ok (.iload_n 3, 1) := by decide +kernel
theorem dX0_highestWater_42 : decode cX0_highestWater 42 = .ok (.iaload, 1) := by decide +kernel
theorem dX0_highestWater_43 : decode cX0_highestWater 43 = .ok (.aload_n 0, 1) := by decide +kernel
theorem dX0_highestWater_44 : decode cX0_highestWater 44 = .ok (.getfield 38, 3) := by decide +kernel
theorem dX0_highestWater_47 : decode cX0_highestWater 47 = .ok (.iload_n 3, 1) := by decide +kernel
theorem dX0_highestWater_48 : decode cX0_highestWater 48 = .ok (.iaload, 1) := by decide +kernel
theorem dX0_highestWater_49 : decode cX0_highestWater 49 = .ok (.invokevirtual 86, 3) := by decide +kernel
theorem dX0_highestWater_52 : decode cX0_highestWater 52 = .ok (.aload_n 0, 1) := by decide +kernel
theorem dX0_highestWater_53 : decode cX0_highestWater 53 = .ok (.aload_n 0, 1) := by decide +kernel
theorem dX0_highestWater_54 : decode cX0_highestWater 54 = .ok (.getfield 38, 3) := by decide +kernel
theorem dX0_highestWater_57 : decode cX0_highestWater 57 = .ok (.iload_n 3, 1) := by decide +kernel
theorem dX0_highestWater_58 : decode cX0_highestWater 58 = .ok (.iaload, 1) := by decide +kernel
theorem dX0_highestWater_59 : decode cX0_highestWater 59 = .ok (.aload_n 0, 1) := by decide +kernel
theorem dX0_highestWater_60 : decode cX0_highestWater 60 = .ok (.getfield 35, 3) := by decide +kernel
theorem dX0_highestWater_63 : decode cX0_highestWater 63 = .ok (.iload_n 3, 1) := by decide +kernel
theorem dX0_highestWater_64 : decode cX0_highestWater 64 = .ok (.iaload, 1) := by decide +kernel
theorem dX0_highestWater_65 : decode cX0_highestWater 65 = .ok (.invokevirtual 86, 3) := by decide +kernel
theorem dX0_highestWater_68 : decode cX0_highestWater 68 = .ok (.iinc 3 1, 3) := by decide +kernel
theorem dX0_highestWater_71 : decode cX0_highestWater 71 = .ok (.goto (-43), 3) := by decide +kernel
theorem dX0_highestWater_74 : decode cX0_highestWater 74 = .ok (.iinc 2 1, 3) := by decide +kernel
theorem dX0_highestWater_77 : decode cX0_highestWater 77 = .ok (.goto (-59), 3) := by decide +kernel
theorem dX0_highestWater_80 : decode cX0_highestWater 80 = .ok (.aload_n 0, 1) := by decide +kernel
theorem dX0_highestWater_81 : decode cX0_highestWater 81 = .ok (.getfield 47, 3) := by decide +kernel
theorem dX0_highestWater_84 : decode cX0_highestWater 84 = .ok (.iload_n 1, 1) := by decide +kernel
theorem dX0_highestWater_85 : decode cX0_highestWater 85 = .ok (.iaload, 1) := by decide +kernel
theorem dX0_highestWater_86 : decode cX0_highestWater 86 = .ok (.ireturn, 1) := by decide +kernel
theorem dX0_raise_0 : decode cX0_raise 0 = .ok (.aload_n 0, 1) := by decide +kernel
theorem dX0_raise_1 : decode cX0_raise 1 = .ok (.getfield 15, 3) := by decide +kernel
theorem dX0_raise_4 : decode cX0_raise 4 = .ok (.iload_n 1, 1) := by decide +kernel
theorem dX0_raise_5 : decode cX0_raise 5 = .ok (.iaload, 1) := by decide +kernel
theorem dX0_raise_6 : decode cX0_raise 6 = .ok (.aload_n 0, 1) := by decide +kernel
theorem dX0_raise_7 : decode cX0_raise 7 = .ok (.getfield 15, 3) := by decide +kernel
theorem dX0_raise_10 : decode cX0_raise 10 = .ok (.iload_n 2, 1) := by decide +kernel
theorem dX0_raise_11 : decode cX0_raise 11 = .ok (.iaload, 1) := by decide +kernel
theorem dX0_raise_12 : decode cX0_raise 12 = .ok (.invokestatic 89, 3) := by decide +kernel
theorem dX0_raise_15 : decode cX0_raise 15 = .ok (.istore_n 3, 1) := by decide +kernel
theorem dX0_raise_16 : decode cX0_raise 16 = .ok (.aload_n 0, 1) := by decide +kernel
theorem dX0_raise_17 : decode cX0_raise 17 = .ok (.getfield 47, 3) := by decide +kernel
theorem dX0_raise_20 : decode cX0_raise 20 = .ok (.iload_n 2, 1) := by decide +kernel
theorem dX0_raise_21 : decode cX0_raise 21 = .ok (.aload_n 0, 1) := by decide +kernel
theorem dX0_raise_22 : decode cX0_raise 22 = .ok (.getfield 47, 3) := by decide +kernel
theorem dX0_raise_25 : decode cX0_raise 25 = .ok (.iload_n 2, 1) := by decide +kernel
theorem dX0_raise_26 : decode cX0_raise 26 = .ok (.iaload, 1) := by decide +kernel
theorem dX0_raise_27 : decode cX0_raise 27 = .ok (.aload_n 0, 1) := by decide +kernel
theorem dX0_raise_28 : decode cX0_raise 28 = .ok (.getfield 47, 3) := by decide +kernel
theorem dX0_raise_31 : decode cX0_raise 31 = .ok (.iload_n 1, 1) := by decide +kernel
theorem dX0_raise_32 : decode cX0_raise 32 = .ok (.iaload, 1) := by decide +kernel
theorem dX0_raise_33 : decode cX0_raise 33 = .ok (.iload_n 3, 1) := by decide +kernel
theorem dX0_raise_34 : decode cX0_raise 34 = .ok (.invokestatic 89, 3) := by decide +kernel
theorem dX0_raise_37 : decode cX0_raise 37 = .ok (.invokestatic 95, 3) := by decide +kernel
theorem dX0_raise_40 : decode cX0_raise 40 = .ok (.iastore, 1) := by decide +kernel
theorem dX0_raise_41 : decode cX0_raise 41 = .ok (.return_, 1) := by decide +kernel
theorem dX1_init_0 : decode cX1_init 0 = .ok (.aload_n 0, 1) := by decide +kernel
theorem dX1_init_1 : decode cX1_init 1 = .ok (.invokespecial 5, 3) := by decide +kernel
theorem dX1_init_4 : decode cX1_init 4 = .ok (.aload_n 0, 1) := by decide +kernel
theorem dX1_init_5 : decode cX1_init 5 = .ok (.sipush 629, 3) := by decide +kernel
theorem dX1_init_8 : decode cX1_init 8 = .ok (.newarray .int, 2) := by decide +kernel
theorem dX1_init_10 : decode cX1_init 10 = .ok (.putfield 11, 3) := by decide +kernel
theorem dX1_init_13 : decode cX1_init 13 = .ok (.aload_n 0, 1) := by decide +kernel
theorem dX1_init_14 : decode cX1_init 14 = .ok (.iconst 0, 1) := by decide +kernel
theorem dX1_init_15 : decode cX1_init 15 = .ok (.putfield 15, 3) := by decide +kernel
theorem dX1_init_18 : decode cX1_init 18 = .ok (.return_, 1) := by decide +kernel
theorem dX1_pack_0 : decode cX1_pack 0 = .ok (.iload_n 0, 1) := by decide +kernel
theorem dX1_pack_1 : decode cX1_pack 1 = .ok (.bipush 21, 2) := by decide +kernel
theorem dX1_pack_3 : decode cX1_pack 3 = .ok (.ishl, 1) := by decide +kernel
theorem dX1_pack_4 : decode cX1_pack 4 = .ok (.iload_n 1, 1) := by decide +kernel
theorem dX1_pack_5 : decode cX1_pack 5 = .ok (.bipush 17, 2) := by decide +kernel
theorem dX1_pack_7 : decode cX1_pack 7 = .ok (.ishl, 1) := by decide +kernel
theorem dX1_pack_8 : decode cX1_pack 8 = .ok (.ior, 1) := by decide +kernel
theorem dX1_pack_9 : decode cX1_pack 9 = .ok (.iload_n 2, 1) := by decide +kernel
theorem dX1_pack_10 : decode cX1_pack 10 = .ok (.bipush 12, 2) := by decide +kernel
theorem dX1_pack_12 : decode cX1_pack 12 = .ok (.ishl, 1) := by decide +kernel
theorem dX1_pack_13 : decode cX1_pack 13 = .ok (.ior, 1) := by decide +kernel
theorem dX1_pack_14 : decode cX1_pack 14 = .ok (.iload_n 3, 1) := by decide +kernel
theorem dX1_pack_15 : decode cX1_pack 15 = .ok (.iconst 1, 1) := by decide +kernel
theorem dX1_pack_16 : decode cX1_pack 16 = .ok (.iadd, 1) := by decide +kernel
theorem dX1_pack_17 : decode cX1_pack 17 = .ok (.bipush 7, 2) := by decide +kernel
theorem dX1_pack_19 : decode cX1_pack 19 = .ok (.ishl, 1) := by decide +kernel
theorem dX1_pack_20 : decode cX1_pack 20 = .ok (.ior, 1) := by decide +kernel
theorem dX1_pack_21 : decode cX1_pack 21 = .ok (.iload 4, 2) := by decide +kernel
theorem dX1_pack_23 : decode cX1_pack 23 = .ok (.ior, 1) := by decide +kernel
theorem dX1_pack_24 : decode cX1_pack 24 = .ok (.ireturn, 1) := by decide +kernel
theorem dX1_timeOf_0 : decode cX1_timeOf 0 = .ok (.iload_n 0, 1) := by decide +kernel
theorem dX1_timeOf_1 : decode cX1_timeOf 1 = .ok (.bipush 21, 2) := by decide +kernel
theorem dX1_timeOf_3 : decode cX1_timeOf 3 = .ok (.ishr, 1) := by decide +kernel
theorem dX1_timeOf_4 : decode cX1_timeOf 4 = .ok (.ireturn, 1) := by decide +kernel
theorem dX1_chamberOf_0 : decode cX1_chamberOf 0 = .ok (.iload_n 0, 1) := by decide +kernel
theorem dX1_chamberOf_1 : decode cX1_chamberOf 1 = .ok (.bipush 17, 2) := by decide +kernel
theorem dX1_chamberOf_3 : decode cX1_chamberOf 3 = .ok (.ishr, 1) := by decide +kernel
theorem dX1_chamberOf_4 : decode cX1_chamberOf 4 = .ok (.bipush 15, 2) := by decide +kernel
theorem dX1_chamberOf_6 : decode cX1_chamberOf 6 = .ok (.iand, 1) := by decide +kernel
theorem dX1_chamberOf_7 : decode cX1_chamberOf 7 = .ok (.ireturn, 1) := by decide +kernel
theorem dX1_runOf_0 : decode cX1_runOf 0 = .ok (.iload_n 0, 1) := by decide +kernel
theorem dX1_runOf_1 : decode cX1_runOf 1 = .ok (.bipush 12, 2) := by decide +kernel
theorem dX1_runOf_3 : decode cX1_runOf 3 = .ok (.ishr, 1) := by decide +kernel
theorem dX1_runOf_4 : decode cX1_runOf 4 = .ok (.bipush 31, 2) := by decide +kernel
theorem dX1_runOf_6 : decode cX1_runOf 6 = .ok (.iand, 1) := by decide +kernel
theorem dX1_runOf_7 : decode cX1_runOf 7 = .ok (.ireturn, 1) := by decide +kernel
theorem dX1_passageOf_0 : decode cX1_passageOf 0 = .ok (.iload_n 0, 1) := by decide +kernel
theorem dX1_passageOf_1 : decode cX1_passageOf 1 = .ok (.bipush 7, 2) := by decide +kernel
theorem dX1_passageOf_3 : decode cX1_passageOf 3 = .ok (.ishr, 1) := by decide +kernel
theorem dX1_passageOf_4 : decode cX1_passageOf 4 = .ok (.bipush 31, 2) := by decide +kernel
theorem dX1_passageOf_6 : decode cX1_passageOf 6 = .ok (.iand, 1) := by decide +kernel
theorem dX1_passageOf_7 : decode cX1_passageOf 7 = .ok (.iconst 1, 1) := by decide +kernel
theorem dX1_passageOf_8 : decode cX1_passageOf 8 = .ok (.isub, 1) := by decide +kernel
theorem dX1_passageOf_9 : decode cX1_passageOf 9 = .ok (.ireturn, 1) := by decide +kernel
theorem dX1_strengthOf_0 : decode cX1_strengthOf 0 = .ok (.iload_n 0, 1) := by decide +kernel
theorem dX1_strengthOf_1 : decode cX1_strengthOf 1 = .ok (.bipush 127, 2) := by decide +kernel
theorem dX1_strengthOf_3 : decode cX1_strengthOf 3 = .ok (.iand, 1) := by decide +kernel
theorem dX1_strengthOf_4 : decode cX1_strengthOf 4 = .ok (.ireturn, 1) := by decide +kernel
theorem dX1_clear_0 : decode cX1_clear 0 = .ok (.aload_n 0, 1) := by decide +kernel
theorem dX1_clear_1 : decode cX1_clear 1 = .ok (.iconst 0, 1) := by decide +kernel
theorem dX1_clear_2 : decode cX1_clear 2 = .ok (.putfield 15, 3) := by decide +kernel
theorem dX1_clear_5 : decode cX1_clear 5 = .ok (.return_, 1) := by decide +kernel
theorem dX1_isEmpty_0 : decode cX1_isEmpty 0 = .ok (.aload_n 0, 1) := by decide +kernel
theorem dX1_isEmpty_1 : decode cX1_isEmpty 1 = .ok (.getfield 15, 3) := by decide +kernel
theorem dX1_isEmpty_4 : decode cX1_isEmpty 4 = .ok (.ifCond .ne 7, 3) := by decide +kernel
theorem dX1_isEmpty_7 : decode cX1_isEmpty 7 = .ok (.iconst 1, 1) := by decide +kernel
theorem dX1_isEmpty_8 : decode cX1_isEmpty 8 = .ok (.goto 4, 3) := by decide +kernel
theorem dX1_isEmpty_11 : decode cX1_isEmpty 11 = .ok (.iconst 0, 1) := by decide +kernel
theorem dX1_isEmpty_12 : decode cX1_isEmpty 12 = .ok (.ireturn, 1) := by decide +kernel
theorem dX1_put_0 : decode cX1_put 0 = .ok (.aload_n 0, 1) := by decide +kernel
theorem dX1_put_1 : decode cX1_put 1 = .ok (.getfield 15, 3) := by decide +kernel
theorem dX1_put_4 : decode cX1_put 4 = .ok (.aload_n 0, 1) := by decide +kernel
theorem dX1_put_5 : decode cX1_put 5 = .ok (.getfield 11, 3) := by decide +kernel
theorem dX1_put_8 : decode cX1_put 8 = .ok (.arraylength, 1) := by decide +kernel
theorem dX1_put_9 : decode cX1_put 9 = .ok (.if_icmp .lt 4, 3) := by decide +kernel
theorem dX1_put_12 : decode cX1_put 12 = .ok (.return_, 1) := by decide +kernel
theorem dX1_put_13 : decode cX1_put 13 = .ok (.aload_n 0, 1) := by decide +kernel
theorem dX1_put_14 : decode cX1_put 14 = .ok (.getfield 15, 3) := by decide +kernel
theorem dX1_put_17 : decode cX1_put 17 = .ok (.istore_n 2, 1) := by decide +kernel
theorem dX1_put_18 : decode cX1_put 18 = .ok (.aload_n 0, 1) := by decide +kernel
theorem dX1_put_19 : decode cX1_put 19 = .ok (.dup, 1) := by decide +kernel
theorem dX1_put_20 : decode cX1_put 20 = .ok (.getfield 15, 3) := by decide +kernel
theorem dX1_put_23 : decode cX1_put 23 = .ok (.iconst 1, 1) := by decide +kernel
theorem dX1_put_24 : decode cX1_put 24 = .ok (.iadd, 1) := by decide +kernel
theorem dX1_put_25 : decode cX1_put 25 = .ok (.putfield 15, 3) := by decide +kernel
theorem dX1_put_28 : decode cX1_put 28 = .ok (.iload_n 2, 1) := by decide +kernel
theorem dX1_put_29 : decode cX1_put 29 = .ok (.ifCond .le 42, 3) := by decide +kernel
theorem dX1_put_32 : decode cX1_put 32 = .ok (.aload_n 0, 1) := by decide +kernel
theorem dX1_put_33 : decode cX1_put 33 = .ok (.getfield 11, 3) := by decide +kernel
theorem dX1_put_36 : decode cX1_put 36 = .ok (.iload_n 2, 1) := by decide +kernel
theorem dX1_put_37 : decode cX1_put 37 = .ok (.iconst 1, 1) := by decide +kernel
theorem dX1_put_38 : decode cX1_put 38 = .ok (.isub, 1) := by decide +kernel
theorem dX1_put_39 : decode cX1_put 39 = .ok (.iconst 2, 1) := by decide +kernel
theorem dX1_put_40 : decode cX1_put 40 = .ok (.idiv, 1) := by decide +kernel
theorem dX1_put_41 : decode cX1_put 41 = .ok (.iaload, 1) := by decide +kernel
theorem dX1_put_42 : decode cX1_put 42 = .ok (.iload_n 1, 1) := by decide +kernel
theorem dX1_put_43 : decode cX1_put 43 = .ok (.if_icmp .le 28, 3) := by decide +kernel
theorem dX1_put_46 : decode cX1_put 46 = .ok (.aload_n 0, 1) := by decide +kernel
theorem dX1_put_47 : decode cX1_put 47 = .ok (.getfield 11, 3) := by decide +kernel
theorem dX1_put_50 : decode cX1_put 50 = .ok (.iload_n 2, 1) := by decide +kernel
theorem dX1_put_51 : decode cX1_put 51 = .ok (.aload_n 0, 1) := by decide +kernel
theorem dX1_put_52 : decode cX1_put 52 = .ok (.getfield 11, 3) := by decide +kernel
theorem dX1_put_55 : decode cX1_put 55 = .ok (.iload_n 2, 1) := by decide +kernel
theorem dX1_put_56 : decode cX1_put 56 = .ok (.iconst 1, 1) := by decide +kernel
theorem dX1_put_57 : decode cX1_put 57 = .ok (.isub, 1) := by decide +kernel
theorem dX1_put_58 : decode cX1_put 58 = .ok (.iconst 2, 1) := by decide +kernel
theorem dX1_put_59 : decode cX1_put 59 = .ok (.idiv, 1) := by decide +kernel
theorem dX1_put_60 : decode cX1_put 60 = .ok (.iaload, 1) := by decide +kernel
theorem dX1_put_61 : decode cX1_put 61 = .ok (.iastore, 1) := by decide +kernel
theorem dX1_put_62 : decode cX1_put 62 = .ok (.iload_n 2, 1) := by decide +kernel
theorem dX1_put_63 : decode cX1_put 63 = .ok (.iconst 1, 1) := by decide +kernel
theorem dX1_put_64 : decode cX1_put 64 = .ok (.isub, 1) := by decide +kernel
theorem dX1_put_65 : decode cX1_put 65 = .ok (.iconst 2, 1) := by decide +kernel
theorem dX1_put_66 : decode cX1_put 66 = .ok (.idiv, 1) := by decide +kernel
theorem dX1_put_67 : decode cX1_put 67 = .ok (.istore_n 2, 1) := by decide +kernel
theorem dX1_put_68 : decode cX1_put 68 = .ok (.goto (-40), 3) := by decide +kernel
theorem dX1_put_71 : decode cX1_put 71 = .ok (.aload_n 0, 1) := by decide +kernel
theorem dX1_put_72 : decode cX1_put 72 = .ok (.getfield 11, 3) := by decide +kernel
theorem dX1_put_75 : decode cX1_put 75 = .ok (.iload_n 2, 1) := by decide +kernel
theorem dX1_put_76 : decode cX1_put 76 = .ok (.iload_n 1, 1) := by decide +kernel
theorem dX1_put_77 : decode cX1_put 77 = .ok (.iastore, 1) := by decide +kernel
theorem dX1_put_78 : decode cX1_put 78 = .ok (.return_, 1) := by decide +kernel
set_option maxRecDepth 20000 in
theorem ggX1_takeNext_X1_sink : GoodIn wsX1_takeNext wsX1_sink := goodIn_r _ [7, 2, 1, 8, 9] (by decide +kernel) (by decide +kernel)
set_option maxRecDepth 20000 in
theorem gX1_takeNext_X1_sink : GoodIn wsX1_takeNext (wsV RX1 19 RX1 yX1_sink wsX1_sink) := goodIn_app (goodIn_of _ (by decide +kernel)) ggX1_takeNext_X1_sink
theorem dX1_takeNext_0 : decode cX1_takeNext 0 = .ok (.aload_n 0, 1) := by decide +kernel
theorem dX1_takeNext_1 : decode cX1_takeNext 1 = .ok (.getfield 11, 3) := by decide +kernel
theorem dX1_takeNext_4 : decode cX1_takeNext 4 = .ok (.iconst 0, 1) := by decide +kernel
theorem dX1_takeNext_5 : decode cX1_takeNext 5 = .ok (.iaload, 1) := by decide +kernel
theorem dX1_takeNext_6 : decode cX1_takeNext 6 = .ok (.istore_n 1, 1) := by decide +kernel
theorem dX1_takeNext_7 : decode cX1_takeNext 7 = .ok (.aload_n 0, 1) := by decide +kernel
theorem dX1_takeNext_8 : decode cX1_takeNext 8 = .ok (.getfield 15, 3) := by decide +kernel
theorem dX1_takeNext_11 : decode cX1_takeNext 11 = .ok (.ifCond .le 26, 3) := by decide +kernel
theorem dX1_takeNext_14 : decode cX1_takeNext 14 = .ok (.aload_n 0, 1) := by decide +kernel
theorem dX1_takeNext_15 : decode cX1_takeNext 15 = .ok (.dup, 1) := by decide +kernel
theorem dX1_takeNext_16 : decode cX1_takeNext 16 = .ok (.getfield 15, 3) := by decide +kernel
theorem dX1_takeNext_19 : decode cX1_takeNext 19 = .ok (.iconst 1, 1) := by decide +kernel
theorem dX1_takeNext_20 : decode cX1_takeNext 20 = .ok (.isub, 1) := by decide +kernel
theorem dX1_takeNext_21 : decode cX1_takeNext 21 = .ok (.putfield 15, 3) := by decide +kernel
theorem dX1_takeNext_24 : decode cX1_takeNext 24 = .ok (.aload_n 0, 1) := by decide +kernel
theorem dX1_takeNext_25 : decode cX1_takeNext 25 = .ok (.aload_n 0, 1) := by decide +kernel
theorem dX1_takeNext_26 : decode cX1_takeNext 26 = .ok (.getfield 11, 3) := by decide +kernel
theorem dX1_takeNext_29 : decode cX1_takeNext 29 = .ok (.aload_n 0, 1) := by decide +kernel
theorem dX1_takeNext_30 : decode cX1_takeNext 30 = .ok (.getfield 15, 3) := by decide +kernel
theorem dX1_takeNext_33 : decode cX1_takeNext 33 = .ok (.iaload, 1) := by decide +kernel
theorem dX1_takeNext_34 : decode cX1_takeNext 34 = .ok (.invokevirtual 19, 3) := by decide +kernel
theorem dX1_takeNext_37 : decode cX1_takeNext 37 = .ok (.iload_n 1, 1) := by decide +kernel
theorem dX1_takeNext_38 : decode cX1_takeNext 38 = .ok (.ireturn, 1) := by decide +kernel
theorem dX1_sink_0 : decode cX1_sink 0 = .ok (.iconst 0, 1) := by decide +kernel
theorem dX1_sink_1 : decode cX1_sink 1 = .ok (.istore_n 2, 1) := by decide +kernel
theorem dX1_sink_2 : decode cX1_sink 2 = .ok (.iconst 1, 1) := by decide +kernel
theorem dX1_sink_3 : decode cX1_sink 3 = .ok (.istore_n 3, 1) := by decide +kernel
theorem dX1_sink_4 : decode cX1_sink 4 = .ok (.iload_n 3, 1) := by decide +kernel
theorem dX1_sink_5 : decode cX1_sink 5 = .ok (.aload_n 0, 1) := by decide +kernel
theorem dX1_sink_6 : decode cX1_sink 6 = .ok (.getfield 15, 3) := by decide +kernel
theorem dX1_sink_9 : decode cX1_sink 9 = .ok (.if_icmp .ge 69, 3) := by decide +kernel
theorem dX1_sink_12 : decode cX1_sink 12 = .ok (.iload_n 3, 1) := by decide +kernel
theorem dX1_sink_13 : decode cX1_sink 13 = .ok (.iconst 1, 1) := by decide +kernel
theorem dX1_sink_14 : decode cX1_sink 14 = .ok (.iadd, 1) := by decide +kernel
theorem dX1_sink_15 : decode cX1_sink 15 = .ok (.aload_n 0, 1) := by decide +kernel
theorem dX1_sink_16 : decode cX1_sink 16 = .ok (.getfield 15, 3) := by decide +kernel
theorem dX1_sink_19 : decode cX1_sink 19 = .ok (.if_icmp .ge 23, 3) := by decide +kernel
theorem dX1_sink_22 : decode cX1_sink 22 = .ok (.aload_n 0, 1) := by decide +kernel
theorem dX1_sink_23 : decode cX1_sink 23 = .ok (.getfield 11, 3) := by decide +kernel
theorem dX1_sink_26 : decode cX1_sink 26 = .ok (.iload_n 3, 1) := by decide +kernel
theorem dX1_sink_27 : decode cX1_sink 27 = .ok (.iconst 1, 1) := by decide +kernel
theorem dX1_sink_28 : decode cX1_sink 28 = .ok (.iadd, 1) := by decide +kernel
theorem dX1_sink_29 : decode cX1_sink 29 = .ok (.iaload, 1) := by decide +kernel
theorem dX1_sink_30 : decode cX1_sink 30 = .ok (.aload_n 0, 1) := by decide +kernel
theorem dX1_sink_31 : decode cX1_sink 31 = .ok (.getfield 11, 3) := by decide +kernel
theorem dX1_sink_34 : decode cX1_sink 34 = .ok (.iload_n 3, 1) := by decide +kernel
theorem dX1_sink_35 : decode cX1_sink 35 = .ok (.iaload, 1) := by decide +kernel
theorem dX1_sink_36 : decode cX1_sink 36 = .ok (.if_icmp .ge 6, 3) := by decide +kernel
theorem dX1_sink_39 : decode cX1_sink 39 = .ok (.iinc 3 1, 3) := by decide +kernel
theorem dX1_sink_42 : decode cX1_sink 42 = .ok (.aload_n 0, 1) := by decide +kernel
theorem dX1_sink_43 : decode cX1_sink 43 = .ok (.getfield 11, 3) := by decide +kernel
theorem dX1_sink_46 : decode cX1_sink 46 = .ok (.iload_n 3, 1) := by decide +kernel
theorem dX1_sink_47 : decode cX1_sink 47 = .ok (.iaload, 1) := by decide +kernel
theorem dX1_sink_48 : decode cX1_sink 48 = .ok (.iload_n 1, 1) := by decide +kernel
theorem dX1_sink_49 : decode cX1_sink 49 = .ok (.if_icmp .le 6, 3) := by decide +kernel
theorem dX1_sink_52 : decode cX1_sink 52 = .ok (.goto 26, 3) := by decide +kernel
theorem dX1_sink_55 : decode cX1_sink 55 = .ok (.aload_n 0, 1) := by decide +kernel
theorem dX1_sink_56 : decode cX1_sink 56 = .ok (.getfield 11, 3) := by decide +kernel
theorem dX1_sink_59 : decode cX1_sink 59 = .ok (.iload_n 2, 1) := by decide +kernel
theorem dX1_sink_60 : decode cX1_sink 60 = .ok (.aload_n 0, 1) := by decide +kernel
theorem dX1_sink_61 : decode cX1_sink 61 = .ok (.getfield 11, 3) := by decide +kernel
theorem dX1_sink_64 : decode cX1_sink 64 = .ok (.iload_n 3, 1) := by decide +kernel
theorem dX1_sink_65 : decode cX1_sink 65 = .ok (.iaload, 1) := by decide +kernel
theorem dX1_sink_66 : decode cX1_sink 66 = .ok (.iastore, 1) := by decide +kernel
theorem dX1_sink_67 : decode cX1_sink 67 = .ok (.iload_n 3, 1) := by decide +kernel
theorem dX1_sink_68 : decode cX1_sink 68 = .ok (.istore_n 2, 1) := by decide +kernel
theorem dX1_sink_69 : decode cX1_sink 69 = .ok (.iconst 2, 1) := by decide +kernel
theorem dX1_sink_70 : decode cX1_sink 70 = .ok (.iload_n 2, 1) := by decide +kernel
theorem dX1_sink_71 : decode cX1_sink 71 = .ok (.imul, 1) := by decide +kernel
theorem dX1_sink_72 : decode cX1_sink 72 = .ok (.iconst 1, 1) := by decide +kernel
theorem dX1_sink_73 : decode cX1_sink 73 = .ok (.iadd, 1) := by decide +kernel
theorem dX1_sink_74 : decode cX1_sink 74 = .ok (.istore_n 3, 1) := by decide +kernel
theorem dX1_sink_75 : decode cX1_sink 75 = .ok (.goto (-71), 3) := by decide +kernel
theorem dX1_sink_78 : decode cX1_sink 78 = .ok (.aload_n 0, 1) := by decide +kernel
theorem dX1_sink_79 : decode cX1_sink 79 = .ok (.getfield 11, 3) := by decide +kernel
theorem dX1_sink_82 : decode cX1_sink 82 = .ok (.iload_n 2, 1) := by decide +kernel
theorem dX1_sink_83 : decode cX1_sink 83 = .ok (.iload_n 1, 1) := by decide +kernel
theorem dX1_sink_84 : decode cX1_sink 84 = .ok (.iastore, 1) := by decide +kernel
theorem dX1_sink_85 : decode cX1_sink 85 = .ok (.return_, 1) := by decide +kernel
theorem dX2_init_0 : decode cX2_init 0 = .ok (.aload_n 0, 1) := by decide +kernel
theorem dX2_init_1 : decode cX2_init 1 = .ok (.invokespecial 3, 3) := by decide +kernel
theorem dX2_init_4 : decode cX2_init 4 = .ok (.aload_n 0, 1) := by decide +kernel
theorem dX2_init_5 : decode cX2_init 5 = .ok (.sipush 300, 3) := by decide +kernel
theorem dX2_init_8 : decode cX2_init 8 = .ok (.newarray .int, 2) := by decide +kernel
theorem dX2_init_10 : decode cX2_init 10 = .ok (.putfield 9, 3) := by decide +kernel
theorem dX2_init_13 : decode cX2_init 13 = .ok (.aload_n 0, 1) := by decide +kernel
theorem dX2_init_14 : decode cX2_init 14 = .ok (.bipush 6, 2) := by decide +kernel
theorem dX2_init_16 : decode cX2_init 16 = .ok (.newarray .int, 2) := by decide +kernel
theorem dX2_init_18 : decode cX2_init 18 = .ok (.putfield 15, 3) := by decide +kernel
theorem dX2_init_21 : decode cX2_init 21 = .ok (.aload_n 0, 1) := by decide +kernel
theorem dX2_init_22 : decode cX2_init 22 = .ok (.iconst 0, 1) := by decide +kernel
theorem dX2_init_23 : decode cX2_init 23 = .ok (.putfield 18, 3) := by decide +kernel
theorem dX2_init_26 : decode cX2_init 26 = .ok (.aload_n 0, 1) := by decide +kernel
theorem dX2_init_27 : decode cX2_init 27 = .ok (.iconst 5, 1) := by decide +kernel
theorem dX2_init_28 : decode cX2_init 28 = .ok (.putfield 22, 3) := by decide +kernel
theorem dX2_init_31 : decode cX2_init 31 = .ok (.aload_n 0, 1) := by decide +kernel
theorem dX2_init_32 : decode cX2_init 32 = .ok (.iconst 0, 1) := by decide +kernel
theorem dX2_init_33 : decode cX2_init 33 = .ok (.putfield 25, 3) := by decide +kernel
theorem dX2_init_36 : decode cX2_init 36 = .ok (.aload_n 0, 1) := by decide +kernel
theorem dX2_init_37 : decode cX2_init 37 = .ok (.iconst 0, 1) := by decide +kernel
theorem dX2_init_38 : decode cX2_init 38 = .ok (.putfield 28, 3) := by decide +kernel
theorem dX2_init_41 : decode cX2_init 41 = .ok (.aload_n 0, 1) := by decide +kernel
theorem dX2_init_42 : decode cX2_init 42 = .ok (.iconst 0, 1) := by decide +kernel
theorem dX2_init_43 : decode cX2_init 43 = .ok (.putfield 31, 3) := by decide +kernel
theorem dX2_init_46 : decode cX2_init 46 = .ok (.aload_n 0, 1) := by decide +kernel
theorem dX2_init_47 : decode cX2_init 47 = .ok (.iconst (-1), 1) := by decide +kernel
theorem dX2_init_48 : decode cX2_init 48 = .ok (.putfield 34, 3) := by decide +kernel
theorem dX2_init_51 : decode cX2_init 51 = .ok (.return_, 1) := by decide +kernel
set_option maxRecDepth 20000 in
theorem ggX2_begin_J7_fill_53178 : GoodIn wsX2_begin wsJ7_fill_53178 := goodIn_r _ [11] (by decide +kernel) (by decide +kernel)
set_option maxRecDepth 20000 in
theorem gX2_begin_J7_fill_53178 : GoodIn wsX2_begin (va_wsS RX2 37 yJ7_fill_53178 wsJ7_fill_53178) := goodIn_app (goodIn_of _ (by decide +kernel)) ggX2_begin_J7_fill_53178
theorem dX2_begin_0 : decode cX2_begin 0 = .ok (.aload_n 0, 1) := by decide +kernel
theorem dX2_begin_1 : decode cX2_begin 1 = .ok (.iload_n 1, 1) := by decide +kernel
theorem dX2_begin_2 : decode cX2_begin 2 = .ok (.putfield 18, 3) := by decide +kernel
theorem dX2_begin_5 : decode cX2_begin 5 = .ok (.aload_n 0, 1) := by decide +kernel
theorem dX2_begin_6 : decode cX2_begin 6 = .ok (.iload_n 2, 1) := by decide +kernel
theorem dX2_begin_7 : decode cX2_begin 7 = .ok (.putfield 22, 3) := by decide +kernel
theorem dX2_begin_10 : decode cX2_begin 10 = .ok (.aload_n 0, 1) := by decide +kernel
theorem dX2_begin_11 : decode cX2_begin 11 = .ok (.iconst 0, 1) := by decide +kernel
theorem dX2_begin_12 : decode cX2_begin 12 = .ok (.putfield 25, 3) := by decide +kernel
theorem dX2_begin_15 : decode cX2_begin 15 = .ok (.aload_n 0, 1) := by decide +kernel
theorem dX2_begin_16 : decode cX2_begin 16 = .ok (.iconst 0, 1) := by decide +kernel
theorem dX2_begin_17 : decode cX2_begin 17 = .ok (.putfield 28, 3) := by decide +kernel
theorem dX2_begin_20 : decode cX2_begin 20 = .ok (.aload_n 0, 1) := by decide +kernel
theorem dX2_begin_21 : decode cX2_begin 21 = .ok (.iconst 0, 1) := by decide +kernel
theorem dX2_begin_22 : decode cX2_begin 22 = .ok (.putfield 31, 3) := by decide +kernel
theorem dX2_begin_25 : decode cX2_begin 25 = .ok (.aload_n 0, 1) := by decide +kernel
theorem dX2_begin_26 : decode cX2_begin 26 = .ok (.iconst (-1), 1) := by decide +kernel
theorem dX2_begin_27 : decode cX2_begin 27 = .ok (.putfield 34, 3) := by decide +kernel
theorem dX2_begin_30 : decode cX2_begin 30 = .ok (.aload_n 0, 1) := by decide +kernel
theorem dX2_begin_31 : decode cX2_begin 31 = .ok (.getfield 15, 3) := by decide +kernel
theorem dX2_begin_34 : decode cX2_begin 34 = .ok (.iconst (-1), 1) := by decide +kernel
theorem dX2_begin_35 : decode cX2_begin 35 = .ok (.invokestatic 37, 3) := by decide +kernel
theorem dX2_begin_38 : decode cX2_begin 38 = .ok (.return_, 1) := by decide +kernel
set_option maxRecDepth 20000 in
theorem ggX2_hear_X2_letCount : GoodIn wsX2_hear wsX2_letCount := goodIn_r _ [8, 9, 10, 11, 12, 13, 14, 15, 16, 17, 18, 19, 20, 21, 22, 23] (by decide +kernel) (by decide +kernel)
set_option maxRecDepth 20000 in
theorem gX2_hear_X2_letCount : GoodIn wsX2_hear (wsV RX2 43 RX2 yX2_letCount wsX2_letCount) := goodIn_app (goodIn_of _ (by decide +kernel)) ggX2_hear_X2_letCount
theorem dX2_hear_0 : decode cX2_hear 0 = .ok (.aload_n 0, 1) := by decide +kernel
theorem dX2_hear_1 : decode cX2_hear 1 = .ok (.getfield 25, 3) := by decide +kernel
theorem dX2_hear_4 : decode cX2_hear 4 = .ok (.bipush 60, 2) := by decide +kernel
theorem dX2_hear_6 : decode cX2_hear 6 = .ok (.if_icmp .lt 4, 3) := by decide +kernel
theorem dX2_hear_9 : decode cX2_hear 9 = .ok (.return_, 1) := by decide +kernel
theorem dX2_hear_10 : decode cX2_hear 10 = .ok (.aload_n 0, 1) := by decide +kernel
theorem dX2_hear_11 : decode cX2_hear 11 = .ok (.getfield 25, 3) := by decide +kernel
theorem dX2_hear_14 : decode cX2_hear 14 = .ok (.iconst 5, 1) := by decide +kernel
theorem dX2_hear_15 : decode cX2_hear 15 = .ok (.imul, 1) := by decide +kernel
theorem dX2_hear_16 : decode cX2_hear 16 = .ok (.istore 5, 2) := by decide +kernel
theorem dX2_hear_18 : decode cX2_hear 18 = .ok (.aload_n 0, 1) := by decide +kernel
theorem dX2_hear_19 : decode cX2_hear 19 = .ok (.getfield 9, 3) := by decide +kernel
theorem dX2_hear_22 : decode cX2_hear 22 = .ok (.iload 5, 2) := by decide +kernel
theorem dX2_hear_24 : decode cX2_hear 24 = .ok (.iload_n 1, 1) := by decide +kernel
theorem dX2_hear_25 : decode cX2_hear 25 = .ok (.iastore, 1) := by decide +kernel
theorem dX2_hear_26 : decode cX2_hear 26 = .ok (.aload_n 0, 1) := by decide +kernel
theorem dX2_hear_27 : decode cX2_hear 27 = .ok (.getfield 9, 3) := by decide +kernel
theorem dX2_hear_30 : decode cX2_hear 30 = .ok (.iload 5, 2) := by decide +kernel
theorem dX2_hear_32 : decode cX2_hear 32 = .ok (.iconst 1, 1) := by decide +kernel
theorem dX2_hear_33 : decode cX2_hear 33 = .ok (.iadd, 1) := by decide +kernel
theorem dX2_hear_34 : decode cX2_hear 34 = .ok (.iload_n 2, 1) := by decide +kernel
theorem dX2_hear_35 : decode cX2_hear 35 = .ok (.iastore, 1) := by decide +kernel
theorem dX2_hear_36 : decode cX2_hear 36 = .ok (.aload_n 0, 1) := by decide +kernel
theorem dX2_hear_37 : decode cX2_hear 37 = .ok (.getfield 9, 3) := by decide +kernel
theorem dX2_hear_40 : decode cX2_hear 40 = .ok (.iload 5, 2) := by decide +kernel
theorem dX2_hear_42 : decode cX2_hear 42 = .ok (.iconst 2, 1) := by decide +kernel
theorem dX2_hear_43 : decode cX2_hear 43 = .ok (.iadd, 1) := by decide +kernel
theorem dX2_hear_44 : decode cX2_hear 44 = .ok (.iload_n 3, 1) := by decide +kernel
theorem dX2_hear_45 : decode cX2_hear 45 = .ok (.iastore, 1) := by decide +kernel
theorem dX2_hear_46 : decode cX2_hear 46 = .ok (.aload_n 0, 1) := by decide +kernel
theorem dX2_hear_47 : decode cX2_hear 47 = .ok (.getfield 9, 3) := by decide +kernel
theorem dX2_hear_50 : decode cX2_hear 50 = .ok (.iload 5, 2) := by decide +kernel
theorem dX2_hear_52 : decode cX2_hear 52 = .ok (.iconst 3, 1) := by decide +kernel
theorem dX2_hear_53 : decode cX2_hear 53 = .ok (.iadd, 1) := by decide +kernel
theorem dX2_hear_54 : decode cX2_hear 54 = .ok (.iload 4, 2) := by decide +kernel
theorem dX2_hear_56 : decode cX2_hear 56 = .ok (.iastore, 1) := by decide +kernel
theorem dX2_hear_57 : decode cX2_hear 57 = .ok (.aload_n 0, 1) := by decide +kernel
theorem dX2_hear_58 : decode cX2_hear 58 = .ok (.getfield 9, 3) := by decide +kernel
theorem dX2_hear_61 : decode cX2_hear 61 = .ok (.iload 5, 2) := by decide +kernel
theorem dX2_hear_63 : decode cX2_hear 63 = .ok (.iconst 4, 1) := by decide +kernel
theorem dX2_hear_64 : decode cX2_hear 64 = .ok (.iadd, 1) := by decide +kernel
theorem dX2_hear_65 : decode cX2_hear 65 = .ok (.iload 4, 2) := by decide +kernel
theorem dX2_hear_67 : decode cX2_hear 67 = .ok (.aload_n 0, 1) := by decide +kernel
theorem dX2_hear_68 : decode cX2_hear 68 = .ok (.getfield 22, 3) := by decide +kernel
theorem dX2_hear_71 : decode cX2_hear 71 = .ok (.if_icmp .lt 7, 3) := by decide +kernel
theorem dX2_hear_74 : decode cX2_hear 74 = .ok (.iconst 1, 1) := by decide +kernel
theorem dX2_hear_75 : decode cX2_hear 75 = .ok (.goto 4, 3) := by decide +kernel
theorem dX2_hear_78 : decode cX2_hear 78 = .ok (.iconst 0, 1) := by decide +kernel
theorem dX2_hear_79 : decode cX2_hear 79 = .ok (.iastore, 1) := by decide +kernel
theorem dX2_hear_80 : decode cX2_hear 80 = .ok (.aload_n 0, 1) := by decide +kernel
theorem dX2_hear_81 : decode cX2_hear 81 = .ok (.dup, 1) := by decide +kernel
theorem dX2_hear_82 : decode cX2_hear 82 = .ok (.getfield 25, 3) := by decide +kernel
theorem dX2_hear_85 : decode cX2_hear 85 = .ok (.iconst 1, 1) := by decide +kernel
theorem dX2_hear_86 : decode cX2_hear 86 = .ok (.iadd, 1) := by decide +kernel
theorem dX2_hear_87 : decode cX2_hear 87 = .ok (.putfield 25, 3) := by decide +kernel
theorem dX2_hear_90 : decode cX2_hear 90 = .ok (.iload 4, 2) := by decide +kernel
theorem dX2_hear_92 : decode cX2_hear 92 = .ok (.aload_n 0, 1) := by decide +kernel
theorem dX2_hear_93 : decode cX2_hear 93 = .ok (.getfield 22, 3) := by decide +kernel
theorem dX2_hear_96 : decode cX2_hear 96 = .ok (.if_icmp .lt 9, 3) := by decide +kernel
theorem dX2_hear_99 : decode cX2_hear 99 = .ok (.aload_n 0, 1) := by decide +kernel
theorem dX2_hear_100 : decode cX2_hear 100 = .ok (.iload_n 1, 1) := by decide +kernel
theorem dX2_hear_101 : decode cX2_hear 101 = .ok (.iload_n 2, 1) := by decide +kernel
theorem dX2_hear_102 : decode cX2_hear 102 = .ok (.invokevirtual 43, 3) := by decide +kernel
theorem dX2_hear_105 : decode cX2_hear 105 = .ok (.return_, 1) := by decide +kernel
set_option maxRecDepth 20000 in
theorem ggX2_letCount_X4_isWithin : GoodIn wsX2_letCount wsX4_isWithin := goodIn_r _ [7] (by decide +kernel) (by decide +kernel)
set_option maxRecDepth 20000 in
theorem gX2_letCount_X4_isWithin_n47 : GoodIn wsX2_letCount (wsX4_isWithin) := ggX2_letCount_X4_isWithin
theorem dX2_letCount_0 : decode cX2_letCount 0 = .ok (.aload_n 0, 1) := by decide +kernel
theorem dX2_letCount_1 : decode cX2_letCount 1 = .ok (.dup, 1) := by decide +kernel
theorem dX2_letCount_2 : decode cX2_letCount 2 = .ok (.getfield 28, 3) := by decide +kernel
theorem dX2_letCount_5 : decode cX2_letCount 5 = .ok (.iconst 1, 1) := by decide +kernel
theorem dX2_letCount_6 : decode cX2_letCount 6 = .ok (.iadd, 1) := by decide +kernel
theorem dX2_letCount_7 : decode cX2_letCount 7 = .ok (.putfield 28, 3) := by decide +kernel
theorem dX2_letCount_10 : decode cX2_letCount 10 = .ok (.aload_n 0, 1) := by decide +kernel
theorem dX2_letCount_11 : decode cX2_letCount 11 = .ok (.iload_n 1, 1) := by decide +kernel
theorem dX2_letCount_12 : decode cX2_letCount 12 = .ok (.putfield 34, 3) := by decide +kernel
theorem dX2_letCount_15 : decode cX2_letCount 15 = .ok (.iload_n 2, 1) := by decide +kernel
theorem dX2_letCount_16 : decode cX2_letCount 16 = .ok (.iconst 0, 1) := by decide +kernel
theorem dX2_letCount_17 : decode cX2_letCount 17 = .ok (.iconst 5, 1) := by decide +kernel
theorem dX2_letCount_18 : decode cX2_letCount 18 = .ok (.invokestatic 47, 3) := by decide +kernel
theorem dX2_letCount_21 : decode cX2_letCount 21 = .ok (.ifCond .eq 19, 3) := by decide +kernel
theorem dX2_letCount_24 : decode cX2_letCount 24 = .ok (.aload_n 0, 1) := by decide +kernel
theorem dX2_letCount_25 : decode cX2_letCount 25 = .ok (.getfield 15, 3) := by decide +kernel
theorem dX2_letCount_28 : decode cX2_letCount 28 = .ok (.iload_n 2, 1) := by decide +kernel
theorem dX2_letCount_29 : decode cX2_letCount 29 = .ok (.iaload, 1) := by decide +kernel
theorem dX2_letCount_30 : decode cX2_letCount 30 = .ok (.ifCond .ge 10, 3) := by decide +kernel
theorem dX2_letCount_33 : decode cX2_letCount 33 = .ok (.aload_n 0, 1) := by decide +kernel
theorem dX2_letCount_34 : decode cX2_letCount 34 = .ok (.getfield 15, 3) := by decide +kernel
theorem dX2_letCount_37 : decode cX2_letCount 37 = .ok (.iload_n 2, 1) := by decide +kernel
theorem dX2_letCount_38 : decode cX2_letCount 38 = .ok (.iload_n 1, 1) := by decide +kernel
theorem dX2_letCount_39 : decode cX2_letCount 39 = .ok (.iastore, 1) := by decide +kernel
theorem dX2_letCount_40 : decode cX2_letCount 40 = .ok (.iload_n 2, 1) := by decide +kernel
theorem dX2_letCount_41 : decode cX2_letCount 41 = .ok (.aload_n 0, 1) := by decide +kernel
theorem dX2_letCount_42 : decode cX2_letCount 42 = .ok (.getfield 31, 3) := by decide +kernel
theorem dX2_letCount_45 : decode cX2_letCount 45 = .ok (.if_icmp .ne 13, 3) := by decide +kernel
theorem dX2_letCount_48 : decode cX2_letCount 48 = .ok (.aload_n 0, 1) := by decide +kernel
theorem dX2_letCount_49 : decode cX2_letCount 49 = .ok (.dup, 1) := by decide +kernel
theorem dX2_letCount_50 : decode cX2_letCount 50 = .ok (.getfield 31, 3) := by decide +kernel
theorem dX2_letCount_53 : decode cX2_letCount 53 = .ok (.iconst 1, 1) := by decide +kernel
theorem dX2_letCount_54 : decode cX2_letCount 54 = .ok (.iadd, 1) := by decide +kernel
theorem dX2_letCount_55 : decode cX2_letCount 55 = .ok (.putfield 31, 3) := by decide +kernel
theorem dX2_letCount_58 : decode cX2_letCount 58 = .ok (.return_, 1) := by decide +kernel
theorem dX2_cameInOrder_0 : decode cX2_cameInOrder 0 = .ok (.aload_n 0, 1) := by decide +kernel
theorem dX2_cameInOrder_1 : decode cX2_cameInOrder 1 = .ok (.getfield 18, 3) := by decide +kernel
theorem dX2_cameInOrder_4 : decode cX2_cameInOrder 4 = .ok (.ifCond .le 18, 3) := by decide +kernel
theorem dX2_cameInOrder_7 : decode cX2_cameInOrder 7 = .ok (.aload_n 0, 1) := by decide +kernel
theorem dX2_cameInOrder_8 : decode cX2_cameInOrder 8 = .ok (.getfield 31, 3) := by decide +kernel
theorem dX2_cameInOrder_11 : decode cX2_cameInOrder 11 = .ok (.aload_n 0, 1) := by decide +kernel
theorem dX2_cameInOrder_12 : decode cX2_cameInOrder 12 = .ok (.getfield 18, 3) := by decide +kernel
theorem dX2_cameInOrder_15 : decode cX2_cameInOrder 15 = .ok (.if_icmp .ne 7, 3) := by decide +kernel
theorem dX2_cameInOrder_18 : decode cX2_cameInOrder 18 = .ok (.iconst 1, 1) := by decide +kernel
theorem dX2_cameInOrder_19 : decode cX2_cameInOrder 19 = .ok (.goto 4, 3) := by decide +kernel
theorem dX2_cameInOrder_22 : decode cX2_cameInOrder 22 = .ok (.iconst 0, 1) := by decide +kernel
theorem dX2_cameInOrder_23 : decode cX2_cameInOrder 23 = .ok (.ireturn, 1) := by decide +kernel
theorem dX2_heardFact_0 : decode cX2_heardFact 0 = .ok (.aload_n 0, 1) := by decide +kernel
theorem dX2_heardFact_1 : decode cX2_heardFact 1 = .ok (.getfield 9, 3) := by decide +kernel
theorem dX2_heardFact_4 : decode cX2_heardFact 4 = .ok (.iload_n 1, 1) := by decide +kernel
theorem dX2_heardFact_5 : decode cX2_heardFact 5 = .ok (.iconst 5, 1) := by decide +kernel
theorem dX2_heardFact_6 : decode cX2_heardFact 6 = .ok (.imul, 1) := by decide +kernel
theorem dX2_heardFact_7 : decode cX2_heardFact 7 = .ok (.iload_n 2, 1) := by decide +kernel
theorem dX2_heardFact_8 : decode cX2_heardFact 8 = .ok (.iadd, 1) := by decide +kernel
theorem dX2_heardFact_9 : decode cX2_heardFact 9 = .ok (.iaload, 1) := by decide +kernel
theorem dX2_heardFact_10 : decode cX2_heardFact 10 = .ok (.ireturn, 1) := by decide +kernel
set_option maxRecDepth 20000 in
theorem ggX2_meanStrength_X2_heardFact : GoodIn wsX2_meanStrength wsX2_heardFact := goodIn_r _ [6, 7, 8, 9, 10, 11, 12, 13, 14, 15] (by decide +kernel) (by decide +kernel)
set_option maxRecDepth 20000 in
theorem gX2_meanStrength_X2_heardFact : GoodIn wsX2_meanStrength (wsV RX2 51 RX2 yX2_heardFact wsX2_heardFact) := goodIn_app (goodIn_of _ (by decide +kernel)) ggX2_meanStrength_X2_heardFact
theorem dX2_meanStrength_0 : decode cX2_meanStrength 0 = .ok (.aload_n 0, 1) := by decide +kernel
theorem dX2_meanStrength_1 : decode cX2_meanStrength 1 = .ok (.getfield 25, 3) := by decide +kernel
theorem dX2_meanStrength_4 : decode cX2_meanStrength 4 = .ok (.ifCond .ne 5, 3) := by decide +kernel
theorem dX2_meanStrength_7 : decode cX2_meanStrength 7 = .ok (.dconst 0, 1) := by decide +kernel
theorem dX2_meanStrength_8 : decode cX2_meanStrength 8 = .ok (.dreturn, 1) := by decide +kernel
theorem dX2_meanStrength_9 : decode cX2_meanStrength 9 = .ok (.iconst 0, 1) := by decide +kernel
theorem dX2_meanStrength_10 : decode cX2_meanStrength 10 = .ok (.istore_n 1, 1) := by decide +kernel
theorem dX2_meanStrength_11 : decode cX2_meanStrength 11 = .ok (.iconst 0, 1) := by decide +kernel
theorem dX2_meanStrength_12 : decode cX2_meanStrength 12 = .ok (.istore_n 2, 1) := by decide +kernel
theorem dX2_meanStrength_13 : decode cX2_meanStrength 13 = .ok (.iload_n 2, 1) := by decide +kernel
theorem dX2_meanStrength_14 : decode cX2_meanStrength 14 = .ok (.aload_n 0, 1) := by decide +kernel
theorem dX2_meanStrength_15 : decode cX2_meanStrength 15 = .ok (.getfield 25, 3) := by decide +kernel
theorem dX2_meanStrength_18 : decode cX2_meanStrength 18 = .ok (.if_icmp .ge 18, 3) := by decide +kernel
theorem dX2_meanStrength_21 : decode cX2_meanStrength 21 = .ok (.iload_n 1, 1) := by decide +kernel
theorem dX2_meanStrength_22 : decode cX2_meanStrength 22 = .ok (.aload_n 0, 1) := by decide +kernel
theorem dX2_meanStrength_23 : decode cX2_meanStrength 23 = .ok (.iload_n 2, 1) := by decide +kernel
theorem dX2_meanStrength_24 : decode cX2_meanStrength 24 = .ok (.iconst 3, 1) := by decide +kernel
theorem dX2_meanStrength_25 : decode cX2_meanStrength 25 = .ok (.invokevirtual 51, 3) := by decide +kernel
theorem dX2_meanStrength_28 : decode cX2_meanStrength 28 = .ok (.iadd, 1) := by decide +kernel
theorem dX2_meanStrength_29 : decode cX2_meanStrength 29 = .ok (.istore_n 1, 1) := by decide +kernel
theorem dX2_meanStrength_30 : decode cX2_meanStrength 30 = .ok (.iinc 2 1, 3) := by decide +kernel
theorem dX2_meanStrength_33 : decode cX2_meanStrength 33 = .ok (.goto (-20), 3) := by decide +kernel
theorem dX2_meanStrength_36 : decode cX2_meanStrength 36 = .ok (.iload_n 1, 1) := by decide +kernel
theorem dX2_meanStrength_37 : decode cX2_meanStrength 37 = .ok (.i2d, 1) := by decide +kernel
theorem dX2_meanStrength_38 : decode cX2_meanStrength 38 = .ok (.aload_n 0, 1) := by decide +kernel
theorem dX2_meanStrength_39 : decode cX2_meanStrength 39 = .ok (.getfield 25, 3) := by decide +kernel
theorem dX2_meanStrength_42 : decode cX2_meanStrength 42 = .ok (.i2d, 1) := by decide +kernel
theorem dX2_meanStrength_43 : decode cX2_meanStrength 43 = .ok (.ddiv, 1) := by decide +kernel
theorem dX2_meanStrength_44 : decode cX2_meanStrength 44 = .ok (.dreturn, 1) := by decide +kernel
set_option maxRecDepth 20000 in
theorem ggX3_init_X1_init : GoodIn wsX3_init wsX1_init := goodIn_r _ [18, 19, 2, 3, 9, 20, 21, 29, 30] (by decide +kernel) (by decide +kernel)
set_option maxRecDepth 20000 in
theorem gX3_init_X1_init : GoodIn wsX3_init (wsX1_init) := ggX3_init_X1_init
theorem dX3_init_0 : decode cX3_init 0 = .ok (.aload_n 0, 1) := by decide +kernel
theorem dX3_init_1 : decode cX3_init 1 = .ok (.invokespecial 3, 3) := by decide +kernel
theorem dX3_init_4 : decode cX3_init 4 = .ok (.aload_n 0, 1) := by decide +kernel
theorem dX3_init_5 : decode cX3_init 5 = .ok (.aload_n 1, 1) := by decide +kernel
theorem dX3_init_6 : decode cX3_init 6 = .ok (.putfield 9, 3) := by decide +kernel
theorem dX3_init_9 : decode cX3_init 9 = .ok (.aload_n 0, 1) := by decide +kernel
theorem dX3_init_10 : decode cX3_init 10 = .ok (.new 15, 3) := by decide +kernel
theorem dX3_init_13 : decode cX3_init 13 = .ok (.dup, 1) := by decide +kernel
theorem dX3_init_14 : decode cX3_init 14 = .ok (.invokespecial 17, 3) := by decide +kernel
theorem dX3_init_17 : decode cX3_init 17 = .ok (.putfield 18, 3) := by decide +kernel
theorem dX3_init_20 : decode cX3_init 20 = .ok (.aload_n 0, 1) := by decide +kernel
theorem dX3_init_21 : decode cX3_init 21 = .ok (.bipush 17, 2) := by decide +kernel
theorem dX3_init_23 : decode cX3_init 23 = .ok (.newarray .int, 2) := by decide +kernel
theorem dX3_init_25 : decode cX3_init 25 = .ok (.putfield 22, 3) := by decide +kernel
theorem dX3_init_28 : decode cX3_init 28 = .ok (.aload_n 0, 1) := by decide +kernel
theorem dX3_init_29 : decode cX3_init 29 = .ok (.bipush 17, 2) := by decide +kernel
theorem dX3_init_31 : decode cX3_init 31 = .ok (.newarray .int, 2) := by decide +kernel
theorem dX3_init_33 : decode cX3_init 33 = .ok (.putfield 26, 3) := by decide +kernel
theorem dX3_init_36 : decode cX3_init 36 = .ok (.aload_n 0, 1) := by decide +kernel
theorem dX3_init_37 : decode cX3_init 37 = .ok (.bipush 17, 2) := by decide +kernel
theorem dX3_init_39 : decode cX3_init 39 = .ok (.newarray .long, 2) := by decide +kernel
theorem dX3_init_41 : decode cX3_init 41 = .ok (.putfield 29, 3) := by decide +kernel
theorem dX3_init_44 : decode cX3_init 44 = .ok (.aload_n 0, 1) := by decide +kernel
theorem dX3_init_45 : decode cX3_init 45 = .ok (.iconst 0, 1) := by decide +kernel
theorem dX3_init_46 : decode cX3_init 46 = .ok (.putfield 33, 3) := by decide +kernel
theorem dX3_init_49 : decode cX3_init 49 = .ok (.aload_n 0, 1) := by decide +kernel
theorem dX3_init_50 : decode cX3_init 50 = .ok (.iconst 0, 1) := by decide +kernel
theorem dX3_init_51 : decode cX3_init 51 = .ok (.putfield 37, 3) := by decide +kernel
theorem dX3_init_54 : decode cX3_init 54 = .ok (.return_, 1) := by decide +kernel
set_option maxRecDepth 20000 in
theorem ggX3_runThrough_X4_placesOf : GoodIn wsX3_runThrough wsX4_placesOf := goodIn_r _ [4] (by decide +kernel) (by decide +kernel)
set_option maxRecDepth 20000 in
theorem gX3_runThrough_X4_placesOf_n40 : GoodIn wsX3_runThrough (wsX4_placesOf) := ggX3_runThrough_X4_placesOf
set_option maxRecDepth 20000 in
theorem ggX3_runThrough_X2_begin : GoodIn wsX3_runThrough wsX2_begin := goodIn_r _ [9, 10, 11, 12, 13, 14, 15, 16, 17, 18, 19, 20, 144, 145, 146, 147, 148, 149, 150, 151] (by decide +kernel) (by decide +kernel)
set_option maxRecDepth 20000 in
theorem gX3_runThrough_X2_begin : GoodIn wsX3_runThrough (wsV RX3 44 RX2 yX2_begin wsX2_begin) := goodIn_app (goodIn_of _ (by decide +kernel)) ggX3_runThrough_X2_begin
set_option maxRecDepth 20000 in
theorem ggX3_runThrough_X3_begin : GoodIn wsX3_runThrough wsX3_begin := goodIn_r _ [25, 1, 26, 27, 28, 29, 30, 31, 32, 33, 34, 35, 36, 24, 37, 38, 39, 40, 41, 42, 43, 44, 45, 46, 47, 48, 137, 138, 139, 140, 141, 142, 143, 152, 153] (by decide +kernel) (by decide +kernel)
set_option maxRecDepth 20000 in
theorem gX3_runThrough_X3_begin : GoodIn wsX3_runThrough (wsV RX3 50 RX3 yX3_begin wsX3_begin) := goodIn_app (goodIn_of _ (by decide +kernel)) ggX3_runThrough_X3_begin
set_option maxRecDepth 20000 in
theorem ggX3_runThrough_X1_isEmpty : GoodIn wsX3_runThrough wsX1_isEmpty := goodIn_r _ [52, 33, 152, 153] (by decide +kernel) (by decide +kernel)
set_option maxRecDepth 20000 in
theorem gX3_runThrough_X1_isEmpty : GoodIn wsX3_runThrough (wsV RX3 53 RX1 yX1_isEmpty wsX1_isEmpty) := goodIn_app (goodIn_of _ (by decide +kernel)) ggX3_runThrough_X1_isEmpty
set_option maxRecDepth 20000 in
theorem ggX3_runThrough_X1_takeNext : GoodIn wsX3_runThrough wsX1_takeNext := goodIn_r _ [56, 48, 33, 57, 58, 59, 31, 60, 152, 153] (by decide +kernel) (by decide +kernel)
set_option maxRecDepth 20000 in
theorem gX3_runThrough_X1_takeNext : GoodIn wsX3_runThrough (wsV RX3 57 RX1 yX1_takeNext wsX1_takeNext) := goodIn_app (goodIn_of _ (by decide +kernel)) ggX3_runThrough_X1_takeNext
set_option maxRecDepth 20000 in
theorem ggX3_runThrough_X3_come : GoodIn wsX3_runThrough wsX3_come := goodIn_r _ [64, 26, 65, 39, 38, 66, 67, 31, 68, 69, 70, 71, 72, 73, 74, 75, 76, 77, 78, 79, 80, 81, 82, 83, 84, 85, 86, 87, 3, 88, 89, 90, 91, 8, 92, 12, 93, 11, 94, 95, 96, 97, 13, 15, 16, 14, 98, 99, 100, 101, 102, 103, 104, 105, 24, 106, 27, 34, 35, 36, 37, 40, 1, 41, 42, 43, 44, 45, 46, 47, 33, 48, 107, 108, 109, 110, 111, 112, 113, 114, 115, 116, 117, 118, 119, 120, 121, 122, 123, 124, 125, 126, 127, 128, 129, 130, 131, 132, 133, 134, 135, 136, 137, 138, 139, 140, 141, 142, 143, 154, 155, 156, 157, 158, 159, 160, 161, 162, 163, 164, 165, 166, 167, 168, 144, 145, 146, 147, 148, 149, 150, 151, 152, 153] (by decide +kernel) (by decide +kernel)
set_option maxRecDepth 20000 in
theorem gX3_runThrough_X3_come : GoodIn wsX3_runThrough (wsV RX3 61 RX3 yX3_come wsX3_come) := goodIn_app (goodIn_of _ (by decide +kernel)) ggX3_runThrough_X3_come
theorem dX3_runThrough_0 : decode cX3_runThrough 0 = .ok (.iload_n 1, 1) := by decide +kernel
theorem dX3_runThrough_1 : decode cX3_runThrough 1 = .ok (.invokestatic 40, 3) := by decide +kernel
theorem dX3_runThrough_4 : decode cX3_runThrough 4 = .ok (.istore 5, 2) := by decide +kernel
theorem dX3_runThrough_6 : decode cX3_runThrough 6 = .ok (.aload 4, 2) := by decide +kernel
theorem dX3_runThrough_8 : decode cX3_runThrough 8 = .ok (.iload 5, 2) := by decide +kernel
theorem dX3_runThrough_10 : decode cX3_runThrough 10 = .ok (.iload_n 3, 1) := by decide +kernel
theorem dX3_runThrough_11 : decode cX3_runThrough 11 = .ok (.invokevirtual 44, 3) := by decide +kernel
theorem dX3_runThrough_14 : decode cX3_runThrough 14 = .ok (.aload_n 0, 1) := by decide +kernel
theorem dX3_runThrough_15 : decode cX3_runThrough 15 = .ok (.iload_n 1, 1) := by decide +kernel
theorem dX3_runThrough_16 : decode cX3_runThrough 16 = .ok (.iload 5, 2) := by decide +kernel
theorem dX3_runThrough_18 : decode cX3_runThrough 18 = .ok (.iload_n 2, 1) := by decide +kernel
theorem dX3_runThrough_19 : decode cX3_runThrough 19 = .ok (.invokevirtual 50, 3) := by decide +kernel
theorem dX3_runThrough_22 : decode cX3_runThrough 22 = .ok (.iconst 0, 1) := by decide +kernel
theorem dX3_runThrough_23 : decode cX3_runThrough 23 = .ok (.istore 6, 2) := by decide +kernel
theorem dX3_runThrough_25 : decode cX3_runThrough 25 = .ok (.iload 6, 2) := by decide +kernel
theorem dX3_runThrough_27 : decode cX3_runThrough 27 = .ok (.sipush 629, 3) := by decide +kernel
theorem dX3_runThrough_30 : decode cX3_runThrough 30 = .ok (.if_icmp .ge 32, 3) := by decide +kernel
theorem dX3_runThrough_33 : decode cX3_runThrough 33 = .ok (.aload_n 0, 1) := by decide +kernel
theorem dX3_runThrough_34 : decode cX3_runThrough 34 = .ok (.getfield 18, 3) := by decide +kernel
theorem dX3_runThrough_37 : decode cX3_runThrough 37 = .ok (.invokevirtual 53, 3) := by decide +kernel
theorem dX3_runThrough_40 : decode cX3_runThrough 40 = .ok (.ifCond .ne 22, 3) := by decide +kernel
theorem dX3_runThrough_43 : decode cX3_runThrough 43 = .ok (.aload_n 0, 1) := by decide +kernel
theorem dX3_runThrough_44 : decode cX3_runThrough 44 = .ok (.aload_n 0, 1) := by decide +kernel
theorem dX3_runThrough_45 : decode cX3_runThrough 45 = .ok (.getfield 18, 3) := by decide +kernel
theorem dX3_runThrough_48 : decode cX3_runThrough 48 = .ok (.invokevirtual 57, 3) := by decide +kernel
theorem dX3_runThrough_51 : decode cX3_runThrough 51 = .ok (.aload 4, 2) := by decide +kernel
theorem dX3_runThrough_53 : decode cX3_runThrough 53 = .ok (.invokevirtual 61, 3) := by decide +kernel
theorem dX3_runThrough_56 : decode cX3_runThrough 56 = .ok (.iinc 6 1, 3) := by decide +kernel
theorem dX3_runThrough_59 : decode cX3_runThrough 59 = .ok (.goto (-34), 3) := by decide +kernel
theorem dX3_runThrough_62 : decode cX3_runThrough 62 = .ok (.return_, 1) := by decide +kernel
set_option maxRecDepth 20000 in
theorem ggX3_begin_X1_clear : GoodIn wsX3_begin wsX1_clear := goodIn_r _ [8, 9, 33, 34] (by decide +kernel) (by decide +kernel)
set_option maxRecDepth 20000 in
theorem gX3_begin_X1_clear : GoodIn wsX3_begin (wsV RX3 65 RX1 yX1_clear wsX1_clear) := goodIn_app (goodIn_of _ (by decide +kernel)) ggX3_begin_X1_clear
set_option maxRecDepth 20000 in
theorem ggX3_begin_X3_startRun : GoodIn wsX3_begin wsX3_startRun := goodIn_r _ [14, 2, 15, 16, 17, 1, 18, 19, 7, 20, 21, 22, 23, 24, 9, 25, 26, 27, 28, 29, 30, 31, 32, 33, 34] (by decide +kernel) (by decide +kernel)
set_option maxRecDepth 20000 in
theorem gX3_begin_X3_startRun : GoodIn wsX3_begin (wsV RX3 68 RX3 yX3_startRun wsX3_startRun) := goodIn_app (goodIn_of _ (by decide +kernel)) ggX3_begin_X3_startRun
theorem dX3_begin_0 : decode cX3_begin 0 = .ok (.aload_n 0, 1) := by decide +kernel
theorem dX3_begin_1 : decode cX3_begin 1 = .ok (.getfield 18, 3) := by decide +kernel
theorem dX3_begin_4 : decode cX3_begin 4 = .ok (.invokevirtual 65, 3) := by decide +kernel
theorem dX3_begin_7 : decode cX3_begin 7 = .ok (.aload_n 0, 1) := by decide +kernel
theorem dX3_begin_8 : decode cX3_begin 8 = .ok (.iconst 0, 1) := by decide +kernel
theorem dX3_begin_9 : decode cX3_begin 9 = .ok (.putfield 33, 3) := by decide +kernel
theorem dX3_begin_12 : decode cX3_begin 12 = .ok (.aload_n 0, 1) := by decide +kernel
theorem dX3_begin_13 : decode cX3_begin 13 = .ok (.iconst 0, 1) := by decide +kernel
theorem dX3_begin_14 : decode cX3_begin 14 = .ok (.putfield 37, 3) := by decide +kernel
theorem dX3_begin_17 : decode cX3_begin 17 = .ok (.iconst 1, 1) := by decide +kernel
theorem dX3_begin_18 : decode cX3_begin 18 = .ok (.istore 4, 2) := by decide +kernel
theorem dX3_begin_20 : decode cX3_begin 20 = .ok (.iconst 1, 1) := by decide +kernel
theorem dX3_begin_21 : decode cX3_begin 21 = .ok (.istore 5, 2) := by decide +kernel
theorem dX3_begin_23 : decode cX3_begin 23 = .ok (.iload 5, 2) := by decide +kernel
theorem dX3_begin_25 : decode cX3_begin 25 = .ok (.iload_n 2, 1) := by decide +kernel
theorem dX3_begin_26 : decode cX3_begin 26 = .ok (.if_icmp .ge 16, 3) := by decide +kernel
theorem dX3_begin_29 : decode cX3_begin 29 = .ok (.iload 4, 2) := by decide +kernel
theorem dX3_begin_31 : decode cX3_begin 31 = .ok (.bipush 10, 2) := by decide +kernel
theorem dX3_begin_33 : decode cX3_begin 33 = .ok (.imul, 1) := by decide +kernel
theorem dX3_begin_34 : decode cX3_begin 34 = .ok (.istore 4, 2) := by decide +kernel
theorem dX3_begin_36 : decode cX3_begin 36 = .ok (.iinc 5 1, 3) := by decide +kernel
theorem dX3_begin_39 : decode cX3_begin 39 = .ok (.goto (-16), 3) := by decide +kernel
theorem dX3_begin_42 : decode cX3_begin 42 = .ok (.iconst 0, 1) := by decide +kernel
theorem dX3_begin_43 : decode cX3_begin 43 = .ok (.istore 5, 2) := by decide +kernel
theorem dX3_begin_45 : decode cX3_begin 45 = .ok (.iload 5, 2) := by decide +kernel
theorem dX3_begin_47 : decode cX3_begin 47 = .ok (.iload_n 2, 1) := by decide +kernel
theorem dX3_begin_48 : decode cX3_begin 48 = .ok (.if_icmp .ge 41, 3) := by decide +kernel
theorem dX3_begin_51 : decode cX3_begin 51 = .ok (.iload 4, 2) := by decide +kernel
theorem dX3_begin_53 : decode cX3_begin 53 = .ok (.ifCond .le 36, 3) := by decide +kernel
theorem dX3_begin_56 : decode cX3_begin 56 = .ok (.aload_n 0, 1) := by decide +kernel
theorem dX3_begin_57 : decode cX3_begin 57 = .ok (.iload_n 1, 1) := by decide +kernel
theorem dX3_begin_58 : decode cX3_begin 58 = .ok (.iload 4, 2) := by decide +kernel
theorem dX3_begin_60 : decode cX3_begin 60 = .ok (.idiv, 1) := by decide +kernel
theorem dX3_begin_61 : decode cX3_begin 61 = .ok (.bipush 10, 2) := by decide +kernel
theorem dX3_begin_63 : decode cX3_begin 63 = .ok (.irem, 1) := by decide +kernel
theorem dX3_begin_64 : decode cX3_begin 64 = .ok (.iload 5, 2) := by decide +kernel
theorem dX3_begin_66 : decode cX3_begin 66 = .ok (.iconst 0, 1) := by decide +kernel
theorem dX3_begin_67 : decode cX3_begin 67 = .ok (.iload 5, 2) := by decide +kernel
theorem dX3_begin_69 : decode cX3_begin 69 = .ok (.iload_n 3, 1) := by decide +kernel
theorem dX3_begin_70 : decode cX3_begin 70 = .ok (.imul, 1) := by decide +kernel
theorem dX3_begin_71 : decode cX3_begin 71 = .ok (.bipush 100, 2) := by decide +kernel
theorem dX3_begin_73 : decode cX3_begin 73 = .ok (.invokevirtual 68, 3) := by decide +kernel
theorem dX3_begin_76 : decode cX3_begin 76 = .ok (.iload 4, 2) := by decide +kernel
theorem dX3_begin_78 : decode cX3_begin 78 = .ok (.bipush 10, 2) := by decide +kernel
theorem dX3_begin_80 : decode cX3_begin 80 = .ok (.idiv, 1) := by decide +kernel
theorem dX3_begin_81 : decode cX3_begin 81 = .ok (.istore 4, 2) := by decide +kernel
theorem dX3_begin_83 : decode cX3_begin 83 = .ok (.iinc 5 1, 3) := by decide +kernel
theorem dX3_begin_86 : decode cX3_begin 86 = .ok (.goto (-41), 3) := by decide +kernel
theorem dX3_begin_89 : decode cX3_begin 89 = .ok (.return_, 1) := by decide +kernel
set_option maxRecDepth 20000 in
theorem ggX3_startRun_X1_pack : GoodIn wsX3_startRun wsX1_pack := goodIn_r _ [9] (by decide +kernel) (by decide +kernel)
set_option maxRecDepth 20000 in
theorem gX3_startRun_X1_pack : GoodIn wsX3_startRun (va_wsS RX3 72 yX1_pack wsX1_pack) := goodIn_app (goodIn_of _ (by decide +kernel)) ggX3_startRun_X1_pack
set_option maxRecDepth 20000 in
theorem ggX3_startRun_X1_put : GoodIn wsX3_startRun wsX1_put := goodIn_r _ [13, 14, 15, 23, 24] (by decide +kernel) (by decide +kernel)
set_option maxRecDepth 20000 in
theorem gX3_startRun_X1_put : GoodIn wsX3_startRun (wsV RX3 76 RX1 yX1_put wsX1_put) := goodIn_app (goodIn_of _ (by decide +kernel)) ggX3_startRun_X1_put
theorem dX3_startRun_0 : decode cX3_startRun 0 = .ok (.aload_n 0, 1) := by decide +kernel
theorem dX3_startRun_1 : decode cX3_startRun 1 = .ok (.getfield 33, 3) := by decide +kernel
theorem dX3_startRun_4 : decode cX3_startRun 4 = .ok (.bipush 17, 2) := by decide +kernel
theorem dX3_startRun_6 : decode cX3_startRun 6 = .ok (.if_icmp .lt 4, 3) := by decide +kernel
theorem dX3_startRun_9 : decode cX3_startRun 9 = .ok (.return_, 1) := by decide +kernel
theorem dX3_startRun_10 : decode cX3_startRun 10 = .ok (.aload_n 0, 1) := by decide +kernel
theorem dX3_startRun_11 : decode cX3_startRun 11 = .ok (.getfield 22, 3) := by decide +kernel
theorem dX3_startRun_14 : decode cX3_startRun 14 = .ok (.aload_n 0, 1) := by decide +kernel
theorem dX3_startRun_15 : decode cX3_startRun 15 = .ok (.getfield 33, 3) := by decide +kernel
theorem dX3_startRun_18 : decode cX3_startRun 18 = .ok (.iload_n 1, 1) := by decide +kernel
theorem dX3_startRun_19 : decode cX3_startRun 19 = .ok (.iastore, 1) := by decide +kernel
theorem dX3_startRun_20 : decode cX3_startRun 20 = .ok (.aload_n 0, 1) := by decide +kernel
theorem dX3_startRun_21 : decode cX3_startRun 21 = .ok (.getfield 26, 3) := by decide +kernel
theorem dX3_startRun_24 : decode cX3_startRun 24 = .ok (.aload_n 0, 1) := by decide +kernel
theorem dX3_startRun_25 : decode cX3_startRun 25 = .ok (.getfield 33, 3) := by decide +kernel
theorem dX3_startRun_28 : decode cX3_startRun 28 = .ok (.iload_n 2, 1) := by decide +kernel
theorem dX3_startRun_29 : decode cX3_startRun 29 = .ok (.iastore, 1) := by decide +kernel
theorem dX3_startRun_30 : decode cX3_startRun 30 = .ok (.aload_n 0, 1) := by decide +kernel
theorem dX3_startRun_31 : decode cX3_startRun 31 = .ok (.getfield 29, 3) := by decide +kernel
theorem dX3_startRun_34 : decode cX3_startRun 34 = .ok (.aload_n 0, 1) := by decide +kernel
theorem dX3_startRun_35 : decode cX3_startRun 35 = .ok (.getfield 33, 3) := by decide +kernel
theorem dX3_startRun_38 : decode cX3_startRun 38 = .ok (.lconst 0, 1) := by decide +kernel
theorem dX3_startRun_39 : decode cX3_startRun 39 = .ok (.lastore, 1) := by decide +kernel
theorem dX3_startRun_40 : decode cX3_startRun 40 = .ok (.aload_n 0, 1) := by decide +kernel
theorem dX3_startRun_41 : decode cX3_startRun 41 = .ok (.getfield 18, 3) := by decide +kernel
theorem dX3_startRun_44 : decode cX3_startRun 44 = .ok (.iload 4, 2) := by decide +kernel
theorem dX3_startRun_46 : decode cX3_startRun 46 = .ok (.iload_n 3, 1) := by decide +kernel
theorem dX3_startRun_47 : decode cX3_startRun 47 = .ok (.aload_n 0, 1) := by decide +kernel
theorem dX3_startRun_48 : decode cX3_startRun 48 = .ok (.getfield 33, 3) := by decide +kernel
theorem dX3_startRun_51 : decode cX3_startRun 51 = .ok (.iconst (-1), 1) := by decide +kernel
theorem dX3_startRun_52 : decode cX3_startRun 52 = .ok (.iload 5, 2) := by decide +kernel
theorem dX3_startRun_54 : decode cX3_startRun 54 = .ok (.invokestatic 72, 3) := by decide +kernel
theorem dX3_startRun_57 : decode cX3_startRun 57 = .ok (.invokevirtual 76, 3) := by decide +kernel
theorem dX3_startRun_60 : decode cX3_startRun 60 = .ok (.aload_n 0, 1) := by decide +kernel
theorem dX3_startRun_61 : decode cX3_startRun 61 = .ok (.dup, 1) := by decide +kernel
theorem dX3_startRun_62 : decode cX3_startRun 62 = .ok (.getfield 33, 3) := by decide +kernel
theorem dX3_startRun_65 : decode cX3_startRun 65 = .ok (.iconst 1, 1) := by decide +kernel
theorem dX3_startRun_66 : decode cX3_startRun 66 = .ok (.iadd, 1) := by decide +kernel
theorem dX3_startRun_67 : decode cX3_startRun 67 = .ok (.putfield 33, 3) := by decide +kernel
theorem dX3_startRun_70 : decode cX3_startRun 70 = .ok (.return_, 1) := by decide +kernel
set_option maxRecDepth 20000 in
theorem ggX3_come_X1_timeOf : GoodIn wsX3_come wsX1_timeOf := goodIn_r _ [8] (by decide +kernel) (by decide +kernel)
set_option maxRecDepth 20000 in
theorem gX3_come_X1_timeOf : GoodIn wsX3_come (va_wsS RX3 80 yX1_timeOf wsX1_timeOf) := goodIn_app (goodIn_of _ (by decide +kernel)) ggX3_come_X1_timeOf
set_option maxRecDepth 20000 in
theorem ggX3_come_X1_chamberOf : GoodIn wsX3_come wsX1_chamberOf := goodIn_r _ [11] (by decide +kernel) (by decide +kernel)
set_option maxRecDepth 20000 in
theorem gX3_come_X1_chamberOf : GoodIn wsX3_come (va_wsS RX3 83 yX1_chamberOf wsX1_chamberOf) := goodIn_app (goodIn_of _ (by decide +kernel)) ggX3_come_X1_chamberOf
set_option maxRecDepth 20000 in
theorem ggX3_come_X1_runOf : GoodIn wsX3_come wsX1_runOf := goodIn_r _ [14] (by decide +kernel) (by decide +kernel)
set_option maxRecDepth 20000 in
theorem gX3_come_X1_runOf : GoodIn wsX3_come (va_wsS RX3 86 yX1_runOf wsX1_runOf) := goodIn_app (goodIn_of _ (by decide +kernel)) ggX3_come_X1_runOf
set_option maxRecDepth 20000 in
theorem ggX3_come_X1_passageOf : GoodIn wsX3_come wsX1_passageOf := goodIn_r _ [17] (by decide +kernel) (by decide +kernel)
set_option maxRecDepth 20000 in
theorem gX3_come_X1_passageOf : GoodIn wsX3_come (va_wsS RX3 89 yX1_passageOf wsX1_passageOf) := goodIn_app (goodIn_of _ (by decide +kernel)) ggX3_come_X1_passageOf
set_option maxRecDepth 20000 in
theorem ggX3_come_X1_strengthOf : GoodIn wsX3_come wsX1_strengthOf := goodIn_r _ [20] (by decide +kernel) (by decide +kernel)
set_option maxRecDepth 20000 in
theorem gX3_come_X1_strengthOf : GoodIn wsX3_come (va_wsS RX3 92 yX1_strengthOf wsX1_strengthOf) := goodIn_app (goodIn_of _ (by decide +kernel)) ggX3_come_X1_strengthOf
set_option maxRecDepth 20000 in
theorem ggX3_come_X0_hasChamber : GoodIn wsX3_come wsX0_hasChamber := goodIn_r _ [25, 26, 27, 28, 29, 109, 110, 111, 112, 113, 114, 115, 116, 117, 118, 119, 120, 121, 122, 123] (by decide +kernel) (by decide +kernel)
set_option maxRecDepth 20000 in
theorem gX3_come_X0_hasChamber : GoodIn wsX3_come (wsV RX3 95 RX0 yX0_hasChamber wsX0_hasChamber) := goodIn_app (goodIn_of _ (by decide +kernel)) ggX3_come_X0_hasChamber
set_option maxRecDepth 20000 in
theorem ggX3_come_X2_hear : GoodIn wsX3_come wsX2_hear := goodIn_r _ [34, 35, 36, 37, 38, 39, 40, 33, 41, 42, 43, 44, 45, 27, 28, 29, 124, 125, 126, 127, 128, 129, 130, 131] (by decide +kernel) (by decide +kernel)
set_option maxRecDepth 20000 in
theorem gX3_come_X2_hear : GoodIn wsX3_come (wsV RX3 104 RX2 yX2_hear wsX2_hear) := goodIn_app (goodIn_of _ (by decide +kernel)) ggX3_come_X2_hear
set_option maxRecDepth 20000 in
theorem ggX3_come_X0_drowns : GoodIn wsX3_come wsX0_drowns := goodIn_r _ [49, 50, 109, 110, 111, 112, 113, 114, 115, 116, 117, 118, 119, 120, 121, 122, 123] (by decide +kernel) (by decide +kernel)
set_option maxRecDepth 20000 in
theorem gX3_come_X0_drowns : GoodIn wsX3_come (wsV RX3 108 RX0 yX0_drowns wsX0_drowns) := goodIn_app (goodIn_of _ (by decide +kernel)) ggX3_come_X0_drowns
set_option maxRecDepth 20000 in
theorem ggX3_come_X3_setOffClapper : GoodIn wsX3_come wsX3_setOffClapper := goodIn_r _ [55, 2, 4, 56, 3, 57, 58, 59, 54, 60, 1, 61, 62, 63, 64, 7, 65, 66, 67, 68, 69, 70, 71, 102, 103, 104, 105, 106, 107, 108, 109, 110, 111, 112, 113, 114, 115, 116, 117, 118, 119, 120, 121, 122, 123, 132, 133] (by decide +kernel) (by decide +kernel)
set_option maxRecDepth 20000 in
theorem gX3_come_X3_setOffClapper : GoodIn wsX3_come (wsV RX3 112 RX3 yX3_setOffClapper wsX3_setOffClapper) := goodIn_app (goodIn_of _ (by decide +kernel)) ggX3_come_X3_setOffClapper
set_option maxRecDepth 20000 in
theorem ggX3_come_X3_goOn : GoodIn wsX3_come wsX3_goOn := goodIn_r _ [75, 2, 76, 77, 78, 24, 79, 80, 81, 82, 83, 84, 85, 86, 54, 87, 61, 62, 88, 89, 90, 91, 92, 93, 94, 95, 96, 63, 64, 7, 65, 66, 67, 68, 69, 70, 71, 102, 103, 104, 105, 106, 107, 108, 109, 110, 111, 112, 113, 114, 115, 116, 117, 118, 119, 120, 121, 122, 123, 132, 133] (by decide +kernel) (by decide +kernel)
set_option maxRecDepth 20000 in
theorem gX3_come_X3_goOn : GoodIn wsX3_come (wsV RX3 115 RX3 yX3_goOn wsX3_goOn) := goodIn_app (goodIn_of _ (by decide +kernel)) ggX3_come_X3_goOn
set_option maxRecDepth 20000 in
theorem ggX3_come_X0_strengthFromWall : GoodIn wsX3_come wsX0_strengthFromWall := goodIn_r _ [100, 101, 109, 110, 111, 112, 113, 114, 115, 116, 117, 118, 119, 120, 121, 122, 123] (by decide +kernel) (by decide +kernel)
set_option maxRecDepth 20000 in
theorem gX3_come_X0_strengthFromWall : GoodIn wsX3_come (wsV RX3 118 RX0 yX0_strengthFromWall wsX0_strengthFromWall) := goodIn_app (goodIn_of _ (by decide +kernel)) ggX3_come_X0_strengthFromWall
set_option maxRecDepth 20000 in
theorem ggX3_come_X3_goInto : GoodIn wsX3_come wsX3_goInto := goodIn_r _ [87, 2, 61, 62, 88, 89, 90, 24, 91, 81, 83, 92, 93, 94, 95, 96, 63, 64, 7, 65, 66, 67, 68, 69, 70, 71, 102, 103, 104, 105, 106, 107, 108, 109, 110, 111, 112, 113, 114, 115, 116, 117, 118, 119, 120, 121, 122, 123, 132, 133] (by decide +kernel) (by decide +kernel)
set_option maxRecDepth 20000 in
theorem gX3_come_X3_goInto : GoodIn wsX3_come (wsV RX3 122 RX3 yX3_goInto wsX3_goInto) := goodIn_app (goodIn_of _ (by decide +kernel)) ggX3_come_X3_goInto
theorem dX3_come_0 : decode cX3_come 0 = .ok (.iload_n 1, 1) := by decide +kernel
theorem dX3_come_1 : decode cX3_come 1 = .ok (.invokestatic 80, 3) := by decide +kernel
theorem dX3_come_4 : decode cX3_come 4 = .ok (.istore_n 3, 1) := by decide +kernel
theorem dX3_come_5 : decode cX3_come 5 = .ok (.iload_n 1, 1) := by decide +kernel
theorem dX3_come_6 : decode cX3_come 6 = .ok (.invokestatic 83, 3) := by decide +kernel
theorem dX3_come_9 : decode cX3_come 9 = .ok (.istore 4, 2) := by decide +kernel
theorem dX3_come_11 : decode cX3_come 11 = .ok (.iload_n 1, 1) := by decide +kernel
theorem dX3_come_12 : decode cX3_come 12 = .ok (.invokestatic 86, 3) := by decide +kernel
theorem dX3_come_15 : decode cX3_come 15 = .ok (.istore 5, 2) := by decide +kernel
theorem dX3_come_17 : decode cX3_come 17 = .ok (.iload_n 1, 1) := by decide +kernel
theorem dX3_come_18 : decode cX3_come 18 = .ok (.invokestatic 89, 3) := by decide +kernel
theorem dX3_come_21 : decode cX3_come 21 = .ok (.istore 6, 2) := by decide +kernel
theorem dX3_come_23 : decode cX3_come 23 = .ok (.iload_n 1, 1) := by decide +kernel
theorem dX3_come_24 : decode cX3_come 24 = .ok (.invokestatic 92, 3) := by decide +kernel
theorem dX3_come_27 : decode cX3_come 27 = .ok (.istore 7, 2) := by decide +kernel
theorem dX3_come_29 : decode cX3_come 29 = .ok (.iload 5, 2) := by decide +kernel
theorem dX3_come_31 : decode cX3_come 31 = .ok (.aload_n 0, 1) := by decide +kernel
theorem dX3_come_32 : decode cX3_come 32 = .ok (.getfield 33, 3) := by decide +kernel
theorem dX3_come_35 : decode cX3_come 35 = .ok (.if_icmp .ge 27, 3) := by decide +kernel
theorem dX3_come_38 : decode cX3_come 38 = .ok (.aload_n 0, 1) := by decide +kernel
theorem dX3_come_39 : decode cX3_come 39 = .ok (.getfield 9, 3) := by decide +kernel
theorem dX3_come_42 : decode cX3_come 42 = .ok (.iload 4, 2) := by decide +kernel
theorem dX3_come_44 : decode cX3_come 44 = .ok (.invokevirtual 95, 3) := by decide +kernel
theorem dX3_come_47 : decode cX3_come 47 = .ok (.ifCond .eq 15, 3) := by decide +kernel
theorem dX3_come_50 : decode cX3_come 50 = .ok (.iload 6, 2) := by decide +kernel
theorem dX3_come_52 : decode cX3_come 52 = .ok (.aload_n 0, 1) := by decide +kernel
theorem dX3_come_53 : decode cX3_come 53 = .ok (.getfield 9, 3) := by decide +kernel
theorem dX3_come_56 : decode cX3_come 56 = .ok (.getfield 101, 3) := by decide +kernel
theorem dX3_come_59 : decode cX3_come 59 = .ok (.if_icmp .lt 4, 3) := by decide +kernel
theorem dX3_come_62 : decode cX3_come 62 = .ok (.return_, 1) := by decide +kernel
theorem dX3_come_63 : decode cX3_come 63 = .ok (.iload 4, 2) := by decide +kernel
theorem dX3_come_65 : decode cX3_come 65 = .ok (.ifCond .ne 29, 3) := by decide +kernel
theorem dX3_come_68 : decode cX3_come 68 = .ok (.iload 6, 2) := by decide +kernel
theorem dX3_come_70 : decode cX3_come 70 = .ok (.ifCond .lt 24, 3) := by decide +kernel
theorem dX3_come_73 : decode cX3_come 73 = .ok (.aload_n 2, 1) := by decide +kernel
theorem dX3_come_74 : decode cX3_come 74 = .ok (.iload_n 3, 1) := by decide +kernel
theorem dX3_come_75 : decode cX3_come 75 = .ok (.aload_n 0, 1) := by decide +kernel
theorem dX3_come_76 : decode cX3_come 76 = .ok (.getfield 26, 3) := by decide +kernel
theorem dX3_come_79 : decode cX3_come 79 = .ok (.iload 5, 2) := by decide +kernel
theorem dX3_come_81 : decode cX3_come 81 = .ok (.iaload, 1) := by decide +kernel
theorem dX3_come_82 : decode cX3_come 82 = .ok (.aload_n 0, 1) := by decide +kernel
theorem dX3_come_83 : decode cX3_come 83 = .ok (.getfield 22, 3) := by decide +kernel
theorem dX3_come_86 : decode cX3_come 86 = .ok (.iload 5, 2) := by decide +kernel
theorem dX3_come_88 : decode cX3_come 88 = .ok (.iaload, 1) := by decide +kernel
theorem dX3_come_89 : decode cX3_come 89 = .ok (.iload 7, 2) := by decide +kernel
theorem dX3_come_91 : decode cX3_come 91 = .ok (.invokevirtual 104, 3) := by decide +kernel
theorem dX3_come_94 : decode cX3_come 94 = .ok (.aload_n 0, 1) := by decide +kernel
theorem dX3_come_95 : decode cX3_come 95 = .ok (.getfield 9, 3) := by decide +kernel
theorem dX3_come_98 : decode cX3_come 98 = .ok (.iload 4, 2) := by decide +kernel
theorem dX3_come_100 : decode cX3_come 100 = .ok (.iload 7, 2) := by decide +kernel
theorem dX3_come_102 : decode cX3_come 102 = .ok (.invokevirtual 108, 3) := by decide +kernel
theorem dX3_come_105 : decode cX3_come 105 = .ok (.ifCond .eq 4, 3) := by decide +kernel
theorem dX3_come_108 : decode cX3_come 108 = .ok (.return_, 1) := by decide +kernel
theorem dX3_come_109 : decode cX3_come 109 = .ok (.aload_n 0, 1) := by decide +kernel
theorem dX3_come_110 : decode cX3_come 110 = .ok (.iload 4, 2) := by decide +kernel
theorem dX3_come_112 : decode cX3_come 112 = .ok (.iload 5, 2) := by decide +kernel
theorem dX3_come_114 : decode cX3_come 114 = .ok (.iload_n 3, 1) := by decide +kernel
theorem dX3_come_115 : decode cX3_come 115 = .ok (.invokevirtual 112, 3) := by decide +kernel
theorem dX3_come_118 : decode cX3_come 118 = .ok (.aload_n 0, 1) := by decide +kernel
theorem dX3_come_119 : decode cX3_come 119 = .ok (.iload 4, 2) := by decide +kernel
theorem dX3_come_121 : decode cX3_come 121 = .ok (.iload 5, 2) := by decide +kernel
theorem dX3_come_123 : decode cX3_come 123 = .ok (.iload 6, 2) := by decide +kernel
theorem dX3_come_125 : decode cX3_come 125 = .ok (.iload_n 3, 1) := by decide +kernel
theorem dX3_come_126 : decode cX3_come 126 = .ok (.iload 7, 2) := by decide +kernel
theorem dX3_come_128 : decode cX3_come 128 = .ok (.invokevirtual 115, 3) := by decide +kernel
theorem dX3_come_131 : decode cX3_come 131 = .ok (.iload 4, 2) := by decide +kernel
theorem dX3_come_133 : decode cX3_come 133 = .ok (.ifCond .eq 30, 3) := by decide +kernel
theorem dX3_come_136 : decode cX3_come 136 = .ok (.iload 6, 2) := by decide +kernel
theorem dX3_come_138 : decode cX3_come 138 = .ok (.ifCond .lt 25, 3) := by decide +kernel
theorem dX3_come_141 : decode cX3_come 141 = .ok (.aload_n 0, 1) := by decide +kernel
theorem dX3_come_142 : decode cX3_come 142 = .ok (.iload 6, 2) := by decide +kernel
theorem dX3_come_144 : decode cX3_come 144 = .ok (.iload 4, 2) := by decide +kernel
theorem dX3_come_146 : decode cX3_come 146 = .ok (.iload 5, 2) := by decide +kernel
theorem dX3_come_148 : decode cX3_come 148 = .ok (.iload_n 3, 1) := by decide +kernel
theorem dX3_come_149 : decode cX3_come 149 = .ok (.aload_n 0, 1) := by decide +kernel
theorem dX3_come_150 : decode cX3_come 150 = .ok (.getfield 9, 3) := by decide +kernel
theorem dX3_come_153 : decode cX3_come 153 = .ok (.iload 4, 2) := by decide +kernel
theorem dX3_come_155 : decode cX3_come 155 = .ok (.iload 7, 2) := by decide +kernel
theorem dX3_come_157 : decode cX3_come 157 = .ok (.invokevirtual 118, 3) := by decide +kernel
theorem dX3_come_160 : decode cX3_come 160 = .ok (.invokevirtual 122, 3) := by decide +kernel
theorem dX3_come_163 : decode cX3_come 163 = .ok (.return_, 1) := by decide +kernel
set_option maxRecDepth 20000 in
theorem ggX3_setOffClapper_X3_startRun : GoodIn wsX3_setOffClapper wsX3_startRun := goodIn_r _ [9, 10, 2, 4, 11, 12, 13, 14, 15, 16, 17, 18, 19, 20, 21, 22, 23, 24, 25, 26, 27, 28, 29, 45, 46] (by decide +kernel) (by decide +kernel)
set_option maxRecDepth 20000 in
theorem gX3_setOffClapper_X3_startRun : GoodIn wsX3_setOffClapper (wsV RX3 68 RX3 yX3_startRun wsX3_startRun) := goodIn_app (goodIn_of _ (by decide +kernel)) ggX3_setOffClapper_X3_startRun
theorem dX3_setOffClapper_0 : decode cX3_setOffClapper 0 = .ok (.iconst 1, 1) := by decide +kernel
theorem dX3_setOffClapper_1 : decode cX3_setOffClapper 1 = .ok (.iload_n 1, 1) := by decide +kernel
theorem dX3_setOffClapper_2 : decode cX3_setOffClapper 2 = .ok (.ishl, 1) := by decide +kernel
theorem dX3_setOffClapper_3 : decode cX3_setOffClapper 3 = .ok (.istore 4, 2) := by decide +kernel
theorem dX3_setOffClapper_5 : decode cX3_setOffClapper 5 = .ok (.aload_n 0, 1) := by decide +kernel
theorem dX3_setOffClapper_6 : decode cX3_setOffClapper 6 = .ok (.getfield 9, 3) := by decide +kernel
theorem dX3_setOffClapper_9 : decode cX3_setOffClapper 9 = .ok (.getfield 125, 3) := by decide +kernel
theorem dX3_setOffClapper_12 : decode cX3_setOffClapper 12 = .ok (.iload_n 1, 1) := by decide +kernel
theorem dX3_setOffClapper_13 : decode cX3_setOffClapper 13 = .ok (.iaload, 1) := by decide +kernel
theorem dX3_setOffClapper_14 : decode cX3_setOffClapper 14 = .ok (.aload_n 0, 1) := by decide +kernel
theorem dX3_setOffClapper_15 : decode cX3_setOffClapper 15 = .ok (.getfield 22, 3) := by decide +kernel
theorem dX3_setOffClapper_18 : decode cX3_setOffClapper 18 = .ok (.iload_n 2, 1) := by decide +kernel
theorem dX3_setOffClapper_19 : decode cX3_setOffClapper 19 = .ok (.iaload, 1) := by decide +kernel
theorem dX3_setOffClapper_20 : decode cX3_setOffClapper 20 = .ok (.if_icmp .ne 13, 3) := by decide +kernel
theorem dX3_setOffClapper_23 : decode cX3_setOffClapper 23 = .ok (.aload_n 0, 1) := by decide +kernel
theorem dX3_setOffClapper_24 : decode cX3_setOffClapper 24 = .ok (.getfield 37, 3) := by decide +kernel
theorem dX3_setOffClapper_27 : decode cX3_setOffClapper 27 = .ok (.iload 4, 2) := by decide +kernel
theorem dX3_setOffClapper_29 : decode cX3_setOffClapper 29 = .ok (.iand, 1) := by decide +kernel
theorem dX3_setOffClapper_30 : decode cX3_setOffClapper 30 = .ok (.ifCond .eq 4, 3) := by decide +kernel
theorem dX3_setOffClapper_33 : decode cX3_setOffClapper 33 = .ok (.return_, 1) := by decide +kernel
theorem dX3_setOffClapper_34 : decode cX3_setOffClapper 34 = .ok (.iload_n 3, 1) := by decide +kernel
theorem dX3_setOffClapper_35 : decode cX3_setOffClapper 35 = .ok (.aload_n 0, 1) := by decide +kernel
theorem dX3_setOffClapper_36 : decode cX3_setOffClapper 36 = .ok (.getfield 9, 3) := by decide +kernel
theorem dX3_setOffClapper_39 : decode cX3_setOffClapper 39 = .ok (.getfield 126, 3) := by decide +kernel
theorem dX3_setOffClapper_42 : decode cX3_setOffClapper 42 = .ok (.iload_n 1, 1) := by decide +kernel
theorem dX3_setOffClapper_43 : decode cX3_setOffClapper 43 = .ok (.iaload, 1) := by decide +kernel
theorem dX3_setOffClapper_44 : decode cX3_setOffClapper 44 = .ok (.iadd, 1) := by decide +kernel
theorem dX3_setOffClapper_45 : decode cX3_setOffClapper 45 = .ok (.istore 5, 2) := by decide +kernel
theorem dX3_setOffClapper_47 : decode cX3_setOffClapper 47 = .ok (.iload 5, 2) := by decide +kernel
theorem dX3_setOffClapper_49 : decode cX3_setOffClapper 49 = .ok (.sipush 200, 3) := by decide +kernel
theorem dX3_setOffClapper_52 : decode cX3_setOffClapper 52 = .ok (.if_icmp .le 4, 3) := by decide +kernel
theorem dX3_setOffClapper_55 : decode cX3_setOffClapper 55 = .ok (.return_, 1) := by decide +kernel
theorem dX3_setOffClapper_56 : decode cX3_setOffClapper 56 = .ok (.aload_n 0, 1) := by decide +kernel
theorem dX3_setOffClapper_57 : decode cX3_setOffClapper 57 = .ok (.dup, 1) := by decide +kernel
theorem dX3_setOffClapper_58 : decode cX3_setOffClapper 58 = .ok (.getfield 37, 3) := by decide +kernel
theorem dX3_setOffClapper_61 : decode cX3_setOffClapper 61 = .ok (.iload 4, 2) := by decide +kernel
theorem dX3_setOffClapper_63 : decode cX3_setOffClapper 63 = .ok (.ior, 1) := by decide +kernel
theorem dX3_setOffClapper_64 : decode cX3_setOffClapper 64 = .ok (.putfield 37, 3) := by decide +kernel
theorem dX3_setOffClapper_67 : decode cX3_setOffClapper 67 = .ok (.aload_n 0, 1) := by decide +kernel
theorem dX3_setOffClapper_68 : decode cX3_setOffClapper 68 = .ok (.aload_n 0, 1) := by decide +kernel
theorem dX3_setOffClapper_69 : decode cX3_setOffClapper 69 = .ok (.getfield 22, 3) := by decide +kernel
theorem dX3_setOffClapper_72 : decode cX3_setOffClapper 72 = .ok (.iload_n 2, 1) := by decide +kernel
theorem dX3_setOffClapper_73 : decode cX3_setOffClapper 73 = .ok (.iaload, 1) := by decide +kernel
theorem dX3_setOffClapper_74 : decode cX3_setOffClapper 74 = .ok (.aload_n 0, 1) := by decide +kernel
theorem dX3_setOffClapper_75 : decode cX3_setOffClapper 75 = .ok (.getfield 26, 3) := by decide +kernel
theorem dX3_setOffClapper_78 : decode cX3_setOffClapper 78 = .ok (.iload_n 2, 1) := by decide +kernel
theorem dX3_setOffClapper_79 : decode cX3_setOffClapper 79 = .ok (.iaload, 1) := by decide +kernel
theorem dX3_setOffClapper_80 : decode cX3_setOffClapper 80 = .ok (.iload_n 1, 1) := by decide +kernel
theorem dX3_setOffClapper_81 : decode cX3_setOffClapper 81 = .ok (.iload 5, 2) := by decide +kernel
theorem dX3_setOffClapper_83 : decode cX3_setOffClapper 83 = .ok (.bipush 60, 2) := by decide +kernel
theorem dX3_setOffClapper_85 : decode cX3_setOffClapper 85 = .ok (.invokevirtual 68, 3) := by decide +kernel
theorem dX3_setOffClapper_88 : decode cX3_setOffClapper 88 = .ok (.return_, 1) := by decide +kernel
set_option maxRecDepth 20000 in
theorem ggX3_goOn_X0_isOpen : GoodIn wsX3_goOn wsX0_isOpen := goodIn_r _ [6, 7, 8, 9, 10, 44, 45, 46, 47, 48, 49, 50, 51, 52, 53, 54, 55, 56, 57, 58] (by decide +kernel) (by decide +kernel)
set_option maxRecDepth 20000 in
theorem gX3_goOn_X0_isOpen : GoodIn wsX3_goOn (wsV RX3 136 RX0 yX0_isOpen wsX0_isOpen) := goodIn_app (goodIn_of _ (by decide +kernel)) ggX3_goOn_X0_isOpen
set_option maxRecDepth 20000 in
theorem ggX3_goOn_X3_goInto : GoodIn wsX3_goOn wsX3_goInto := goodIn_r _ [15, 1, 16, 17, 18, 19, 20, 5, 21, 8, 10, 22, 23, 24, 25, 26, 27, 28, 29, 30, 31, 32, 33, 34, 35, 36, 37, 38, 39, 40, 41, 42, 43, 44, 45, 46, 47, 48, 49, 50, 51, 52, 53, 54, 55, 56, 57, 58, 59, 60] (by decide +kernel) (by decide +kernel)
set_option maxRecDepth 20000 in
theorem gX3_goOn_X3_goInto : GoodIn wsX3_goOn (wsV RX3 122 RX3 yX3_goInto wsX3_goInto) := goodIn_app (goodIn_of _ (by decide +kernel)) ggX3_goOn_X3_goInto
theorem dX3_goOn_0 : decode cX3_goOn 0 = .ok (.iconst 0, 1) := by decide +kernel
theorem dX3_goOn_1 : decode cX3_goOn 1 = .ok (.istore 6, 2) := by decide +kernel
theorem dX3_goOn_3 : decode cX3_goOn 3 = .ok (.iload 6, 2) := by decide +kernel
theorem dX3_goOn_5 : decode cX3_goOn 5 = .ok (.aload_n 0, 1) := by decide +kernel
theorem dX3_goOn_6 : decode cX3_goOn 6 = .ok (.getfield 9, 3) := by decide +kernel
theorem dX3_goOn_9 : decode cX3_goOn 9 = .ok (.getfield 129, 3) := by decide +kernel
theorem dX3_goOn_12 : decode cX3_goOn 12 = .ok (.iload_n 1, 1) := by decide +kernel
theorem dX3_goOn_13 : decode cX3_goOn 13 = .ok (.iaload, 1) := by decide +kernel
theorem dX3_goOn_14 : decode cX3_goOn 14 = .ok (.if_icmp .ge 53, 3) := by decide +kernel
theorem dX3_goOn_17 : decode cX3_goOn 17 = .ok (.aload_n 0, 1) := by decide +kernel
theorem dX3_goOn_18 : decode cX3_goOn 18 = .ok (.getfield 9, 3) := by decide +kernel
theorem dX3_goOn_21 : decode cX3_goOn 21 = .ok (.getfield 132, 3) := by decide +kernel
theorem dX3_goOn_24 : decode cX3_goOn 24 = .ok (.iload_n 1, 1) := by decide +kernel
theorem dX3_goOn_25 : decode cX3_goOn 25 = .ok (.aaload, 1) := by decide +kernel
theorem dX3_goOn_26 : decode cX3_goOn 26 = .ok (.iload 6, 2) := by decide +kernel
theorem dX3_goOn_28 : decode cX3_goOn 28 = .ok (.iaload, 1) := by decide +kernel
theorem dX3_goOn_29 : decode cX3_goOn 29 = .ok (.istore 7, 2) := by decide +kernel
theorem dX3_goOn_31 : decode cX3_goOn 31 = .ok (.iload 7, 2) := by decide +kernel
theorem dX3_goOn_33 : decode cX3_goOn 33 = .ok (.iload_n 3, 1) := by decide +kernel
theorem dX3_goOn_34 : decode cX3_goOn 34 = .ok (.if_icmp .eq 27, 3) := by decide +kernel
theorem dX3_goOn_37 : decode cX3_goOn 37 = .ok (.aload_n 0, 1) := by decide +kernel
theorem dX3_goOn_38 : decode cX3_goOn 38 = .ok (.getfield 9, 3) := by decide +kernel
theorem dX3_goOn_41 : decode cX3_goOn 41 = .ok (.iload 7, 2) := by decide +kernel
theorem dX3_goOn_43 : decode cX3_goOn 43 = .ok (.invokevirtual 136, 3) := by decide +kernel
theorem dX3_goOn_46 : decode cX3_goOn 46 = .ok (.ifCond .eq 15, 3) := by decide +kernel
theorem dX3_goOn_49 : decode cX3_goOn 49 = .ok (.aload_n 0, 1) := by decide +kernel
theorem dX3_goOn_50 : decode cX3_goOn 50 = .ok (.iload 7, 2) := by decide +kernel
theorem dX3_goOn_52 : decode cX3_goOn 52 = .ok (.iload_n 1, 1) := by decide +kernel
theorem dX3_goOn_53 : decode cX3_goOn 53 = .ok (.iload_n 2, 1) := by decide +kernel
theorem dX3_goOn_54 : decode cX3_goOn 54 = .ok (.iload 4, 2) := by decide +kernel
theorem dX3_goOn_56 : decode cX3_goOn 56 = .ok (.iload 5, 2) := by decide +kernel
theorem dX3_goOn_58 : decode cX3_goOn 58 = .ok (.invokevirtual 122, 3) := by decide +kernel
theorem dX3_goOn_61 : decode cX3_goOn 61 = .ok (.iinc 6 1, 3) := by decide +kernel
theorem dX3_goOn_64 : decode cX3_goOn 64 = .ok (.goto (-61), 3) := by decide +kernel
theorem dX3_goOn_67 : decode cX3_goOn 67 = .ok (.return_, 1) := by decide +kernel
set_option maxRecDepth 20000 in
theorem ggX3_goInto_X0_otherEnd : GoodIn wsX3_goInto wsX0_otherEnd := goodIn_r _ [8, 9, 10, 33, 34, 35, 36, 37, 38, 39, 40, 41, 42, 43, 44, 45, 46, 47] (by decide +kernel) (by decide +kernel)
set_option maxRecDepth 20000 in
theorem gX3_goInto_X0_otherEnd : GoodIn wsX3_goInto (wsV RX3 145 RX0 yX0_otherEnd wsX0_otherEnd) := goodIn_app (goodIn_of _ (by decide +kernel)) ggX3_goInto_X0_otherEnd
set_option maxRecDepth 20000 in
theorem ggX3_goInto_X0_strengthBehind : GoodIn wsX3_goInto wsX0_strengthBehind := goodIn_r _ [14, 15, 33, 34, 35, 36, 37, 38, 39, 40, 41, 42, 43, 44, 45, 46, 47] (by decide +kernel) (by decide +kernel)
set_option maxRecDepth 20000 in
theorem gX3_goInto_X0_strengthBehind : GoodIn wsX3_goInto (wsV RX3 148 RX0 yX0_strengthBehind wsX0_strengthBehind) := goodIn_app (goodIn_of _ (by decide +kernel)) ggX3_goInto_X0_strengthBehind
set_option maxRecDepth 20000 in
theorem ggX3_goInto_X1_pack : GoodIn wsX3_goInto wsX1_pack := goodIn_r _ [19] (by decide +kernel) (by decide +kernel)
set_option maxRecDepth 20000 in
theorem gX3_goInto_X1_pack : GoodIn wsX3_goInto (va_wsS RX3 72 yX1_pack wsX1_pack) := goodIn_app (goodIn_of _ (by decide +kernel)) ggX3_goInto_X1_pack
set_option maxRecDepth 20000 in
theorem ggX3_goInto_X1_put : GoodIn wsX3_goInto wsX1_put := goodIn_r _ [23, 24, 25, 48, 49] (by decide +kernel) (by decide +kernel)
set_option maxRecDepth 20000 in
theorem gX3_goInto_X1_put : GoodIn wsX3_goInto (wsV RX3 76 RX1 yX1_put wsX1_put) := goodIn_app (goodIn_of _ (by decide +kernel)) ggX3_goInto_X1_put
theorem dX3_goInto_0 : decode cX3_goInto 0 = .ok (.iload 4, 2) := by decide +kernel
theorem dX3_goInto_2 : decode cX3_goInto 2 = .ok (.aload_n 0, 1) := by decide +kernel
theorem dX3_goInto_3 : decode cX3_goInto 3 = .ok (.getfield 9, 3) := by decide +kernel
theorem dX3_goInto_6 : decode cX3_goInto 6 = .ok (.getfield 139, 3) := by decide +kernel
theorem dX3_goInto_9 : decode cX3_goInto 9 = .ok (.iload_n 1, 1) := by decide +kernel
theorem dX3_goInto_10 : decode cX3_goInto 10 = .ok (.iaload, 1) := by decide +kernel
theorem dX3_goInto_11 : decode cX3_goInto 11 = .ok (.iadd, 1) := by decide +kernel
theorem dX3_goInto_12 : decode cX3_goInto 12 = .ok (.istore 6, 2) := by decide +kernel
theorem dX3_goInto_14 : decode cX3_goInto 14 = .ok (.lconst 1, 1) := by decide +kernel
theorem dX3_goInto_15 : decode cX3_goInto 15 = .ok (.iconst 2, 1) := by decide +kernel
theorem dX3_goInto_16 : decode cX3_goInto 16 = .ok (.iload_n 1, 1) := by decide +kernel
theorem dX3_goInto_17 : decode cX3_goInto 17 = .ok (.imul, 1) := by decide +kernel
theorem dX3_goInto_18 : decode cX3_goInto 18 = .ok (.aload_n 0, 1) := by decide +kernel
theorem dX3_goInto_19 : decode cX3_goInto 19 = .ok (.getfield 9, 3) := by decide +kernel
theorem dX3_goInto_22 : decode cX3_goInto 22 = .ok (.getfield 142, 3) := by decide +kernel
theorem dX3_goInto_25 : decode cX3_goInto 25 = .ok (.iload_n 1, 1) := by decide +kernel
theorem dX3_goInto_26 : decode cX3_goInto 26 = .ok (.iaload, 1) := by decide +kernel
theorem dX3_goInto_27 : decode cX3_goInto 27 = .ok (.iload_n 2, 1) := by decide +kernel
theorem dX3_goInto_28 : decode cX3_goInto 28 = .ok (.if_icmp .ne 7, 3) := by decide +kernel
theorem dX3_goInto_31 : decode cX3_goInto 31 = .ok (.iconst 0, 1) := by decide +kernel
theorem dX3_goInto_32 : decode cX3_goInto 32 = .ok (.goto 4, 3) := by decide +kernel
theorem dX3_goInto_35 : decode cX3_goInto 35 = .ok (.iconst 1, 1) := by decide +kernel
theorem dX3_goInto_36 : decode cX3_goInto 36 = .ok (.iadd, 1) := by decide +kernel
theorem dX3_goInto_37 : decode cX3_goInto 37 = .ok (.lshl, 1) := by decide +kernel
theorem dX3_goInto_38 : decode cX3_goInto 38 = .ok (.lstore 7, 2) := by decide +kernel
theorem dX3_goInto_40 : decode cX3_goInto 40 = .ok (.iload 6, 2) := by decide +kernel
theorem dX3_goInto_42 : decode cX3_goInto 42 = .ok (.sipush 200, 3) := by decide +kernel
theorem dX3_goInto_45 : decode cX3_goInto 45 = .ok (.if_icmp .gt 17, 3) := by decide +kernel
theorem dX3_goInto_48 : decode cX3_goInto 48 = .ok (.aload_n 0, 1) := by decide +kernel
theorem dX3_goInto_49 : decode cX3_goInto 49 = .ok (.getfield 29, 3) := by decide +kernel
theorem dX3_goInto_52 : decode cX3_goInto 52 = .ok (.iload_n 3, 1) := by decide +kernel
theorem dX3_goInto_53 : decode cX3_goInto 53 = .ok (.laload, 1) := by decide +kernel
theorem dX3_goInto_54 : decode cX3_goInto 54 = .ok (.lload 7, 2) := by decide +kernel
theorem dX3_goInto_56 : decode cX3_goInto 56 = .ok (.land, 1) := by decide +kernel
theorem dX3_goInto_57 : decode cX3_goInto 57 = .ok (.lconst 0, 1) := by decide +kernel
theorem dX3_goInto_58 : decode cX3_goInto 58 = .ok (.lcmp, 1) := by decide +kernel
theorem dX3_goInto_59 : decode cX3_goInto 59 = .ok (.ifCond .eq 4, 3) := by decide +kernel
theorem dX3_goInto_62 : decode cX3_goInto 62 = .ok (.return_, 1) := by decide +kernel
theorem dX3_goInto_63 : decode cX3_goInto 63 = .ok (.aload_n 0, 1) := by decide +kernel
theorem dX3_goInto_64 : decode cX3_goInto 64 = .ok (.getfield 29, 3) := by decide +kernel
theorem dX3_goInto_67 : decode cX3_goInto 67 = .ok (.iload_n 3, 1) := by decide +kernel
theorem dX3_goInto_68 : decode cX3_goInto 68 = .ok (.dup2, 1) := by decide +kernel
theorem dX3_goInto_69 : decode cX3_goInto 69 = .ok (.laload, 1) := by decide +kernel
theorem dX3_goInto_70 : decode cX3_goInto 70 = .ok (.lload 7, 2) := by decide +kernel
theorem dX3_goInto_72 : decode cX3_goInto 72 = .ok (.lor, 1) := by decide +kernel
theorem dX3_goInto_73 : decode cX3_goInto 73 = .ok (.lastore, 1) := by decide +kernel
theorem dX3_goInto_74 : decode cX3_goInto 74 = .ok (.aload_n 0, 1) := by decide +kernel
theorem dX3_goInto_75 : decode cX3_goInto 75 = .ok (.getfield 9, 3) := by decide +kernel
theorem dX3_goInto_78 : decode cX3_goInto 78 = .ok (.iload_n 1, 1) := by decide +kernel
theorem dX3_goInto_79 : decode cX3_goInto 79 = .ok (.iload_n 2, 1) := by decide +kernel
theorem dX3_goInto_80 : decode cX3_goInto 80 = .ok (.invokevirtual 145, 3) := by decide +kernel
theorem dX3_goInto_83 : decode cX3_goInto 83 = .ok (.istore 9, 2) := by decide +kernel
theorem dX3_goInto_85 : decode cX3_goInto 85 = .ok (.aload_n 0, 1) := by decide +kernel
theorem dX3_goInto_86 : decode cX3_goInto 86 = .ok (.getfield 18, 3) := by decide +kernel
theorem dX3_goInto_89 : decode cX3_goInto 89 = .ok (.iload 6, 2) := by decide +kernel
theorem dX3_goInto_91 : decode cX3_goInto 91 = .ok (.iload 9, 2) := by decide +kernel
theorem dX3_goInto_93 : decode cX3_goInto 93 = .ok (.iload_n 3, 1) := by decide +kernel
theorem dX3_goInto_94 : decode cX3_goInto 94 = .ok (.iload_n 1, 1) := by decide +kernel
theorem dX3_goInto_95 : decode cX3_goInto 95 = .ok (.aload_n 0, 1) := by decide +kernel
theorem dX3_goInto_96 : decode cX3_goInto 96 = .ok (.getfield 9, 3) := by decide +kernel
theorem dX3_goInto_99 : decode cX3_goInto 99 = .ok (.iload_n 1, 1) := by decide +kernel
theorem dX3_goInto_100 : decode cX3_goInto 100 = .ok (.iload 5, 2) := by decide +kernel
theorem dX3_goInto_102 : decode cX3_goInto 102 = .ok (.invokevirtual 148, 3) := by decide +kernel
theorem dX3_goInto_105 : decode cX3_goInto 105 = .ok (.invokestatic 72, 3) := by decide +kernel
theorem dX3_goInto_108 : decode cX3_goInto 108 = .ok (.invokevirtual 76, 3) := by decide +kernel
theorem dX3_goInto_111 : decode cX3_goInto 111 = .ok (.return_, 1) := by decide +kernel
set_option maxRecDepth 20000 in
theorem ggX4_init_X0_init : GoodIn wsX4_init wsX0_init := goodIn_r _ [22, 23, 2, 3, 24, 25, 26, 27, 28, 29, 30, 31, 32, 33, 34, 35, 36, 37, 38, 39, 40, 74, 75, 76, 77, 78, 79, 80, 81, 82, 83, 84, 85, 86, 87, 88] (by decide +kernel) (by decide +kernel)
set_option maxRecDepth 20000 in
theorem gX4_init_X0_init : GoodIn wsX4_init (wsX0_init) := ggX4_init_X0_init
set_option maxRecDepth 20000 in
theorem ggX4_init_X3_init : GoodIn wsX4_init wsX3_init := goodIn_r _ [43, 44, 2, 3, 45, 46, 47, 48, 49, 24, 50, 51, 52, 53, 54, 55, 56, 57, 58, 59, 60, 61, 96, 97, 98, 99, 100, 101, 102, 111, 112] (by decide +kernel) (by decide +kernel)
set_option maxRecDepth 20000 in
theorem gX4_init_X3_init : GoodIn wsX4_init (wsX3_init) := ggX4_init_X3_init
set_option maxRecDepth 20000 in
theorem ggX4_init_X2_init : GoodIn wsX4_init wsX2_init := goodIn_r _ [64, 65, 2, 3, 24, 66, 67, 68, 69, 70, 71, 72, 73, 103, 104, 105, 106, 107, 108, 109, 110] (by decide +kernel) (by decide +kernel)
set_option maxRecDepth 20000 in
theorem gX4_init_X2_init : GoodIn wsX4_init (wsX2_init) := ggX4_init_X2_init
theorem dX4_init_0 : decode cX4_init 0 = .ok (.aload_n 0, 1) := by decide +kernel
theorem dX4_init_1 : decode cX4_init 1 = .ok (.invokespecial 3, 3) := by decide +kernel
theorem dX4_init_4 : decode cX4_init 4 = .ok (.aload_n 0, 1) := by decide +kernel
theorem dX4_init_5 : decode cX4_init 5 = .ok (.new 9, 3) := by decide +kernel
theorem dX4_init_8 : decode cX4_init 8 = .ok (.dup, 1) := by decide +kernel
theorem dX4_init_9 : decode cX4_init 9 = .ok (.invokespecial 11, 3) := by decide +kernel
theorem dX4_init_12 : decode cX4_init 12 = .ok (.putfield 12, 3) := by decide +kernel
theorem dX4_init_15 : decode cX4_init 15 = .ok (.aload_n 0, 1) := by decide +kernel
theorem dX4_init_16 : decode cX4_init 16 = .ok (.new 16, 3) := by decide +kernel
theorem dX4_init_19 : decode cX4_init 19 = .ok (.dup, 1) := by decide +kernel
theorem dX4_init_20 : decode cX4_init 20 = .ok (.aload_n 0, 1) := by decide +kernel
theorem dX4_init_21 : decode cX4_init 21 = .ok (.getfield 12, 3) := by decide +kernel
theorem dX4_init_24 : decode cX4_init 24 = .ok (.invokespecial 18, 3) := by decide +kernel
theorem dX4_init_27 : decode cX4_init 27 = .ok (.putfield 21, 3) := by decide +kernel
theorem dX4_init_30 : decode cX4_init 30 = .ok (.aload_n 0, 1) := by decide +kernel
theorem dX4_init_31 : decode cX4_init 31 = .ok (.new 25, 3) := by decide +kernel
theorem dX4_init_34 : decode cX4_init 34 = .ok (.dup, 1) := by decide +kernel
theorem dX4_init_35 : decode cX4_init 35 = .ok (.invokespecial 27, 3) := by decide +kernel
theorem dX4_init_38 : decode cX4_init 38 = .ok (.putfield 28, 3) := by decide +kernel
theorem dX4_init_41 : decode cX4_init 41 = .ok (.aload_n 0, 1) := by decide +kernel
theorem dX4_init_42 : decode cX4_init 42 = .ok (.new 25, 3) := by decide +kernel
theorem dX4_init_45 : decode cX4_init 45 = .ok (.dup, 1) := by decide +kernel
theorem dX4_init_46 : decode cX4_init 46 = .ok (.invokespecial 27, 3) := by decide +kernel
theorem dX4_init_49 : decode cX4_init 49 = .ok (.putfield 32, 3) := by decide +kernel
theorem dX4_init_52 : decode cX4_init 52 = .ok (.aload_n 0, 1) := by decide +kernel
theorem dX4_init_53 : decode cX4_init 53 = .ok (.iconst 5, 1) := by decide +kernel
theorem dX4_init_54 : decode cX4_init 54 = .ok (.putfield 35, 3) := by decide +kernel
theorem dX4_init_57 : decode cX4_init 57 = .ok (.aload_n 0, 1) := by decide +kernel
theorem dX4_init_58 : decode cX4_init 58 = .ok (.iconst 0, 1) := by decide +kernel
theorem dX4_init_59 : decode cX4_init 59 = .ok (.putfield 39, 3) := by decide +kernel
theorem dX4_init_62 : decode cX4_init 62 = .ok (.aload_n 0, 1) := by decide +kernel
theorem dX4_init_63 : decode cX4_init 63 = .ok (.iconst 0, 1) := by decide +kernel
theorem dX4_init_64 : decode cX4_init 64 = .ok (.putfield 42, 3) := by decide +kernel
theorem dX4_init_67 : decode cX4_init 67 = .ok (.return_, 1) := by decide +kernel
set_option maxRecDepth 20000 in
theorem ggX4_addChamber_X4_isWithin : GoodIn wsX4_addChamber wsX4_isWithin := goodIn_r _ [7] (by decide +kernel) (by decide +kernel)
set_option maxRecDepth 20000 in
theorem gX4_addChamber_X4_isWithin : GoodIn wsX4_addChamber (va_wsS RX4 45 yX4_isWithin wsX4_isWithin) := goodIn_app (goodIn_of _ (by decide +kernel)) ggX4_addChamber_X4_isWithin
set_option maxRecDepth 20000 in
theorem ggX4_addChamber_X4_requireArgument : GoodIn wsX4_addChamber wsX4_requireArgument := goodIn_ca (goodIn_r _ [10, 11, 12] (by decide +kernel) (by decide +kernel)) (goodIn_sub (fun _ h => List.mem_cons_of_mem _ (List.mem_append_right _ h)) (by decide +kernel))
set_option maxRecDepth 20000 in
theorem gX4_addChamber_X4_requireArgument : GoodIn wsX4_addChamber (va_wsS RX4 49 yX4_requireArgument wsX4_requireArgument) := goodIn_app (goodIn_of _ (by decide +kernel)) ggX4_addChamber_X4_requireArgument
set_option maxRecDepth 20000 in
theorem ggX4_addChamber_X0_findChamber : GoodIn wsX4_addChamber wsX0_findChamber := goodIn_r _ [17, 18, 19, 20, 21, 29, 30, 31, 32, 33, 34, 35, 36, 37, 38, 39, 40, 41, 42, 43] (by decide +kernel) (by decide +kernel)
set_option maxRecDepth 20000 in
theorem gX4_addChamber_X0_findChamber : GoodIn wsX4_addChamber (wsV RX4 63 RX0 yX0_findChamber wsX0_findChamber) := goodIn_app (goodIn_of _ (by decide +kernel)) ggX4_addChamber_X0_findChamber
theorem dX4_addChamber_0 : decode cX4_addChamber 0 = .ok (.iload_n 1, 1) := by decide +kernel
theorem dX4_addChamber_1 : decode cX4_addChamber 1 = .ok (.iconst 0, 1) := by decide +kernel
theorem dX4_addChamber_2 : decode cX4_addChamber 2 = .ok (.bipush 100, 2) := by decide +kernel
theorem dX4_addChamber_4 : decode cX4_addChamber 4 = .ok (.invokestatic 45, 3) := by decide +kernel
theorem dX4_addChamber_7 : decode cX4_addChamber 7 = .ok (.invokestatic 49, 3) := by decide +kernel
theorem dX4_addChamber_10 : decode cX4_addChamber 10 = .ok (.iload_n 2, 1) := by decide +kernel
theorem dX4_addChamber_11 : decode cX4_addChamber 11 = .ok (.iconst 0, 1) := by decide +kernel
theorem dX4_addChamber_12 : decode cX4_addChamber 12 = .ok (.bipush 30, 2) := by decide +kernel
theorem dX4_addChamber_14 : decode cX4_addChamber 14 = .ok (.invokestatic 45, 3) := by decide +kernel
theorem dX4_addChamber_17 : decode cX4_addChamber 17 = .ok (.invokestatic 49, 3) := by decide +kernel
theorem dX4_addChamber_20 : decode cX4_addChamber 20 = .ok (.iload_n 3, 1) := by decide +kernel
theorem dX4_addChamber_21 : decode cX4_addChamber 21 = .ok (.iconst 0, 1) := by decide +kernel
theorem dX4_addChamber_22 : decode cX4_addChamber 22 = .ok (.bipush 20, 2) := by decide +kernel
theorem dX4_addChamber_24 : decode cX4_addChamber 24 = .ok (.invokestatic 45, 3) := by decide +kernel
theorem dX4_addChamber_27 : decode cX4_addChamber 27 = .ok (.invokestatic 49, 3) := by decide +kernel
theorem dX4_addChamber_30 : decode cX4_addChamber 30 = .ok (.aload_n 0, 1) := by decide +kernel
theorem dX4_addChamber_31 : decode cX4_addChamber 31 = .ok (.getfield 12, 3) := by decide +kernel
theorem dX4_addChamber_34 : decode cX4_addChamber 34 = .ok (.getfield 53, 3) := by decide +kernel
theorem dX4_addChamber_37 : decode cX4_addChamber 37 = .ok (.bipush 12, 2) := by decide +kernel
theorem dX4_addChamber_39 : decode cX4_addChamber 39 = .ok (.if_icmp .lt 13, 3) := by decide +kernel
theorem dX4_addChamber_42 : decode cX4_addChamber 42 = .ok (.new 56, 3) := by decide +kernel
theorem dX4_addChamber_45 : decode cX4_addChamber 45 = .ok (.dup, 1) := by decide +kernel
theorem dX4_addChamber_46 : decode cX4_addChamber 46 = .ok (.ldc 58, 2) := by decide +kernel
theorem dX4_addChamber_48 : decode cX4_addChamber 48 = .ok (.invokespecial 60, 3) := by decide +kernel
theorem dX4_addChamber_51 : decode cX4_addChamber 51 = .ok (.athrow, 1) := by decide +kernel
theorem dX4_addChamber_52 : decode cX4_addChamber 52 = .ok (.aload_n 0, 1) := by decide +kernel
theorem dX4_addChamber_53 : decode cX4_addChamber 53 = .ok (.getfield 12, 3) := by decide +kernel
theorem dX4_addChamber_56 : decode cX4_addChamber 56 = .ok (.iload_n 1, 1) := by decide +kernel
theorem dX4_addChamber_57 : decode cX4_addChamber 57 = .ok (.iload_n 2, 1) := by decide +kernel
theorem dX4_addChamber_58 : decode cX4_addChamber 58 = .ok (.iload_n 3, 1) := by decide +kernel
theorem dX4_addChamber_59 : decode cX4_addChamber 59 = .ok (.invokevirtual 63, 3) := by decide +kernel
theorem dX4_addChamber_62 : decode cX4_addChamber 62 = .ok (.ireturn, 1) := by decide +kernel
set_option maxRecDepth 20000 in
theorem ggX4_addPassage_X0_hasChamber : GoodIn wsX4_addPassage wsX0_hasChamber := goodIn_r _ [8, 9, 10, 11, 12, 46, 47, 48, 49, 50, 51, 52, 53, 54, 55, 56, 57, 58, 59, 60] (by decide +kernel) (by decide +kernel)
set_option maxRecDepth 20000 in
theorem gX4_addPassage_X0_hasChamber : GoodIn wsX4_addPassage (wsV RX4 67 RX0 yX0_hasChamber wsX0_hasChamber) := goodIn_app (goodIn_of _ (by decide +kernel)) ggX4_addPassage_X0_hasChamber
set_option maxRecDepth 20000 in
theorem ggX4_addPassage_X4_requireIndex : GoodIn wsX4_addPassage wsX4_requireIndex := goodIn_ca (goodIn_r _ [15, 16, 17] (by decide +kernel) (by decide +kernel)) (goodIn_sub (fun _ h => List.mem_cons_of_mem _ (List.mem_append_left _ (List.mem_append_right _ h))) (by decide +kernel))
set_option maxRecDepth 20000 in
theorem gX4_addPassage_X4_requireIndex : GoodIn wsX4_addPassage (va_wsS RX4 71 yX4_requireIndex wsX4_requireIndex) := goodIn_app (goodIn_of _ (by decide +kernel)) ggX4_addPassage_X4_requireIndex
set_option maxRecDepth 20000 in
theorem ggX4_addPassage_X4_requireArgument : GoodIn wsX4_addPassage wsX4_requireArgument := goodIn_ca (goodIn_r _ [20, 21, 22] (by decide +kernel) (by decide +kernel)) (goodIn_sub (fun _ h => List.mem_cons_of_mem _ (List.mem_append_right _ h)) (by decide +kernel))
set_option maxRecDepth 20000 in
theorem gX4_addPassage_X4_requireArgument : GoodIn wsX4_addPassage (va_wsS RX4 49 yX4_requireArgument wsX4_requireArgument) := goodIn_app (goodIn_of _ (by decide +kernel)) ggX4_addPassage_X4_requireArgument
set_option maxRecDepth 20000 in
theorem ggX4_addPassage_X4_isWithin : GoodIn wsX4_addPassage wsX4_isWithin := goodIn_r _ [12] (by decide +kernel) (by decide +kernel)
set_option maxRecDepth 20000 in
theorem gX4_addPassage_X4_isWithin : GoodIn wsX4_addPassage (va_wsS RX4 45 yX4_isWithin wsX4_isWithin) := goodIn_app (goodIn_of _ (by decide +kernel)) ggX4_addPassage_X4_isWithin
set_option maxRecDepth 20000 in
theorem ggX4_addPassage_X0_findPassage : GoodIn wsX4_addPassage wsX0_findPassage := goodIn_r _ [27, 28, 29, 30, 31, 32, 33, 34, 35, 7, 36, 37, 38, 46, 47, 48, 49, 50, 51, 52, 53, 54, 55, 56, 57, 58, 59, 60] (by decide +kernel) (by decide +kernel)
set_option maxRecDepth 20000 in
theorem gX4_addPassage_X0_findPassage : GoodIn wsX4_addPassage (wsV RX4 79 RX0 yX0_findPassage wsX0_findPassage) := goodIn_app (goodIn_of _ (by decide +kernel)) ggX4_addPassage_X0_findPassage
theorem dX4_addPassage_0 : decode cX4_addPassage 0 = .ok (.aload_n 0, 1) := by decide +kernel
theorem dX4_addPassage_1 : decode cX4_addPassage 1 = .ok (.getfield 12, 3) := by decide +kernel
theorem dX4_addPassage_4 : decode cX4_addPassage 4 = .ok (.iload_n 1, 1) := by decide +kernel
theorem dX4_addPassage_5 : decode cX4_addPassage 5 = .ok (.invokevirtual 67, 3) := by decide +kernel
theorem dX4_addPassage_8 : decode cX4_addPassage 8 = .ok (.invokestatic 71, 3) := by decide +kernel
theorem dX4_addPassage_11 : decode cX4_addPassage 11 = .ok (.aload_n 0, 1) := by decide +kernel
theorem dX4_addPassage_12 : decode cX4_addPassage 12 = .ok (.getfield 12, 3) := by decide +kernel
theorem dX4_addPassage_15 : decode cX4_addPassage 15 = .ok (.iload_n 2, 1) := by decide +kernel
theorem dX4_addPassage_16 : decode cX4_addPassage 16 = .ok (.invokevirtual 67, 3) := by decide +kernel
theorem dX4_addPassage_19 : decode cX4_addPassage 19 = .ok (.invokestatic 71, 3) := by decide +kernel
theorem dX4_addPassage_22 : decode cX4_addPassage 22 = .ok (.iload_n 1, 1) := by decide +kernel
theorem dX4_addPassage_23 : decode cX4_addPassage 23 = .ok (.iload_n 2, 1) := by decide +kernel
theorem dX4_addPassage_24 : decode cX4_addPassage 24 = .ok (.if_icmp .eq 7, 3) := by decide +kernel
theorem dX4_addPassage_27 : decode cX4_addPassage 27 = .ok (.iconst 1, 1) := by decide +kernel
theorem dX4_addPassage_28 : decode cX4_addPassage 28 = .ok (.goto 4, 3) := by decide +kernel
theorem dX4_addPassage_31 : decode cX4_addPassage 31 = .ok (.iconst 0, 1) := by decide +kernel
theorem dX4_addPassage_32 : decode cX4_addPassage 32 = .ok (.invokestatic 49, 3) := by decide +kernel
theorem dX4_addPassage_35 : decode cX4_addPassage 35 = .ok (.iload_n 3, 1) := by decide +kernel
theorem dX4_addPassage_36 : decode cX4_addPassage 36 = .ok (.iconst 1, 1) := by decide +kernel
theorem dX4_addPassage_37 : decode cX4_addPassage 37 = .ok (.bipush 9, 2) := by decide +kernel
theorem dX4_addPassage_39 : decode cX4_addPassage 39 = .ok (.invokestatic 45, 3) := by decide +kernel
theorem dX4_addPassage_42 : decode cX4_addPassage 42 = .ok (.invokestatic 49, 3) := by decide +kernel
theorem dX4_addPassage_45 : decode cX4_addPassage 45 = .ok (.iload 4, 2) := by decide +kernel
theorem dX4_addPassage_47 : decode cX4_addPassage 47 = .ok (.iconst 0, 1) := by decide +kernel
theorem dX4_addPassage_48 : decode cX4_addPassage 48 = .ok (.bipush 9, 2) := by decide +kernel
theorem dX4_addPassage_50 : decode cX4_addPassage 50 = .ok (.invokestatic 45, 3) := by decide +kernel
theorem dX4_addPassage_53 : decode cX4_addPassage 53 = .ok (.invokestatic 49, 3) := by decide +kernel
theorem dX4_addPassage_56 : decode cX4_addPassage 56 = .ok (.aload_n 0, 1) := by decide +kernel
theorem dX4_addPassage_57 : decode cX4_addPassage 57 = .ok (.getfield 12, 3) := by decide +kernel
theorem dX4_addPassage_60 : decode cX4_addPassage 60 = .ok (.getfield 74, 3) := by decide +kernel
theorem dX4_addPassage_63 : decode cX4_addPassage 63 = .ok (.bipush 18, 2) := by decide +kernel
theorem dX4_addPassage_65 : decode cX4_addPassage 65 = .ok (.if_icmp .lt 13, 3) := by decide +kernel
theorem dX4_addPassage_68 : decode cX4_addPassage 68 = .ok (.new 56, 3) := by decide +kernel
theorem dX4_addPassage_71 : decode cX4_addPassage 71 = .ok (.dup, 1) := by decide +kernel
theorem dX4_addPassage_72 : decode cX4_addPassage 72 = .ok (.ldc 77, 2) := by decide +kernel
theorem dX4_addPassage_74 : decode cX4_addPassage 74 = .ok (.invokespecial 60, 3) := by decide +kernel
theorem dX4_addPassage_77 : decode cX4_addPassage 77 = .ok (.athrow, 1) := by decide +kernel
theorem dX4_addPassage_78 : decode cX4_addPassage 78 = .ok (.aload_n 0, 1) := by decide +kernel
theorem dX4_addPassage_79 : decode cX4_addPassage 79 = .ok (.getfield 12, 3) := by decide +kernel
theorem dX4_addPassage_82 : decode cX4_addPassage 82 = .ok (.iload_n 1, 1) := by decide +kernel
theorem dX4_addPassage_83 : decode cX4_addPassage 83 = .ok (.iload_n 2, 1) := by decide +kernel
theorem dX4_addPassage_84 : decode cX4_addPassage 84 = .ok (.iload_n 3, 1) := by decide +kernel
theorem dX4_addPassage_85 : decode cX4_addPassage 85 = .ok (.iload 4, 2) := by decide +kernel
theorem dX4_addPassage_87 : decode cX4_addPassage 87 = .ok (.invokevirtual 79, 3) := by decide +kernel
theorem dX4_addPassage_90 : decode cX4_addPassage 90 = .ok (.ireturn, 1) := by decide +kernel
set_option maxRecDepth 20000 in
theorem ggX4_setWater_X4_isWithin : GoodIn wsX4_setWater wsX4_isWithin := goodIn_r _ [5] (by decide +kernel) (by decide +kernel)
set_option maxRecDepth 20000 in
theorem gX4_setWater_X4_isWithin : GoodIn wsX4_setWater (va_wsS RX4 45 yX4_isWithin wsX4_isWithin) := goodIn_app (goodIn_of _ (by decide +kernel)) ggX4_setWater_X4_isWithin
set_option maxRecDepth 20000 in
theorem ggX4_setWater_X4_requireArgument : GoodIn wsX4_setWater wsX4_requireArgument := goodIn_ca (goodIn_r _ [8, 9, 10] (by decide +kernel) (by decide +kernel)) (goodIn_sub (fun _ h => List.mem_cons_of_mem _ (List.mem_append_right _ h)) (by decide +kernel))
set_option maxRecDepth 20000 in
theorem gX4_setWater_X4_requireArgument : GoodIn wsX4_setWater (va_wsS RX4 49 yX4_requireArgument wsX4_requireArgument) := goodIn_app (goodIn_of _ (by decide +kernel)) ggX4_setWater_X4_requireArgument
theorem dX4_setWater_0 : decode cX4_setWater 0 = .ok (.iload_n 1, 1) := by decide +kernel
theorem dX4_setWater_1 : decode cX4_setWater 1 = .ok (.iconst 0, 1) := by decide +kernel
theorem dX4_setWater_2 : decode cX4_setWater 2 = .ok (.bipush 30, 2) := by decide +kernel
theorem dX4_setWater_4 : decode cX4_setWater 4 = .ok (.invokestatic 45, 3) := by decide +kernel
theorem dX4_setWater_7 : decode cX4_setWater 7 = .ok (.invokestatic 49, 3) := by decide +kernel
theorem dX4_setWater_10 : decode cX4_setWater 10 = .ok (.aload_n 0, 1) := by decide +kernel
theorem dX4_setWater_11 : decode cX4_setWater 11 = .ok (.getfield 12, 3) := by decide +kernel
theorem dX4_setWater_14 : decode cX4_setWater 14 = .ok (.getfield 83, 3) := by decide +kernel
theorem dX4_setWater_17 : decode cX4_setWater 17 = .ok (.istore_n 2, 1) := by decide +kernel
theorem dX4_setWater_18 : decode cX4_setWater 18 = .ok (.aload_n 0, 1) := by decide +kernel
theorem dX4_setWater_19 : decode cX4_setWater 19 = .ok (.getfield 12, 3) := by decide +kernel
theorem dX4_setWater_22 : decode cX4_setWater 22 = .ok (.iload_n 1, 1) := by decide +kernel
theorem dX4_setWater_23 : decode cX4_setWater 23 = .ok (.putfield 83, 3) := by decide +kernel
theorem dX4_setWater_26 : decode cX4_setWater 26 = .ok (.iload_n 2, 1) := by decide +kernel
theorem dX4_setWater_27 : decode cX4_setWater 27 = .ok (.ireturn, 1) := by decide +kernel
set_option maxRecDepth 20000 in
theorem ggX4_setBats_X0_hasChamber : GoodIn wsX4_setBats wsX0_hasChamber := goodIn_r _ [6, 7, 8, 9, 10, 29, 30, 31, 32, 33, 34, 35, 36, 37, 38, 39, 40, 41, 42, 43] (by decide +kernel) (by decide +kernel)
set_option maxRecDepth 20000 in
theorem gX4_setBats_X0_hasChamber : GoodIn wsX4_setBats (wsV RX4 67 RX0 yX0_hasChamber wsX0_hasChamber) := goodIn_app (goodIn_of _ (by decide +kernel)) ggX4_setBats_X0_hasChamber
set_option maxRecDepth 20000 in
theorem ggX4_setBats_X4_requireIndex : GoodIn wsX4_setBats wsX4_requireIndex := goodIn_ca (goodIn_r _ [13, 14, 15] (by decide +kernel) (by decide +kernel)) (goodIn_sub (fun _ h => List.mem_cons_of_mem _ (List.mem_append_left _ (List.mem_append_right _ h))) (by decide +kernel))
set_option maxRecDepth 20000 in
theorem gX4_setBats_X4_requireIndex : GoodIn wsX4_setBats (va_wsS RX4 71 yX4_requireIndex wsX4_requireIndex) := goodIn_app (goodIn_of _ (by decide +kernel)) ggX4_setBats_X4_requireIndex
set_option maxRecDepth 20000 in
theorem ggX4_setBats_X4_isWithin : GoodIn wsX4_setBats wsX4_isWithin := goodIn_r _ [10] (by decide +kernel) (by decide +kernel)
set_option maxRecDepth 20000 in
theorem gX4_setBats_X4_isWithin : GoodIn wsX4_setBats (va_wsS RX4 45 yX4_isWithin wsX4_isWithin) := goodIn_app (goodIn_of _ (by decide +kernel)) ggX4_setBats_X4_isWithin
set_option maxRecDepth 20000 in
theorem ggX4_setBats_X4_requireArgument : GoodIn wsX4_setBats wsX4_requireArgument := goodIn_ca (goodIn_r _ [19, 20, 21] (by decide +kernel) (by decide +kernel)) (goodIn_sub (fun _ h => List.mem_cons_of_mem _ (List.mem_append_right _ h)) (by decide +kernel))
set_option maxRecDepth 20000 in
theorem gX4_setBats_X4_requireArgument : GoodIn wsX4_setBats (va_wsS RX4 49 yX4_requireArgument wsX4_requireArgument) := goodIn_app (goodIn_of _ (by decide +kernel)) ggX4_setBats_X4_requireArgument
theorem dX4_setBats_0 : decode cX4_setBats 0 = .ok (.aload_n 0, 1) := by decide +kernel
theorem dX4_setBats_1 : decode cX4_setBats 1 = .ok (.getfield 12, 3) := by decide +kernel
theorem dX4_setBats_4 : decode cX4_setBats 4 = .ok (.iload_n 1, 1) := by decide +kernel
theorem dX4_setBats_5 : decode cX4_setBats 5 = .ok (.invokevirtual 67, 3) := by decide +kernel
theorem dX4_setBats_8 : decode cX4_setBats 8 = .ok (.invokestatic 71, 3) := by decide +kernel
theorem dX4_setBats_11 : decode cX4_setBats 11 = .ok (.iload_n 2, 1) := by decide +kernel
theorem dX4_setBats_12 : decode cX4_setBats 12 = .ok (.iconst 0, 1) := by decide +kernel
theorem dX4_setBats_13 : decode cX4_setBats 13 = .ok (.bipush 20, 2) := by decide +kernel
theorem dX4_setBats_15 : decode cX4_setBats 15 = .ok (.invokestatic 45, 3) := by decide +kernel
theorem dX4_setBats_18 : decode cX4_setBats 18 = .ok (.invokestatic 49, 3) := by decide +kernel
theorem dX4_setBats_21 : decode cX4_setBats 21 = .ok (.aload_n 0, 1) := by decide +kernel
theorem dX4_setBats_22 : decode cX4_setBats 22 = .ok (.getfield 12, 3) := by decide +kernel
theorem dX4_setBats_25 : decode cX4_setBats 25 = .ok (.getfield 86, 3) := by decide +kernel
theorem dX4_setBats_28 : decode cX4_setBats 28 = .ok (.iload_n 1, 1) := by decide +kernel
theorem dX4_setBats_29 : decode cX4_setBats 29 = .ok (.iaload, 1) := by decide +kernel
theorem dX4_setBats_30 : decode cX4_setBats 30 = .ok (.istore_n 3, 1) := by decide +kernel
theorem dX4_setBats_31 : decode cX4_setBats 31 = .ok (.aload_n 0, 1) := by decide +kernel
theorem dX4_setBats_32 : decode cX4_setBats 32 = .ok (.getfield 12, 3) := by decide +kernel
theorem dX4_setBats_35 : decode cX4_setBats 35 = .ok (.getfield 86, 3) := by decide +kernel
theorem dX4_setBats_38 : decode cX4_setBats 38 = .ok (.iload_n 1, 1) := by decide +kernel
theorem dX4_setBats_39 : decode cX4_setBats 39 = .ok (.iload_n 2, 1) := by decide +kernel
theorem dX4_setBats_40 : decode cX4_setBats 40 = .ok (.iastore, 1) := by decide +kernel
theorem dX4_setBats_41 : decode cX4_setBats 41 = .ok (.iload_n 3, 1) := by decide +kernel
theorem dX4_setBats_42 : decode cX4_setBats 42 = .ok (.ireturn, 1) := by decide +kernel
set_option maxRecDepth 20000 in
theorem ggX4_setClapper_X0_hasChamber : GoodIn wsX4_setClapper wsX0_hasChamber := goodIn_r _ [6, 7, 8, 9, 10, 35, 36, 37, 38, 39, 40, 41, 42, 43, 44, 45, 46, 47, 48, 49] (by decide +kernel) (by decide +kernel)
set_option maxRecDepth 20000 in
theorem gX4_setClapper_X0_hasChamber : GoodIn wsX4_setClapper (wsV RX4 67 RX0 yX0_hasChamber wsX0_hasChamber) := goodIn_app (goodIn_of _ (by decide +kernel)) ggX4_setClapper_X0_hasChamber
set_option maxRecDepth 20000 in
theorem ggX4_setClapper_X4_requireIndex : GoodIn wsX4_setClapper wsX4_requireIndex := goodIn_ca (goodIn_r _ [13, 14, 15] (by decide +kernel) (by decide +kernel)) (goodIn_sub (fun _ h => List.mem_cons_of_mem _ (List.mem_append_left _ (List.mem_append_right _ h))) (by decide +kernel))
set_option maxRecDepth 20000 in
theorem gX4_setClapper_X4_requireIndex : GoodIn wsX4_setClapper (va_wsS RX4 71 yX4_requireIndex wsX4_requireIndex) := goodIn_app (goodIn_of _ (by decide +kernel)) ggX4_setClapper_X4_requireIndex
set_option maxRecDepth 20000 in
theorem ggX4_setClapper_X4_requireArgument : GoodIn wsX4_setClapper wsX4_requireArgument := goodIn_ca (goodIn_r _ [18, 19, 20] (by decide +kernel) (by decide +kernel)) (goodIn_sub (fun _ h => List.mem_cons_of_mem _ (List.mem_append_right _ h)) (by decide +kernel))
set_option maxRecDepth 20000 in
theorem gX4_setClapper_X4_requireArgument : GoodIn wsX4_setClapper (va_wsS RX4 49 yX4_requireArgument wsX4_requireArgument) := goodIn_app (goodIn_of _ (by decide +kernel)) ggX4_setClapper_X4_requireArgument
set_option maxRecDepth 20000 in
theorem ggX4_setClapper_X4_isWithin : GoodIn wsX4_setClapper wsX4_isWithin := goodIn_r _ [10] (by decide +kernel) (by decide +kernel)
set_option maxRecDepth 20000 in
theorem gX4_setClapper_X4_isWithin : GoodIn wsX4_setClapper (va_wsS RX4 45 yX4_isWithin wsX4_isWithin) := goodIn_app (goodIn_of _ (by decide +kernel)) ggX4_setClapper_X4_isWithin
set_option maxRecDepth 20000 in
theorem ggX4_setClapper_X0_putClapper : GoodIn wsX4_setClapper wsX0_putClapper := goodIn_r _ [25, 26, 27, 35, 36, 37, 38, 39, 40, 41, 42, 43, 44, 45, 46, 47, 48, 49] (by decide +kernel) (by decide +kernel)
set_option maxRecDepth 20000 in
theorem gX4_setClapper_X0_putClapper : GoodIn wsX4_setClapper (wsV RX4 93 RX0 yX0_putClapper wsX0_putClapper) := goodIn_app (goodIn_of _ (by decide +kernel)) ggX4_setClapper_X0_putClapper
theorem dX4_setClapper_0 : decode cX4_setClapper 0 = .ok (.aload_n 0, 1) := by decide +kernel
theorem dX4_setClapper_1 : decode cX4_setClapper 1 = .ok (.getfield 12, 3) := by decide +kernel
theorem dX4_setClapper_4 : decode cX4_setClapper 4 = .ok (.iload_n 1, 1) := by decide +kernel
theorem dX4_setClapper_5 : decode cX4_setClapper 5 = .ok (.invokevirtual 67, 3) := by decide +kernel
theorem dX4_setClapper_8 : decode cX4_setClapper 8 = .ok (.invokestatic 71, 3) := by decide +kernel
theorem dX4_setClapper_11 : decode cX4_setClapper 11 = .ok (.iload_n 1, 1) := by decide +kernel
theorem dX4_setClapper_12 : decode cX4_setClapper 12 = .ok (.ifCond .eq 7, 3) := by decide +kernel
theorem dX4_setClapper_15 : decode cX4_setClapper 15 = .ok (.iconst 1, 1) := by decide +kernel
theorem dX4_setClapper_16 : decode cX4_setClapper 16 = .ok (.goto 4, 3) := by decide +kernel
theorem dX4_setClapper_19 : decode cX4_setClapper 19 = .ok (.iconst 0, 1) := by decide +kernel
theorem dX4_setClapper_20 : decode cX4_setClapper 20 = .ok (.invokestatic 49, 3) := by decide +kernel
theorem dX4_setClapper_23 : decode cX4_setClapper 23 = .ok (.iload_n 2, 1) := by decide +kernel
theorem dX4_setClapper_24 : decode cX4_setClapper 24 = .ok (.iconst 0, 1) := by decide +kernel
theorem dX4_setClapper_25 : decode cX4_setClapper 25 = .ok (.bipush 9, 2) := by decide +kernel
theorem dX4_setClapper_27 : decode cX4_setClapper 27 = .ok (.invokestatic 45, 3) := by decide +kernel
theorem dX4_setClapper_30 : decode cX4_setClapper 30 = .ok (.invokestatic 49, 3) := by decide +kernel
theorem dX4_setClapper_33 : decode cX4_setClapper 33 = .ok (.iload_n 3, 1) := by decide +kernel
theorem dX4_setClapper_34 : decode cX4_setClapper 34 = .ok (.iconst 0, 1) := by decide +kernel
theorem dX4_setClapper_35 : decode cX4_setClapper 35 = .ok (.bipush 20, 2) := by decide +kernel
theorem dX4_setClapper_37 : decode cX4_setClapper 37 = .ok (.invokestatic 45, 3) := by decide +kernel
theorem dX4_setClapper_40 : decode cX4_setClapper 40 = .ok (.invokestatic 49, 3) := by decide +kernel
theorem dX4_setClapper_43 : decode cX4_setClapper 43 = .ok (.aload_n 0, 1) := by decide +kernel
theorem dX4_setClapper_44 : decode cX4_setClapper 44 = .ok (.getfield 12, 3) := by decide +kernel
theorem dX4_setClapper_47 : decode cX4_setClapper 47 = .ok (.getfield 90, 3) := by decide +kernel
theorem dX4_setClapper_50 : decode cX4_setClapper 50 = .ok (.iload_n 1, 1) := by decide +kernel
theorem dX4_setClapper_51 : decode cX4_setClapper 51 = .ok (.iaload, 1) := by decide +kernel
theorem dX4_setClapper_52 : decode cX4_setClapper 52 = .ok (.istore 4, 2) := by decide +kernel
theorem dX4_setClapper_54 : decode cX4_setClapper 54 = .ok (.aload_n 0, 1) := by decide +kernel
theorem dX4_setClapper_55 : decode cX4_setClapper 55 = .ok (.getfield 12, 3) := by decide +kernel
theorem dX4_setClapper_58 : decode cX4_setClapper 58 = .ok (.iload_n 1, 1) := by decide +kernel
theorem dX4_setClapper_59 : decode cX4_setClapper 59 = .ok (.iload_n 2, 1) := by decide +kernel
theorem dX4_setClapper_60 : decode cX4_setClapper 60 = .ok (.iload_n 3, 1) := by decide +kernel
theorem dX4_setClapper_61 : decode cX4_setClapper 61 = .ok (.invokevirtual 93, 3) := by decide +kernel
theorem dX4_setClapper_64 : decode cX4_setClapper 64 = .ok (.iload 4, 2) := by decide +kernel
theorem dX4_setClapper_66 : decode cX4_setClapper 66 = .ok (.ireturn, 1) := by decide +kernel
set_option maxRecDepth 20000 in
theorem ggX4_setEar_X4_isWithin : GoodIn wsX4_setEar wsX4_isWithin := goodIn_r _ [5] (by decide +kernel) (by decide +kernel)
set_option maxRecDepth 20000 in
theorem gX4_setEar_X4_isWithin : GoodIn wsX4_setEar (va_wsS RX4 45 yX4_isWithin wsX4_isWithin) := goodIn_app (goodIn_of _ (by decide +kernel)) ggX4_setEar_X4_isWithin
set_option maxRecDepth 20000 in
theorem ggX4_setEar_X4_requireArgument : GoodIn wsX4_setEar wsX4_requireArgument := goodIn_ca (goodIn_r _ [8, 9, 10] (by decide +kernel) (by decide +kernel)) (goodIn_sub (fun _ h => List.mem_cons_of_mem _ (List.mem_append_right _ h)) (by decide +kernel))
set_option maxRecDepth 20000 in
theorem gX4_setEar_X4_requireArgument : GoodIn wsX4_setEar (va_wsS RX4 49 yX4_requireArgument wsX4_requireArgument) := goodIn_app (goodIn_of _ (by decide +kernel)) ggX4_setEar_X4_requireArgument
theorem dX4_setEar_0 : decode cX4_setEar 0 = .ok (.iload_n 1, 1) := by decide +kernel
theorem dX4_setEar_1 : decode cX4_setEar 1 = .ok (.iconst 1, 1) := by decide +kernel
theorem dX4_setEar_2 : decode cX4_setEar 2 = .ok (.bipush 50, 2) := by decide +kernel
theorem dX4_setEar_4 : decode cX4_setEar 4 = .ok (.invokestatic 45, 3) := by decide +kernel
theorem dX4_setEar_7 : decode cX4_setEar 7 = .ok (.invokestatic 49, 3) := by decide +kernel
theorem dX4_setEar_10 : decode cX4_setEar 10 = .ok (.aload_n 0, 1) := by decide +kernel
theorem dX4_setEar_11 : decode cX4_setEar 11 = .ok (.getfield 35, 3) := by decide +kernel
theorem dX4_setEar_14 : decode cX4_setEar 14 = .ok (.istore_n 2, 1) := by decide +kernel
theorem dX4_setEar_15 : decode cX4_setEar 15 = .ok (.aload_n 0, 1) := by decide +kernel
theorem dX4_setEar_16 : decode cX4_setEar 16 = .ok (.iload_n 1, 1) := by decide +kernel
theorem dX4_setEar_17 : decode cX4_setEar 17 = .ok (.putfield 35, 3) := by decide +kernel
theorem dX4_setEar_20 : decode cX4_setEar 20 = .ok (.iload_n 2, 1) := by decide +kernel
theorem dX4_setEar_21 : decode cX4_setEar 21 = .ok (.ireturn, 1) := by decide +kernel
set_option maxRecDepth 20000 in
theorem ggX4_chamber_X0_hasChamber : GoodIn wsX4_chamber wsX0_hasChamber := goodIn_r _ [6, 7, 8, 9, 10, 46, 47, 48, 49, 50, 51, 52, 53, 54, 55, 56, 57, 58, 59, 60] (by decide +kernel) (by decide +kernel)
set_option maxRecDepth 20000 in
theorem gX4_chamber_X0_hasChamber : GoodIn wsX4_chamber (wsV RX4 67 RX0 yX0_hasChamber wsX0_hasChamber) := goodIn_app (goodIn_of _ (by decide +kernel)) ggX4_chamber_X0_hasChamber
set_option maxRecDepth 20000 in
theorem ggX4_chamber_X4_requireIndex : GoodIn wsX4_chamber wsX4_requireIndex := goodIn_ca (goodIn_r _ [13, 14, 15] (by decide +kernel) (by decide +kernel)) (goodIn_sub (fun _ h => List.mem_cons_of_mem _ (List.mem_append_right _ h)) (by decide +kernel))
set_option maxRecDepth 20000 in
theorem gX4_chamber_X4_requireIndex : GoodIn wsX4_chamber (va_wsS RX4 71 yX4_requireIndex wsX4_requireIndex) := goodIn_app (goodIn_of _ (by decide +kernel)) ggX4_chamber_X4_requireIndex
set_option maxRecDepth 20000 in
theorem ggX4_chamber_X4_isWithin : GoodIn wsX4_chamber wsX4_isWithin := goodIn_r _ [10] (by decide +kernel) (by decide +kernel)
set_option maxRecDepth 20000 in
theorem gX4_chamber_X4_isWithin : GoodIn wsX4_chamber (va_wsS RX4 45 yX4_isWithin wsX4_isWithin) := goodIn_app (goodIn_of _ (by decide +kernel)) ggX4_chamber_X4_isWithin
set_option maxRecDepth 20000 in
theorem ggX4_chamber_X0_chamberFact : GoodIn wsX4_chamber wsX0_chamberFact := goodIn_r _ [20, 21, 22, 23, 24, 25, 26, 27, 28, 29, 5, 30, 31, 32, 33, 34, 35, 36, 37, 38, 46, 47, 48, 49, 50, 51, 52, 53, 54, 55, 56, 57, 58, 59, 60] (by decide +kernel) (by decide +kernel)
set_option maxRecDepth 20000 in
theorem gX4_chamber_X0_chamberFact : GoodIn wsX4_chamber (wsV RX4 97 RX0 yX0_chamberFact wsX0_chamberFact) := goodIn_app (goodIn_of _ (by decide +kernel)) ggX4_chamber_X0_chamberFact
theorem dX4_chamber_0 : decode cX4_chamber 0 = .ok (.aload_n 0, 1) := by decide +kernel
theorem dX4_chamber_1 : decode cX4_chamber 1 = .ok (.getfield 12, 3) := by decide +kernel
theorem dX4_chamber_4 : decode cX4_chamber 4 = .ok (.iload_n 1, 1) := by decide +kernel
theorem dX4_chamber_5 : decode cX4_chamber 5 = .ok (.invokevirtual 67, 3) := by decide +kernel
theorem dX4_chamber_8 : decode cX4_chamber 8 = .ok (.invokestatic 71, 3) := by decide +kernel
theorem dX4_chamber_11 : decode cX4_chamber 11 = .ok (.iload_n 2, 1) := by decide +kernel
theorem dX4_chamber_12 : decode cX4_chamber 12 = .ok (.iconst 0, 1) := by decide +kernel
theorem dX4_chamber_13 : decode cX4_chamber 13 = .ok (.bipush 6, 2) := by decide +kernel
theorem dX4_chamber_15 : decode cX4_chamber 15 = .ok (.invokestatic 45, 3) := by decide +kernel
theorem dX4_chamber_18 : decode cX4_chamber 18 = .ok (.invokestatic 71, 3) := by decide +kernel
theorem dX4_chamber_21 : decode cX4_chamber 21 = .ok (.aload_n 0, 1) := by decide +kernel
theorem dX4_chamber_22 : decode cX4_chamber 22 = .ok (.getfield 12, 3) := by decide +kernel
theorem dX4_chamber_25 : decode cX4_chamber 25 = .ok (.iload_n 1, 1) := by decide +kernel
theorem dX4_chamber_26 : decode cX4_chamber 26 = .ok (.iload_n 2, 1) := by decide +kernel
theorem dX4_chamber_27 : decode cX4_chamber 27 = .ok (.invokevirtual 97, 3) := by decide +kernel
theorem dX4_chamber_30 : decode cX4_chamber 30 = .ok (.ireturn, 1) := by decide +kernel
set_option maxRecDepth 20000 in
theorem ggX4_passage_X0_hasPassage : GoodIn wsX4_passage wsX0_hasPassage := goodIn_r _ [6, 7, 8, 9, 10, 38, 39, 40, 41, 42, 43, 44, 45, 46, 47, 48, 49, 50, 51, 52] (by decide +kernel) (by decide +kernel)
set_option maxRecDepth 20000 in
theorem gX4_passage_X0_hasPassage : GoodIn wsX4_passage (wsV RX4 101 RX0 yX0_hasPassage wsX0_hasPassage) := goodIn_app (goodIn_of _ (by decide +kernel)) ggX4_passage_X0_hasPassage
set_option maxRecDepth 20000 in
theorem ggX4_passage_X4_requireIndex : GoodIn wsX4_passage wsX4_requireIndex := goodIn_ca (goodIn_r _ [13, 14, 15] (by decide +kernel) (by decide +kernel)) (goodIn_sub (fun _ h => List.mem_cons_of_mem _ (List.mem_append_right _ h)) (by decide +kernel))
set_option maxRecDepth 20000 in
theorem gX4_passage_X4_requireIndex : GoodIn wsX4_passage (va_wsS RX4 71 yX4_requireIndex wsX4_requireIndex) := goodIn_app (goodIn_of _ (by decide +kernel)) ggX4_passage_X4_requireIndex
set_option maxRecDepth 20000 in
theorem ggX4_passage_X4_isWithin : GoodIn wsX4_passage wsX4_isWithin := goodIn_r _ [10] (by decide +kernel) (by decide +kernel)
set_option maxRecDepth 20000 in
theorem gX4_passage_X4_isWithin : GoodIn wsX4_passage (va_wsS RX4 45 yX4_isWithin wsX4_isWithin) := goodIn_app (goodIn_of _ (by decide +kernel)) ggX4_passage_X4_isWithin
set_option maxRecDepth 20000 in
theorem ggX4_passage_X0_passageFact : GoodIn wsX4_passage wsX0_passageFact := goodIn_r _ [20, 21, 22, 23, 24, 25, 26, 27, 5, 28, 29, 30, 38, 39, 40, 41, 42, 43, 44, 45, 46, 47, 48, 49, 50, 51, 52] (by decide +kernel) (by decide +kernel)
set_option maxRecDepth 20000 in
theorem gX4_passage_X0_passageFact : GoodIn wsX4_passage (wsV RX4 104 RX0 yX0_passageFact wsX0_passageFact) := goodIn_app (goodIn_of _ (by decide +kernel)) ggX4_passage_X0_passageFact
theorem dX4_passage_0 : decode cX4_passage 0 = .ok (.aload_n 0, 1) := by decide +kernel
theorem dX4_passage_1 : decode cX4_passage 1 = .ok (.getfield 12, 3) := by decide +kernel
theorem dX4_passage_4 : decode cX4_passage 4 = .ok (.iload_n 1, 1) := by decide +kernel
theorem dX4_passage_5 : decode cX4_passage 5 = .ok (.invokevirtual 101, 3) := by decide +kernel
theorem dX4_passage_8 : decode cX4_passage 8 = .ok (.invokestatic 71, 3) := by decide +kernel
theorem dX4_passage_11 : decode cX4_passage 11 = .ok (.iload_n 2, 1) := by decide +kernel
theorem dX4_passage_12 : decode cX4_passage 12 = .ok (.iconst 0, 1) := by decide +kernel
theorem dX4_passage_13 : decode cX4_passage 13 = .ok (.iconst 4, 1) := by decide +kernel
theorem dX4_passage_14 : decode cX4_passage 14 = .ok (.invokestatic 45, 3) := by decide +kernel
theorem dX4_passage_17 : decode cX4_passage 17 = .ok (.invokestatic 71, 3) := by decide +kernel
theorem dX4_passage_20 : decode cX4_passage 20 = .ok (.aload_n 0, 1) := by decide +kernel
theorem dX4_passage_21 : decode cX4_passage 21 = .ok (.getfield 12, 3) := by decide +kernel
theorem dX4_passage_24 : decode cX4_passage 24 = .ok (.iload_n 1, 1) := by decide +kernel
theorem dX4_passage_25 : decode cX4_passage 25 = .ok (.iload_n 2, 1) := by decide +kernel
theorem dX4_passage_26 : decode cX4_passage 26 = .ok (.invokevirtual 104, 3) := by decide +kernel
theorem dX4_passage_29 : decode cX4_passage 29 = .ok (.ireturn, 1) := by decide +kernel
set_option maxRecDepth 20000 in
theorem ggX4_say_X4_requireWordAndBeat : GoodIn wsX4_say wsX4_requireWordAndBeat := goodIn_ca (goodIn_r _ [9, 10, 11, 8, 12, 13, 14, 15, 16, 17, 18, 19, 20, 21] (by decide +kernel) (by decide +kernel)) (goodIn_sub (fun _ h => List.mem_cons_of_mem _ (List.mem_append_right _ h)) (by decide +kernel))
set_option maxRecDepth 20000 in
theorem gX4_say_X4_requireWordAndBeat : GoodIn wsX4_say (va_wsS RX4 107 yX4_requireWordAndBeat wsX4_requireWordAndBeat) := goodIn_app (goodIn_of _ (by decide +kernel)) ggX4_say_X4_requireWordAndBeat
set_option maxRecDepth 20000 in
theorem ggX4_say_X3_runThrough : GoodIn wsX4_say wsX3_runThrough := goodIn_r _ [26, 27, 28, 8, 29, 30, 31, 32, 33, 34, 35, 36, 37, 38, 39, 40, 41, 42, 43, 44, 45, 46, 47, 48, 25, 49, 50, 51, 52, 53, 54, 55, 56, 57, 58, 59, 60, 61, 62, 63, 64, 65, 66, 67, 68, 69, 70, 71, 72, 73, 74, 75, 76, 77, 78, 79, 80, 81, 82, 83, 84, 85, 86, 87, 88, 89, 90, 91, 92, 93, 94, 95, 96, 97, 98, 99, 100, 101, 102, 103, 104, 105, 106, 107, 108, 109, 110, 15, 16, 111, 112, 113, 114, 115, 116, 117, 118, 119, 120, 121, 122, 123, 124, 125, 126, 127, 128, 129, 130, 131, 132, 133, 134, 135, 136, 137, 138, 139, 140, 141, 142, 143, 144, 145, 146, 147, 148, 149, 150, 151, 152, 153, 154, 155, 156, 157, 158, 174, 175, 176, 177, 178, 179, 180, 166, 167, 168, 169, 170, 171, 172, 173, 181, 182, 183, 184, 185, 186, 187, 188, 189, 190, 191, 192, 193, 194, 195, 196, 197] (by decide +kernel) (by decide +kernel)
set_option maxRecDepth 20000 in
theorem gX4_say_X3_runThrough : GoodIn wsX4_say (wsV RX4 111 RX3 yX3_runThrough wsX3_runThrough) := goodIn_app (goodIn_of _ (by decide +kernel)) ggX4_say_X3_runThrough
theorem dX4_say_0 : decode cX4_say 0 = .ok (.iload_n 1, 1) := by decide +kernel
theorem dX4_say_1 : decode cX4_say 1 = .ok (.iload_n 2, 1) := by decide +kernel
theorem dX4_say_2 : decode cX4_say 2 = .ok (.invokestatic 107, 3) := by decide +kernel
theorem dX4_say_5 : decode cX4_say 5 = .ok (.aload_n 0, 1) := by decide +kernel
theorem dX4_say_6 : decode cX4_say 6 = .ok (.getfield 21, 3) := by decide +kernel
theorem dX4_say_9 : decode cX4_say 9 = .ok (.iload_n 1, 1) := by decide +kernel
theorem dX4_say_10 : decode cX4_say 10 = .ok (.iload_n 2, 1) := by decide +kernel
theorem dX4_say_11 : decode cX4_say 11 = .ok (.aload_n 0, 1) := by decide +kernel
theorem dX4_say_12 : decode cX4_say 12 = .ok (.getfield 35, 3) := by decide +kernel
theorem dX4_say_15 : decode cX4_say 15 = .ok (.aload_n 0, 1) := by decide +kernel
theorem dX4_say_16 : decode cX4_say 16 = .ok (.getfield 28, 3) := by decide +kernel
theorem dX4_say_19 : decode cX4_say 19 = .ok (.invokevirtual 111, 3) := by decide +kernel
theorem dX4_say_22 : decode cX4_say 22 = .ok (.aload_n 0, 1) := by decide +kernel
theorem dX4_say_23 : decode cX4_say 23 = .ok (.dup, 1) := by decide +kernel
theorem dX4_say_24 : decode cX4_say 24 = .ok (.getfield 39, 3) := by decide +kernel
theorem dX4_say_27 : decode cX4_say 27 = .ok (.iconst 1, 1) := by decide +kernel
theorem dX4_say_28 : decode cX4_say 28 = .ok (.iadd, 1) := by decide +kernel
theorem dX4_say_29 : decode cX4_say 29 = .ok (.putfield 39, 3) := by decide +kernel
theorem dX4_say_32 : decode cX4_say 32 = .ok (.aload_n 0, 1) := by decide +kernel
theorem dX4_say_33 : decode cX4_say 33 = .ok (.iload_n 1, 1) := by decide +kernel
theorem dX4_say_34 : decode cX4_say 34 = .ok (.putfield 42, 3) := by decide +kernel
theorem dX4_say_37 : decode cX4_say 37 = .ok (.aload_n 0, 1) := by decide +kernel
theorem dX4_say_38 : decode cX4_say 38 = .ok (.getfield 28, 3) := by decide +kernel
theorem dX4_say_41 : decode cX4_say 41 = .ok (.getfield 115, 3) := by decide +kernel
theorem dX4_say_44 : decode cX4_say 44 = .ok (.ireturn, 1) := by decide +kernel
set_option maxRecDepth 20000 in
theorem ggX4_heard_X4_isWithin : GoodIn wsX4_heard wsX4_isWithin := goodIn_r _ [5] (by decide +kernel) (by decide +kernel)
set_option maxRecDepth 20000 in
theorem gX4_heard_X4_isWithin : GoodIn wsX4_heard (va_wsS RX4 45 yX4_isWithin wsX4_isWithin) := goodIn_app (goodIn_of _ (by decide +kernel)) ggX4_heard_X4_isWithin
set_option maxRecDepth 20000 in
theorem ggX4_heard_X4_requireIndex : GoodIn wsX4_heard wsX4_requireIndex := goodIn_ca (goodIn_r _ [8, 9, 10] (by decide +kernel) (by decide +kernel)) (goodIn_sub (fun _ h => List.mem_cons_of_mem _ (List.mem_append_right _ h)) (by decide +kernel))
set_option maxRecDepth 20000 in
theorem gX4_heard_X4_requireIndex : GoodIn wsX4_heard (va_wsS RX4 71 yX4_requireIndex wsX4_requireIndex) := goodIn_app (goodIn_of _ (by decide +kernel)) ggX4_heard_X4_requireIndex
set_option maxRecDepth 20000 in
theorem ggX4_heard_X2_heardFact : GoodIn wsX4_heard wsX2_heardFact := goodIn_r _ [15, 16, 24, 25, 26, 27, 28, 29, 30, 31] (by decide +kernel) (by decide +kernel)
set_option maxRecDepth 20000 in
theorem gX4_heard_X2_heardFact : GoodIn wsX4_heard (wsV RX4 121 RX2 yX2_heardFact wsX2_heardFact) := goodIn_app (goodIn_of _ (by decide +kernel)) ggX4_heard_X2_heardFact
theorem dX4_heard_0 : decode cX4_heard 0 = .ok (.iload_n 1, 1) := by decide +kernel
theorem dX4_heard_1 : decode cX4_heard 1 = .ok (.iconst 0, 1) := by decide +kernel
theorem dX4_heard_2 : decode cX4_heard 2 = .ok (.aload_n 0, 1) := by decide +kernel
theorem dX4_heard_3 : decode cX4_heard 3 = .ok (.getfield 28, 3) := by decide +kernel
theorem dX4_heard_6 : decode cX4_heard 6 = .ok (.getfield 118, 3) := by decide +kernel
theorem dX4_heard_9 : decode cX4_heard 9 = .ok (.iconst 1, 1) := by decide +kernel
theorem dX4_heard_10 : decode cX4_heard 10 = .ok (.isub, 1) := by decide +kernel
theorem dX4_heard_11 : decode cX4_heard 11 = .ok (.invokestatic 45, 3) := by decide +kernel
theorem dX4_heard_14 : decode cX4_heard 14 = .ok (.invokestatic 71, 3) := by decide +kernel
theorem dX4_heard_17 : decode cX4_heard 17 = .ok (.iload_n 2, 1) := by decide +kernel
theorem dX4_heard_18 : decode cX4_heard 18 = .ok (.iconst 0, 1) := by decide +kernel
theorem dX4_heard_19 : decode cX4_heard 19 = .ok (.iconst 4, 1) := by decide +kernel
theorem dX4_heard_20 : decode cX4_heard 20 = .ok (.invokestatic 45, 3) := by decide +kernel
theorem dX4_heard_23 : decode cX4_heard 23 = .ok (.invokestatic 71, 3) := by decide +kernel
theorem dX4_heard_26 : decode cX4_heard 26 = .ok (.aload_n 0, 1) := by decide +kernel
theorem dX4_heard_27 : decode cX4_heard 27 = .ok (.getfield 28, 3) := by decide +kernel
theorem dX4_heard_30 : decode cX4_heard 30 = .ok (.iload_n 1, 1) := by decide +kernel
theorem dX4_heard_31 : decode cX4_heard 31 = .ok (.iload_n 2, 1) := by decide +kernel
theorem dX4_heard_32 : decode cX4_heard 32 = .ok (.invokevirtual 121, 3) := by decide +kernel
theorem dX4_heard_35 : decode cX4_heard 35 = .ok (.ireturn, 1) := by decide +kernel
set_option maxRecDepth 20000 in
theorem ggX4_inOrder_X2_cameInOrder : GoodIn wsX4_inOrder wsX2_cameInOrder := goodIn_r _ [6, 7, 8, 16, 17, 18, 19, 20, 21, 22, 23] (by decide +kernel) (by decide +kernel)
set_option maxRecDepth 20000 in
theorem gX4_inOrder_X2_cameInOrder : GoodIn wsX4_inOrder (wsV RX4 124 RX2 yX2_cameInOrder wsX2_cameInOrder) := goodIn_app (goodIn_of _ (by decide +kernel)) ggX4_inOrder_X2_cameInOrder
theorem dX4_inOrder_0 : decode cX4_inOrder 0 = .ok (.aload_n 0, 1) := by decide +kernel
theorem dX4_inOrder_1 : decode cX4_inOrder 1 = .ok (.getfield 28, 3) := by decide +kernel
theorem dX4_inOrder_4 : decode cX4_inOrder 4 = .ok (.invokevirtual 124, 3) := by decide +kernel
theorem dX4_inOrder_7 : decode cX4_inOrder 7 = .ok (.ireturn, 1) := by decide +kernel
set_option maxRecDepth 20000 in
theorem ggX4_first_X4_isWithin : GoodIn wsX4_first wsX4_isWithin := goodIn_r _ [5] (by decide +kernel) (by decide +kernel)
set_option maxRecDepth 20000 in
theorem gX4_first_X4_isWithin : GoodIn wsX4_first (va_wsS RX4 45 yX4_isWithin wsX4_isWithin) := goodIn_app (goodIn_of _ (by decide +kernel)) ggX4_first_X4_isWithin
set_option maxRecDepth 20000 in
theorem ggX4_first_X4_requireIndex : GoodIn wsX4_first wsX4_requireIndex := goodIn_ca (goodIn_r _ [8, 9, 10] (by decide +kernel) (by decide +kernel)) (goodIn_sub (fun _ h => List.mem_cons_of_mem _ (List.mem_append_right _ h)) (by decide +kernel))
set_option maxRecDepth 20000 in
theorem gX4_first_X4_requireIndex : GoodIn wsX4_first (va_wsS RX4 71 yX4_requireIndex wsX4_requireIndex) := goodIn_app (goodIn_of _ (by decide +kernel)) ggX4_first_X4_requireIndex
theorem dX4_first_0 : decode cX4_first 0 = .ok (.iload_n 1, 1) := by decide +kernel
theorem dX4_first_1 : decode cX4_first 1 = .ok (.iconst 0, 1) := by decide +kernel
theorem dX4_first_2 : decode cX4_first 2 = .ok (.aload_n 0, 1) := by decide +kernel
theorem dX4_first_3 : decode cX4_first 3 = .ok (.getfield 28, 3) := by decide +kernel
theorem dX4_first_6 : decode cX4_first 6 = .ok (.getfield 128, 3) := by decide +kernel
theorem dX4_first_9 : decode cX4_first 9 = .ok (.iconst 1, 1) := by decide +kernel
theorem dX4_first_10 : decode cX4_first 10 = .ok (.isub, 1) := by decide +kernel
theorem dX4_first_11 : decode cX4_first 11 = .ok (.invokestatic 45, 3) := by decide +kernel
theorem dX4_first_14 : decode cX4_first 14 = .ok (.invokestatic 71, 3) := by decide +kernel
theorem dX4_first_17 : decode cX4_first 17 = .ok (.aload_n 0, 1) := by decide +kernel
theorem dX4_first_18 : decode cX4_first 18 = .ok (.getfield 28, 3) := by decide +kernel
theorem dX4_first_21 : decode cX4_first 21 = .ok (.getfield 131, 3) := by decide +kernel
theorem dX4_first_24 : decode cX4_first 24 = .ok (.iload_n 1, 1) := by decide +kernel
theorem dX4_first_25 : decode cX4_first 25 = .ok (.iaload, 1) := by decide +kernel
theorem dX4_first_26 : decode cX4_first 26 = .ok (.ireturn, 1) := by decide +kernel
set_option maxRecDepth 20000 in
theorem ggX4_count_X4_isWithin : GoodIn wsX4_count wsX4_isWithin := goodIn_r _ [4] (by decide +kernel) (by decide +kernel)
set_option maxRecDepth 20000 in
theorem gX4_count_X4_isWithin : GoodIn wsX4_count (va_wsS RX4 45 yX4_isWithin wsX4_isWithin) := goodIn_app (goodIn_of _ (by decide +kernel)) ggX4_count_X4_isWithin
set_option maxRecDepth 20000 in
theorem ggX4_count_X4_requireIndex : GoodIn wsX4_count wsX4_requireIndex := goodIn_ca (goodIn_r _ [7, 8, 9] (by decide +kernel) (by decide +kernel)) (goodIn_sub (fun _ h => List.mem_cons_of_mem _ (List.mem_append_right _ h)) (by decide +kernel))
set_option maxRecDepth 20000 in
theorem gX4_count_X4_requireIndex : GoodIn wsX4_count (va_wsS RX4 71 yX4_requireIndex wsX4_requireIndex) := goodIn_app (goodIn_of _ (by decide +kernel)) ggX4_count_X4_requireIndex
set_option maxRecDepth 20000 in
theorem ggX4_count_X4_countFact : GoodIn wsX4_count wsX4_countFact := goodIn_r _ [13, 14, 15, 16, 17, 18, 19, 20, 21, 22, 23, 24, 25, 26, 27, 28, 29, 30, 31, 32, 33, 34, 35, 36, 37, 38, 39, 40, 41, 42, 43, 44, 45, 46, 47, 48, 49, 50, 51, 52, 53, 54, 55, 56, 57, 58, 59, 60, 61, 62, 63, 64, 65, 66, 67, 68] (by decide +kernel) (by decide +kernel)
set_option maxRecDepth 20000 in
theorem gX4_count_X4_countFact : GoodIn wsX4_count (wsV RX4 134 RX4 yX4_countFact wsX4_countFact) := goodIn_app (goodIn_of _ (by decide +kernel)) ggX4_count_X4_countFact
theorem dX4_count_0 : decode cX4_count 0 = .ok (.iload_n 1, 1) := by decide +kernel
theorem dX4_count_1 : decode cX4_count 1 = .ok (.iconst 0, 1) := by decide +kernel
theorem dX4_count_2 : decode cX4_count 2 = .ok (.bipush 9, 2) := by decide +kernel
theorem dX4_count_4 : decode cX4_count 4 = .ok (.invokestatic 45, 3) := by decide +kernel
theorem dX4_count_7 : decode cX4_count 7 = .ok (.invokestatic 71, 3) := by decide +kernel
theorem dX4_count_10 : decode cX4_count 10 = .ok (.aload_n 0, 1) := by decide +kernel
theorem dX4_count_11 : decode cX4_count 11 = .ok (.iload_n 1, 1) := by decide +kernel
theorem dX4_count_12 : decode cX4_count 12 = .ok (.invokevirtual 134, 3) := by decide +kernel
theorem dX4_count_15 : decode cX4_count 15 = .ok (.ireturn, 1) := by decide +kernel
set_option maxRecDepth 20000 in
theorem ggX4_would_X4_requireWordAndBeat : GoodIn wsX4_would wsX4_requireWordAndBeat := goodIn_ca (goodIn_r _ [7, 8, 9, 6, 10, 11, 12, 13, 14, 15, 16, 17, 18, 19] (by decide +kernel) (by decide +kernel)) (goodIn_sub (fun _ h => List.mem_cons_of_mem _ (List.mem_append_left _ (List.mem_append_right _ h))) (by decide +kernel))
set_option maxRecDepth 20000 in
theorem gX4_would_X4_requireWordAndBeat : GoodIn wsX4_would (va_wsS RX4 107 yX4_requireWordAndBeat wsX4_requireWordAndBeat) := goodIn_app (goodIn_of _ (by decide +kernel)) ggX4_would_X4_requireWordAndBeat
set_option maxRecDepth 20000 in
theorem ggX4_would_X4_isWithin : GoodIn wsX4_would wsX4_isWithin := goodIn_r _ [14] (by decide +kernel) (by decide +kernel)
set_option maxRecDepth 20000 in
theorem gX4_would_X4_isWithin : GoodIn wsX4_would (va_wsS RX4 45 yX4_isWithin wsX4_isWithin) := goodIn_app (goodIn_of _ (by decide +kernel)) ggX4_would_X4_isWithin
set_option maxRecDepth 20000 in
theorem ggX4_would_X4_requireIndex : GoodIn wsX4_would wsX4_requireIndex := goodIn_ca (goodIn_r _ [22, 23, 24] (by decide +kernel) (by decide +kernel)) (goodIn_sub (fun _ h => List.mem_cons_of_mem _ (List.mem_append_right _ h)) (by decide +kernel))
set_option maxRecDepth 20000 in
theorem gX4_would_X4_requireIndex : GoodIn wsX4_would (va_wsS RX4 71 yX4_requireIndex wsX4_requireIndex) := goodIn_app (goodIn_of _ (by decide +kernel)) ggX4_would_X4_requireIndex
set_option maxRecDepth 20000 in
theorem ggX4_would_X3_runThrough : GoodIn wsX4_would wsX3_runThrough := goodIn_r _ [29, 30, 31, 6, 32, 33, 34, 35, 36, 37, 38, 39, 40, 41, 42, 43, 44, 45, 46, 47, 48, 49, 50, 51, 28, 52, 53, 54, 55, 56, 57, 58, 59, 60, 61, 62, 63, 64, 65, 66, 67, 68, 69, 70, 71, 72, 73, 74, 75, 76, 77, 78, 79, 80, 81, 82, 83, 84, 85, 86, 87, 88, 89, 90, 91, 92, 93, 94, 95, 96, 97, 98, 99, 100, 101, 102, 103, 104, 105, 106, 107, 108, 109, 110, 111, 112, 113, 13, 14, 114, 115, 116, 117, 118, 119, 120, 121, 122, 123, 124, 125, 126, 127, 128, 129, 130, 131, 132, 133, 134, 135, 136, 137, 138, 139, 140, 141, 142, 143, 144, 145, 146, 147, 148, 149, 150, 151, 152, 153, 154, 155, 156, 157, 158, 159, 160, 161, 181, 182, 183, 184, 185, 186, 187, 173, 174, 175, 176, 177, 178, 179, 180, 188, 189, 190, 191, 192, 193, 194, 195, 196, 197, 198, 199, 200, 201, 202, 203, 204] (by decide +kernel) (by decide +kernel)
set_option maxRecDepth 20000 in
theorem gX4_would_X3_runThrough : GoodIn wsX4_would (wsV RX4 111 RX3 yX3_runThrough wsX3_runThrough) := goodIn_app (goodIn_of _ (by decide +kernel)) ggX4_would_X3_runThrough
set_option maxRecDepth 20000 in
theorem ggX4_would_X2_cameInOrder : GoodIn wsX4_would wsX2_cameInOrder := goodIn_r _ [165, 38, 42, 173, 174, 175, 176, 177, 178, 179, 180] (by decide +kernel) (by decide +kernel)
set_option maxRecDepth 20000 in
theorem gX4_would_X2_cameInOrder : GoodIn wsX4_would (wsV RX4 124 RX2 yX2_cameInOrder wsX2_cameInOrder) := goodIn_app (goodIn_of _ (by decide +kernel)) ggX4_would_X2_cameInOrder
theorem dX4_would_0 : decode cX4_would 0 = .ok (.iload_n 1, 1) := by decide +kernel
theorem dX4_would_1 : decode cX4_would 1 = .ok (.iload_n 2, 1) := by decide +kernel
theorem dX4_would_2 : decode cX4_would 2 = .ok (.invokestatic 107, 3) := by decide +kernel
theorem dX4_would_5 : decode cX4_would 5 = .ok (.iload_n 3, 1) := by decide +kernel
theorem dX4_would_6 : decode cX4_would 6 = .ok (.iconst 0, 1) := by decide +kernel
theorem dX4_would_7 : decode cX4_would 7 = .ok (.iconst 3, 1) := by decide +kernel
theorem dX4_would_8 : decode cX4_would 8 = .ok (.invokestatic 45, 3) := by decide +kernel
theorem dX4_would_11 : decode cX4_would 11 = .ok (.invokestatic 71, 3) := by decide +kernel
theorem dX4_would_14 : decode cX4_would 14 = .ok (.aload_n 0, 1) := by decide +kernel
theorem dX4_would_15 : decode cX4_would 15 = .ok (.getfield 21, 3) := by decide +kernel
theorem dX4_would_18 : decode cX4_would 18 = .ok (.iload_n 1, 1) := by decide +kernel
theorem dX4_would_19 : decode cX4_would 19 = .ok (.iload_n 2, 1) := by decide +kernel
theorem dX4_would_20 : decode cX4_would 20 = .ok (.aload_n 0, 1) := by decide +kernel
theorem dX4_would_21 : decode cX4_would 21 = .ok (.getfield 35, 3) := by decide +kernel
theorem dX4_would_24 : decode cX4_would 24 = .ok (.aload_n 0, 1) := by decide +kernel
theorem dX4_would_25 : decode cX4_would 25 = .ok (.getfield 32, 3) := by decide +kernel
theorem dX4_would_28 : decode cX4_would 28 = .ok (.invokevirtual 111, 3) := by decide +kernel
theorem dX4_would_31 : decode cX4_would 31 = .ok (.iload_n 3, 1) := by decide +kernel
theorem dX4_would_32 : decode cX4_would 32 = .ok (.tableswitch 60 0 2 #[28, 36, 52], 28) := by decide +kernel
theorem dX4_would_60 : decode cX4_would 60 = .ok (.aload_n 0, 1) := by decide +kernel
theorem dX4_would_61 : decode cX4_would 61 = .ok (.getfield 32, 3) := by decide +kernel
theorem dX4_would_64 : decode cX4_would 64 = .ok (.getfield 115, 3) := by decide +kernel
theorem dX4_would_67 : decode cX4_would 67 = .ok (.ireturn, 1) := by decide +kernel
theorem dX4_would_68 : decode cX4_would 68 = .ok (.aload_n 0, 1) := by decide +kernel
theorem dX4_would_69 : decode cX4_would 69 = .ok (.getfield 32, 3) := by decide +kernel
theorem dX4_would_72 : decode cX4_would 72 = .ok (.invokevirtual 124, 3) := by decide +kernel
theorem dX4_would_75 : decode cX4_would 75 = .ok (.ifCond .eq 7, 3) := by decide +kernel
theorem dX4_would_78 : decode cX4_would 78 = .ok (.iconst 1, 1) := by decide +kernel
theorem dX4_would_79 : decode cX4_would 79 = .ok (.goto 4, 3) := by decide +kernel
theorem dX4_would_82 : decode cX4_would 82 = .ok (.iconst 0, 1) := by decide +kernel
theorem dX4_would_83 : decode cX4_would 83 = .ok (.ireturn, 1) := by decide +kernel
theorem dX4_would_84 : decode cX4_would 84 = .ok (.aload_n 0, 1) := by decide +kernel
theorem dX4_would_85 : decode cX4_would 85 = .ok (.getfield 32, 3) := by decide +kernel
theorem dX4_would_88 : decode cX4_would 88 = .ok (.getfield 138, 3) := by decide +kernel
theorem dX4_would_91 : decode cX4_would 91 = .ok (.ireturn, 1) := by decide +kernel
theorem dX4_would_92 : decode cX4_would 92 = .ok (.aload_n 0, 1) := by decide +kernel
theorem dX4_would_93 : decode cX4_would 93 = .ok (.getfield 21, 3) := by decide +kernel
theorem dX4_would_96 : decode cX4_would 96 = .ok (.getfield 141, 3) := by decide +kernel
theorem dX4_would_99 : decode cX4_would 99 = .ok (.ireturn, 1) := by decide +kernel
set_option maxRecDepth 20000 in
theorem ggX4_advise_X4_requireWordAndBeat : GoodIn wsX4_advise wsX4_requireWordAndBeat := goodIn_ca (goodIn_r _ [5, 6, 7, 4, 8, 9, 10, 11, 12, 13, 14, 15, 16, 17] (by decide +kernel) (by decide +kernel)) (goodIn_sub (fun _ h => List.mem_cons_of_mem _ (List.mem_append_right _ h)) (by decide +kernel))
set_option maxRecDepth 20000 in
theorem gX4_advise_X4_requireWordAndBeat : GoodIn wsX4_advise (va_wsS RX4 107 yX4_requireWordAndBeat wsX4_requireWordAndBeat) := goodIn_app (goodIn_of _ (by decide +kernel)) ggX4_advise_X4_requireWordAndBeat
set_option maxRecDepth 20000 in
theorem ggX4_advise_X4_isWithin : GoodIn wsX4_advise wsX4_isWithin := goodIn_r _ [12] (by decide +kernel) (by decide +kernel)
set_option maxRecDepth 20000 in
theorem gX4_advise_X4_isWithin : GoodIn wsX4_advise (va_wsS RX4 45 yX4_isWithin wsX4_isWithin) := goodIn_app (goodIn_of _ (by decide +kernel)) ggX4_advise_X4_isWithin
set_option maxRecDepth 20000 in
theorem ggX4_advise_X4_requireArgument : GoodIn wsX4_advise wsX4_requireArgument := goodIn_ca (goodIn_r _ [15, 16, 17] (by decide +kernel) (by decide +kernel)) (goodIn_sub (fun _ h => List.mem_cons_of_mem _ (List.mem_append_right _ h)) (by decide +kernel))
set_option maxRecDepth 20000 in
theorem gX4_advise_X4_requireArgument : GoodIn wsX4_advise (va_wsS RX4 49 yX4_requireArgument wsX4_requireArgument) := goodIn_app (goodIn_of _ (by decide +kernel)) ggX4_advise_X4_requireArgument
set_option maxRecDepth 20000 in
theorem ggX4_advise_X0_putClapper : GoodIn wsX4_advise wsX0_putClapper := goodIn_r _ [22, 23, 24, 179, 180, 181, 182, 183, 184, 185, 186, 187, 188, 189, 190, 191, 192, 193] (by decide +kernel) (by decide +kernel)
set_option maxRecDepth 20000 in
theorem gX4_advise_X0_putClapper : GoodIn wsX4_advise (wsV RX4 93 RX0 yX0_putClapper wsX0_putClapper) := goodIn_app (goodIn_of _ (by decide +kernel)) ggX4_advise_X0_putClapper
set_option maxRecDepth 20000 in
theorem ggX4_advise_X4_wouldComeInOrder : GoodIn wsX4_advise wsX4_wouldComeInOrder := goodIn_r _ [28, 29, 30, 31, 32, 33, 34, 35, 36, 37, 38, 4, 39, 40, 41, 42, 43, 44, 45, 46, 47, 48, 49, 50, 51, 52, 53, 54, 55, 56, 57, 58, 59, 60, 61, 62, 63, 64, 65, 66, 67, 68, 69, 70, 71, 72, 73, 74, 75, 76, 77, 78, 79, 80, 81, 82, 83, 84, 85, 86, 87, 88, 89, 90, 91, 92, 93, 94, 95, 96, 97, 98, 99, 100, 101, 102, 103, 104, 105, 106, 107, 108, 109, 110, 111, 112, 113, 114, 115, 116, 117, 21, 118, 119, 11, 12, 120, 121, 122, 123, 124, 125, 126, 127, 128, 129, 130, 131, 132, 133, 134, 135, 136, 137, 138, 139, 140, 141, 142, 143, 144, 145, 146, 147, 148, 149, 150, 151, 152, 153, 154, 155, 156, 157, 158, 159, 160, 161, 162, 163, 164, 165, 166, 167, 168, 169, 170, 171, 172, 173, 174, 175, 176, 177, 178, 194, 195, 196, 197, 198, 199, 200, 201, 202, 203, 204, 205, 206, 207, 208, 209, 210, 179, 180, 181, 182, 183, 184, 185, 186, 187, 188, 189, 190, 191, 192, 193] (by decide +kernel) (by decide +kernel)
set_option maxRecDepth 20000 in
theorem gX4_advise_X4_wouldComeInOrder : GoodIn wsX4_advise (wsV RX4 147 RX4 yX4_wouldComeInOrder wsX4_wouldComeInOrder) := goodIn_app (goodIn_of _ (by decide +kernel)) ggX4_advise_X4_wouldComeInOrder
theorem dX4_advise_0 : decode cX4_advise 0 = .ok (.iload_n 1, 1) := by decide +kernel
theorem dX4_advise_1 : decode cX4_advise 1 = .ok (.iload_n 2, 1) := by decide +kernel
theorem dX4_advise_2 : decode cX4_advise 2 = .ok (.invokestatic 107, 3) := by decide +kernel
theorem dX4_advise_5 : decode cX4_advise 5 = .ok (.iload_n 3, 1) := by decide +kernel
theorem dX4_advise_6 : decode cX4_advise 6 = .ok (.iconst 1, 1) := by decide +kernel
theorem dX4_advise_7 : decode cX4_advise 7 = .ok (.bipush 9, 2) := by decide +kernel
theorem dX4_advise_9 : decode cX4_advise 9 = .ok (.invokestatic 45, 3) := by decide +kernel
theorem dX4_advise_12 : decode cX4_advise 12 = .ok (.invokestatic 49, 3) := by decide +kernel
theorem dX4_advise_15 : decode cX4_advise 15 = .ok (.iload 4, 2) := by decide +kernel
theorem dX4_advise_17 : decode cX4_advise 17 = .ok (.iconst 0, 1) := by decide +kernel
theorem dX4_advise_18 : decode cX4_advise 18 = .ok (.bipush 20, 2) := by decide +kernel
theorem dX4_advise_20 : decode cX4_advise 20 = .ok (.invokestatic 45, 3) := by decide +kernel
theorem dX4_advise_23 : decode cX4_advise 23 = .ok (.invokestatic 49, 3) := by decide +kernel
theorem dX4_advise_26 : decode cX4_advise 26 = .ok (.iconst 1, 1) := by decide +kernel
theorem dX4_advise_27 : decode cX4_advise 27 = .ok (.istore 5, 2) := by decide +kernel
theorem dX4_advise_29 : decode cX4_advise 29 = .ok (.iload 5, 2) := by decide +kernel
theorem dX4_advise_31 : decode cX4_advise 31 = .ok (.aload_n 0, 1) := by decide +kernel
theorem dX4_advise_32 : decode cX4_advise 32 = .ok (.getfield 12, 3) := by decide +kernel
theorem dX4_advise_35 : decode cX4_advise 35 = .ok (.getfield 53, 3) := by decide +kernel
theorem dX4_advise_38 : decode cX4_advise 38 = .ok (.if_icmp .ge 74, 3) := by decide +kernel
theorem dX4_advise_41 : decode cX4_advise 41 = .ok (.aload_n 0, 1) := by decide +kernel
theorem dX4_advise_42 : decode cX4_advise 42 = .ok (.getfield 12, 3) := by decide +kernel
theorem dX4_advise_45 : decode cX4_advise 45 = .ok (.getfield 90, 3) := by decide +kernel
theorem dX4_advise_48 : decode cX4_advise 48 = .ok (.iload 5, 2) := by decide +kernel
theorem dX4_advise_50 : decode cX4_advise 50 = .ok (.iaload, 1) := by decide +kernel
theorem dX4_advise_51 : decode cX4_advise 51 = .ok (.istore 6, 2) := by decide +kernel
theorem dX4_advise_53 : decode cX4_advise 53 = .ok (.aload_n 0, 1) := by decide +kernel
theorem dX4_advise_54 : decode cX4_advise 54 = .ok (.getfield 12, 3) := by decide +kernel
theorem dX4_advise_57 : decode cX4_advise 57 = .ok (.getfield 144, 3) := by decide +kernel
theorem dX4_advise_60 : decode cX4_advise 60 = .ok (.iload 5, 2) := by decide +kernel
theorem dX4_advise_62 : decode cX4_advise 62 = .ok (.iaload, 1) := by decide +kernel
theorem dX4_advise_63 : decode cX4_advise 63 = .ok (.istore 7, 2) := by decide +kernel
theorem dX4_advise_65 : decode cX4_advise 65 = .ok (.aload_n 0, 1) := by decide +kernel
theorem dX4_advise_66 : decode cX4_advise 66 = .ok (.getfield 12, 3) := by decide +kernel
theorem dX4_advise_69 : decode cX4_advise 69 = .ok (.iload 5, 2) := by decide +kernel
theorem dX4_advise_71 : decode cX4_advise 71 = .ok (.iload_n 3, 1) := by decide +kernel
theorem dX4_advise_72 : decode cX4_advise 72 = .ok (.iload 4, 2) := by decide +kernel
theorem dX4_advise_74 : decode cX4_advise 74 = .ok (.invokevirtual 93, 3) := by decide +kernel
theorem dX4_advise_77 : decode cX4_advise 77 = .ok (.aload_n 0, 1) := by decide +kernel
theorem dX4_advise_78 : decode cX4_advise 78 = .ok (.iload_n 1, 1) := by decide +kernel
theorem dX4_advise_79 : decode cX4_advise 79 = .ok (.iload_n 2, 1) := by decide +kernel
theorem dX4_advise_80 : decode cX4_advise 80 = .ok (.invokevirtual 147, 3) := by decide +kernel
theorem dX4_advise_83 : decode cX4_advise 83 = .ok (.istore 8, 2) := by decide +kernel
theorem dX4_advise_85 : decode cX4_advise 85 = .ok (.aload_n 0, 1) := by decide +kernel
theorem dX4_advise_86 : decode cX4_advise 86 = .ok (.getfield 12, 3) := by decide +kernel
theorem dX4_advise_89 : decode cX4_advise 89 = .ok (.iload 5, 2) := by decide +kernel
theorem dX4_advise_91 : decode cX4_advise 91 = .ok (.iload 6, 2) := by decide +kernel
theorem dX4_advise_93 : decode cX4_advise 93 = .ok (.iload 7, 2) := by decide +kernel
theorem dX4_advise_95 : decode cX4_advise 95 = .ok (.invokevirtual 93, 3) := by decide +kernel
theorem dX4_advise_98 : decode cX4_advise 98 = .ok (.iload 8, 2) := by decide +kernel
theorem dX4_advise_100 : decode cX4_advise 100 = .ok (.ifCond .eq 6, 3) := by decide +kernel
theorem dX4_advise_103 : decode cX4_advise 103 = .ok (.iload 5, 2) := by decide +kernel
theorem dX4_advise_105 : decode cX4_advise 105 = .ok (.ireturn, 1) := by decide +kernel
theorem dX4_advise_106 : decode cX4_advise 106 = .ok (.iinc 5 1, 3) := by decide +kernel
theorem dX4_advise_109 : decode cX4_advise 109 = .ok (.goto (-80), 3) := by decide +kernel
theorem dX4_advise_112 : decode cX4_advise 112 = .ok (.iconst (-1), 1) := by decide +kernel
theorem dX4_advise_113 : decode cX4_advise 113 = .ok (.ireturn, 1) := by decide +kernel
set_option maxRecDepth 20000 in
theorem ggX4_longest_X4_isWithin : GoodIn wsX4_longest wsX4_isWithin := goodIn_r _ [4] (by decide +kernel) (by decide +kernel)
set_option maxRecDepth 20000 in
theorem gX4_longest_X4_isWithin : GoodIn wsX4_longest (va_wsS RX4 45 yX4_isWithin wsX4_isWithin) := goodIn_app (goodIn_of _ (by decide +kernel)) ggX4_longest_X4_isWithin
set_option maxRecDepth 20000 in
theorem ggX4_longest_X4_requireArgument : GoodIn wsX4_longest wsX4_requireArgument := goodIn_ca (goodIn_r _ [7, 8, 9] (by decide +kernel) (by decide +kernel)) (goodIn_sub (fun _ h => List.mem_cons_of_mem _ (List.mem_append_right _ h)) (by decide +kernel))
set_option maxRecDepth 20000 in
theorem gX4_longest_X4_requireArgument : GoodIn wsX4_longest (va_wsS RX4 49 yX4_requireArgument wsX4_requireArgument) := goodIn_app (goodIn_of _ (by decide +kernel)) ggX4_longest_X4_requireArgument
set_option maxRecDepth 20000 in
theorem ggX4_longest_X4_wouldComeInOrder : GoodIn wsX4_longest wsX4_wouldComeInOrder := goodIn_r _ [13, 14, 15, 16, 17, 18, 19, 20, 21, 22, 23, 3, 24, 25, 26, 27, 28, 29, 30, 31, 32, 33, 34, 35, 36, 37, 38, 39, 40, 41, 42, 43, 44, 45, 46, 47, 48, 49, 50, 51, 52, 53, 54, 55, 56, 57, 58, 59, 60, 61, 62, 63, 64, 65, 66, 67, 68, 69, 70, 71, 72, 73, 74, 75, 76, 77, 78, 79, 80, 81, 82, 83, 84, 85, 86, 87, 88, 89, 90, 91, 92, 93, 94, 95, 96, 97, 98, 99, 100, 101, 102, 103, 104, 105, 2, 4, 106, 107, 108, 109, 110, 111, 112, 113, 114, 115, 116, 117, 118, 119, 120, 121, 122, 123, 124, 125, 126, 127, 128, 129, 130, 131, 132, 133, 134, 135, 136, 137, 138, 139, 140, 141, 142, 143, 144, 145, 146, 147, 148, 149, 150, 151, 152, 153, 154, 155, 156, 157, 158, 159, 160, 161, 162, 163, 164, 165, 166, 167, 168, 169, 170, 171, 172, 173, 174, 175, 176, 177, 178, 179, 180, 181, 182, 183, 184, 185, 186, 187, 188, 189, 190, 191, 192, 193, 194, 195, 196] (by decide +kernel) (by decide +kernel)
set_option maxRecDepth 20000 in
theorem gX4_longest_X4_wouldComeInOrder : GoodIn wsX4_longest (wsV RX4 147 RX4 yX4_wouldComeInOrder wsX4_wouldComeInOrder) := goodIn_app (goodIn_of _ (by decide +kernel)) ggX4_longest_X4_wouldComeInOrder
theorem dX4_longest_0 : decode cX4_longest 0 = .ok (.iload_n 1, 1) := by decide +kernel
theorem dX4_longest_1 : decode cX4_longest 1 = .ok (.iconst 1, 1) := by decide +kernel
theorem dX4_longest_2 : decode cX4_longest 2 = .ok (.bipush 9, 2) := by decide +kernel
theorem dX4_longest_4 : decode cX4_longest 4 = .ok (.invokestatic 45, 3) := by decide +kernel
theorem dX4_longest_7 : decode cX4_longest 7 = .ok (.invokestatic 49, 3) := by decide +kernel
theorem dX4_longest_10 : decode cX4_longest 10 = .ok (.iload_n 2, 1) := by decide +kernel
theorem dX4_longest_11 : decode cX4_longest 11 = .ok (.iconst 1, 1) := by decide +kernel
theorem dX4_longest_12 : decode cX4_longest 12 = .ok (.bipush 20, 2) := by decide +kernel
theorem dX4_longest_14 : decode cX4_longest 14 = .ok (.invokestatic 45, 3) := by decide +kernel
theorem dX4_longest_17 : decode cX4_longest 17 = .ok (.invokestatic 49, 3) := by decide +kernel
theorem dX4_longest_20 : decode cX4_longest 20 = .ok (.iconst 0, 1) := by decide +kernel
theorem dX4_longest_21 : decode cX4_longest 21 = .ok (.istore_n 3, 1) := by decide +kernel
theorem dX4_longest_22 : decode cX4_longest 22 = .ok (.iconst 0, 1) := by decide +kernel
theorem dX4_longest_23 : decode cX4_longest 23 = .ok (.istore 4, 2) := by decide +kernel
theorem dX4_longest_25 : decode cX4_longest 25 = .ok (.iconst 1, 1) := by decide +kernel
theorem dX4_longest_26 : decode cX4_longest 26 = .ok (.istore 5, 2) := by decide +kernel
theorem dX4_longest_28 : decode cX4_longest 28 = .ok (.iload 5, 2) := by decide +kernel
theorem dX4_longest_30 : decode cX4_longest 30 = .ok (.bipush 6, 2) := by decide +kernel
theorem dX4_longest_32 : decode cX4_longest 32 = .ok (.if_icmp .gt 29, 3) := by decide +kernel
theorem dX4_longest_35 : decode cX4_longest 35 = .ok (.iload_n 3, 1) := by decide +kernel
theorem dX4_longest_36 : decode cX4_longest 36 = .ok (.bipush 10, 2) := by decide +kernel
theorem dX4_longest_38 : decode cX4_longest 38 = .ok (.imul, 1) := by decide +kernel
theorem dX4_longest_39 : decode cX4_longest 39 = .ok (.iload_n 1, 1) := by decide +kernel
theorem dX4_longest_40 : decode cX4_longest 40 = .ok (.iadd, 1) := by decide +kernel
theorem dX4_longest_41 : decode cX4_longest 41 = .ok (.istore_n 3, 1) := by decide +kernel
theorem dX4_longest_42 : decode cX4_longest 42 = .ok (.aload_n 0, 1) := by decide +kernel
theorem dX4_longest_43 : decode cX4_longest 43 = .ok (.iload_n 3, 1) := by decide +kernel
theorem dX4_longest_44 : decode cX4_longest 44 = .ok (.iload_n 2, 1) := by decide +kernel
theorem dX4_longest_45 : decode cX4_longest 45 = .ok (.invokevirtual 147, 3) := by decide +kernel
theorem dX4_longest_48 : decode cX4_longest 48 = .ok (.ifCond .eq 7, 3) := by decide +kernel
theorem dX4_longest_51 : decode cX4_longest 51 = .ok (.iload 5, 2) := by decide +kernel
theorem dX4_longest_53 : decode cX4_longest 53 = .ok (.istore 4, 2) := by decide +kernel
theorem dX4_longest_55 : decode cX4_longest 55 = .ok (.iinc 5 1, 3) := by decide +kernel
theorem dX4_longest_58 : decode cX4_longest 58 = .ok (.goto (-30), 3) := by decide +kernel
theorem dX4_longest_61 : decode cX4_longest 61 = .ok (.iload 4, 2) := by decide +kernel
theorem dX4_longest_63 : decode cX4_longest 63 = .ok (.ireturn, 1) := by decide +kernel
set_option maxRecDepth 20000 in
theorem ggX4_quickest_X4_isWord : GoodIn wsX4_quickest wsX4_isWord := goodIn_r _ [4, 5, 6, 7, 3, 8] (by decide +kernel) (by decide +kernel)
set_option maxRecDepth 20000 in
theorem gX4_quickest_X4_isWord : GoodIn wsX4_quickest (va_wsS RX4 151 yX4_isWord wsX4_isWord) := goodIn_app (goodIn_of _ (by decide +kernel)) ggX4_quickest_X4_isWord
set_option maxRecDepth 20000 in
theorem ggX4_quickest_X4_requireArgument : GoodIn wsX4_quickest wsX4_requireArgument := goodIn_ca (goodIn_r _ [11, 12, 13] (by decide +kernel) (by decide +kernel)) (goodIn_sub (fun _ h => List.mem_cons_of_mem _ (List.mem_append_right _ h)) (by decide +kernel))
set_option maxRecDepth 20000 in
theorem gX4_quickest_X4_requireArgument : GoodIn wsX4_quickest (va_wsS RX4 49 yX4_requireArgument wsX4_requireArgument) := goodIn_app (goodIn_of _ (by decide +kernel)) ggX4_quickest_X4_requireArgument
set_option maxRecDepth 20000 in
theorem ggX4_quickest_X4_wouldComeInOrder : GoodIn wsX4_quickest wsX4_wouldComeInOrder := goodIn_r _ [17, 18, 19, 20, 21, 22, 23, 24, 25, 26, 27, 3, 28, 29, 30, 31, 32, 33, 34, 35, 36, 37, 38, 39, 40, 41, 42, 43, 44, 45, 46, 47, 48, 49, 50, 51, 52, 53, 54, 55, 56, 57, 58, 59, 60, 61, 62, 63, 64, 65, 66, 67, 68, 69, 70, 71, 72, 73, 74, 75, 76, 77, 78, 79, 80, 81, 82, 83, 84, 85, 86, 87, 88, 89, 90, 91, 92, 93, 94, 95, 96, 97, 98, 99, 100, 101, 102, 103, 104, 105, 106, 107, 108, 109, 7, 8, 110, 111, 112, 113, 114, 115, 116, 117, 118, 119, 120, 121, 122, 123, 124, 125, 126, 127, 128, 129, 130, 131, 132, 133, 134, 135, 136, 137, 138, 139, 140, 141, 142, 143, 144, 145, 146, 147, 148, 149, 150, 151, 152, 153, 154, 155, 156, 157, 158, 159, 160, 161, 162, 163, 164, 165, 166, 167, 168, 169, 170, 171, 172, 173, 174, 175, 176, 177, 178, 179, 180, 181, 182, 183, 184, 185, 186, 187, 188, 189, 190, 191, 192, 193, 194, 195, 196, 197, 198, 199, 200] (by decide +kernel) (by decide +kernel)
set_option maxRecDepth 20000 in
theorem gX4_quickest_X4_wouldComeInOrder : GoodIn wsX4_quickest (wsV RX4 147 RX4 yX4_wouldComeInOrder wsX4_wouldComeInOrder) := goodIn_app (goodIn_of _ (by decide +kernel)) ggX4_quickest_X4_wouldComeInOrder
theorem dX4_quickest_0 : decode cX4_quickest 0 = .ok (.iload_n 1, 1) := by decide +kernel
theorem dX4_quickest_1 : decode cX4_quickest 1 = .ok (.invokestatic 151, 3) := by decide +kernel
theorem dX4_quickest_4 : decode cX4_quickest 4 = .ok (.invokestatic 49, 3) := by decide +kernel
theorem dX4_quickest_7 : decode cX4_quickest 7 = .ok (.iconst 1, 1) := by decide +kernel
theorem dX4_quickest_8 : decode cX4_quickest 8 = .ok (.istore_n 2, 1) := by decide +kernel
theorem dX4_quickest_9 : decode cX4_quickest 9 = .ok (.iload_n 2, 1) := by decide +kernel
theorem dX4_quickest_10 : decode cX4_quickest 10 = .ok (.bipush 20, 2) := by decide +kernel
theorem dX4_quickest_12 : decode cX4_quickest 12 = .ok (.if_icmp .gt 20, 3) := by decide +kernel
theorem dX4_quickest_15 : decode cX4_quickest 15 = .ok (.aload_n 0, 1) := by decide +kernel
theorem dX4_quickest_16 : decode cX4_quickest 16 = .ok (.iload_n 1, 1) := by decide +kernel
theorem dX4_quickest_17 : decode cX4_quickest 17 = .ok (.iload_n 2, 1) := by decide +kernel
theorem dX4_quickest_18 : decode cX4_quickest 18 = .ok (.invokevirtual 147, 3) := by decide +kernel
theorem dX4_quickest_21 : decode cX4_quickest 21 = .ok (.ifCond .eq 5, 3) := by decide +kernel
theorem dX4_quickest_24 : decode cX4_quickest 24 = .ok (.iload_n 2, 1) := by decide +kernel
theorem dX4_quickest_25 : decode cX4_quickest 25 = .ok (.ireturn, 1) := by decide +kernel
theorem dX4_quickest_26 : decode cX4_quickest 26 = .ok (.iinc 2 1, 3) := by decide +kernel
theorem dX4_quickest_29 : decode cX4_quickest 29 = .ok (.goto (-20), 3) := by decide +kernel
theorem dX4_quickest_32 : decode cX4_quickest 32 = .ok (.iconst (-1), 1) := by decide +kernel
theorem dX4_quickest_33 : decode cX4_quickest 33 = .ok (.ireturn, 1) := by decide +kernel
set_option maxRecDepth 20000 in
theorem ggX4_way_X0_hasChamber : GoodIn wsX4_way wsX0_hasChamber := goodIn_r _ [6, 7, 8, 9, 10, 46, 47, 48, 49, 50, 51, 52, 53, 54, 55, 56, 57, 58, 59, 60] (by decide +kernel) (by decide +kernel)
set_option maxRecDepth 20000 in
theorem gX4_way_X0_hasChamber : GoodIn wsX4_way (wsV RX4 67 RX0 yX0_hasChamber wsX0_hasChamber) := goodIn_app (goodIn_of _ (by decide +kernel)) ggX4_way_X0_hasChamber
set_option maxRecDepth 20000 in
theorem ggX4_way_X4_requireIndex : GoodIn wsX4_way wsX4_requireIndex := goodIn_ca (goodIn_r _ [13, 14, 15] (by decide +kernel) (by decide +kernel)) (goodIn_sub (fun _ h => List.mem_cons_of_mem _ (List.mem_append_right _ h)) (by decide +kernel))
set_option maxRecDepth 20000 in
theorem gX4_way_X4_requireIndex : GoodIn wsX4_way (va_wsS RX4 71 yX4_requireIndex wsX4_requireIndex) := goodIn_app (goodIn_of _ (by decide +kernel)) ggX4_way_X4_requireIndex
set_option maxRecDepth 20000 in
theorem ggX4_way_X0_shortestWay : GoodIn wsX4_way wsX0_shortestWay := goodIn_r _ [19, 20, 7, 21, 22, 23, 24, 25, 26, 27, 28, 29, 30, 31, 5, 32, 33, 34, 35, 36, 37, 38, 46, 47, 48, 49, 50, 51, 52, 53, 54, 55, 56, 57, 58, 59, 60] (by decide +kernel) (by decide +kernel)
set_option maxRecDepth 20000 in
theorem gX4_way_X0_shortestWay : GoodIn wsX4_way (wsV RX4 154 RX0 yX0_shortestWay wsX0_shortestWay) := goodIn_app (goodIn_of _ (by decide +kernel)) ggX4_way_X0_shortestWay
theorem dX4_way_0 : decode cX4_way 0 = .ok (.aload_n 0, 1) := by decide +kernel
theorem dX4_way_1 : decode cX4_way 1 = .ok (.getfield 12, 3) := by decide +kernel
theorem dX4_way_4 : decode cX4_way 4 = .ok (.iload_n 1, 1) := by decide +kernel
theorem dX4_way_5 : decode cX4_way 5 = .ok (.invokevirtual 67, 3) := by decide +kernel
theorem dX4_way_8 : decode cX4_way 8 = .ok (.invokestatic 71, 3) := by decide +kernel
theorem dX4_way_11 : decode cX4_way 11 = .ok (.aload_n 0, 1) := by decide +kernel
theorem dX4_way_12 : decode cX4_way 12 = .ok (.getfield 12, 3) := by decide +kernel
theorem dX4_way_15 : decode cX4_way 15 = .ok (.iload_n 2, 1) := by decide +kernel
theorem dX4_way_16 : decode cX4_way 16 = .ok (.invokevirtual 67, 3) := by decide +kernel
theorem dX4_way_19 : decode cX4_way 19 = .ok (.invokestatic 71, 3) := by decide +kernel
theorem dX4_way_22 : decode cX4_way 22 = .ok (.aload_n 0, 1) := by decide +kernel
theorem dX4_way_23 : decode cX4_way 23 = .ok (.getfield 12, 3) := by decide +kernel
theorem dX4_way_26 : decode cX4_way 26 = .ok (.iload_n 1, 1) := by decide +kernel
theorem dX4_way_27 : decode cX4_way 27 = .ok (.iload_n 2, 1) := by decide +kernel
theorem dX4_way_28 : decode cX4_way 28 = .ok (.invokevirtual 154, 3) := by decide +kernel
theorem dX4_way_31 : decode cX4_way 31 = .ok (.ireturn, 1) := by decide +kernel
set_option maxRecDepth 20000 in
theorem ggX4_highest_X0_hasChamber : GoodIn wsX4_highest wsX0_hasChamber := goodIn_r _ [6, 7, 8, 9, 10, 47, 48, 49, 50, 51, 52, 53, 54, 55, 56, 57, 58, 59, 60, 61] (by decide +kernel) (by decide +kernel)
set_option maxRecDepth 20000 in
theorem gX4_highest_X0_hasChamber : GoodIn wsX4_highest (wsV RX4 67 RX0 yX0_hasChamber wsX0_hasChamber) := goodIn_app (goodIn_of _ (by decide +kernel)) ggX4_highest_X0_hasChamber
set_option maxRecDepth 20000 in
theorem ggX4_highest_X4_requireIndex : GoodIn wsX4_highest wsX4_requireIndex := goodIn_ca (goodIn_r _ [13, 14, 15] (by decide +kernel) (by decide +kernel)) (goodIn_sub (fun _ h => List.mem_cons_of_mem _ (List.mem_append_right _ h)) (by decide +kernel))
set_option maxRecDepth 20000 in
theorem gX4_highest_X4_requireIndex : GoodIn wsX4_highest (va_wsS RX4 71 yX4_requireIndex wsX4_requireIndex) := goodIn_app (goodIn_of _ (by decide +kernel)) ggX4_highest_X4_requireIndex
set_option maxRecDepth 20000 in
theorem ggX4_highest_X0_highestWater : GoodIn wsX4_highest wsX0_highestWater := goodIn_r _ [19, 20, 7, 21, 22, 23, 24, 25, 26, 27, 28, 29, 30, 5, 31, 32, 33, 34, 35, 36, 37, 38, 39, 47, 48, 49, 50, 51, 52, 53, 54, 55, 56, 57, 58, 59, 60, 61] (by decide +kernel) (by decide +kernel)
set_option maxRecDepth 20000 in
theorem gX4_highest_X0_highestWater : GoodIn wsX4_highest (wsV RX4 157 RX0 yX0_highestWater wsX0_highestWater) := goodIn_app (goodIn_of _ (by decide +kernel)) ggX4_highest_X0_highestWater
theorem dX4_highest_0 : decode cX4_highest 0 = .ok (.aload_n 0, 1) := by decide +kernel
theorem dX4_highest_1 : decode cX4_highest 1 = .ok (.getfield 12, 3) := by decide +kernel
theorem dX4_highest_4 : decode cX4_highest 4 = .ok (.iload_n 1, 1) := by decide +kernel
theorem dX4_highest_5 : decode cX4_highest 5 = .ok (.invokevirtual 67, 3) := by decide +kernel
theorem dX4_highest_8 : decode cX4_highest 8 = .ok (.invokestatic 71, 3) := by decide +kernel
theorem dX4_highest_11 : decode cX4_highest 11 = .ok (.aload_n 0, 1) := by decide +kernel
theorem dX4_highest_12 : decode cX4_highest 12 = .ok (.getfield 12, 3) := by decide +kernel
theorem dX4_highest_15 : decode cX4_highest 15 = .ok (.iload_n 1, 1) := by decide +kernel
theorem dX4_highest_16 : decode cX4_highest 16 = .ok (.invokevirtual 157, 3) := by decide +kernel
theorem dX4_highest_19 : decode cX4_highest 19 = .ok (.ireturn, 1) := by decide +kernel
set_option maxRecDepth 20000 in
theorem ggX4_mean_X2_meanStrength : GoodIn wsX4_mean wsX2_meanStrength := goodIn_r _ [6, 7, 8, 9, 10, 5, 11, 12, 20, 21, 22, 23, 24, 25, 26, 27] (by decide +kernel) (by decide +kernel)
set_option maxRecDepth 20000 in
theorem gX4_mean_X2_meanStrength : GoodIn wsX4_mean (wsV RX4 160 RX2 yX2_meanStrength wsX2_meanStrength) := goodIn_app (goodIn_of _ (by decide +kernel)) ggX4_mean_X2_meanStrength
theorem dX4_mean_0 : decode cX4_mean 0 = .ok (.aload_n 0, 1) := by decide +kernel
theorem dX4_mean_1 : decode cX4_mean 1 = .ok (.getfield 28, 3) := by decide +kernel
theorem dX4_mean_4 : decode cX4_mean 4 = .ok (.invokevirtual 160, 3) := by decide +kernel
theorem dX4_mean_7 : decode cX4_mean 7 = .ok (.dreturn, 1) := by decide +kernel
set_option maxRecDepth 20000 in
theorem ggX4_digest_X4_countFact : GoodIn wsX4_digest wsX4_countFact := goodIn_r _ [9, 3, 10, 11, 12, 4, 13, 14, 15, 16, 17, 18, 19, 20, 21, 22, 23, 24, 25, 26, 27, 28, 29, 30, 31, 32, 64, 65, 66, 67, 68, 69, 70, 71, 72, 73, 74, 75, 76, 77, 78, 79, 80, 81, 82, 83, 84, 85, 86, 87, 88, 89, 90, 91, 92, 93] (by decide +kernel) (by decide +kernel)
set_option maxRecDepth 20000 in
theorem gX4_digest_X4_countFact : GoodIn wsX4_digest (wsV RX4 134 RX4 yX4_countFact wsX4_countFact) := goodIn_app (goodIn_of _ (by decide +kernel)) ggX4_digest_X4_countFact
set_option maxRecDepth 20000 in
theorem ggX4_digest_X0_chamberFact : GoodIn wsX4_digest wsX0_chamberFact := goodIn_r _ [36, 37, 23, 38, 32, 39, 40, 41, 42, 43, 16, 44, 45, 19, 20, 21, 22, 24, 25, 26, 71, 72, 73, 74, 75, 76, 77, 78, 79, 80, 81, 82, 83, 84, 85] (by decide +kernel) (by decide +kernel)
set_option maxRecDepth 20000 in
theorem gX4_digest_X0_chamberFact : GoodIn wsX4_digest (wsV RX4 97 RX0 yX0_chamberFact wsX0_chamberFact) := goodIn_app (goodIn_of _ (by decide +kernel)) ggX4_digest_X0_chamberFact
set_option maxRecDepth 20000 in
theorem ggX4_digest_X0_passageFact : GoodIn wsX4_digest wsX0_passageFact := goodIn_r _ [49, 24, 26, 50, 51, 19, 20, 21, 16, 22, 23, 25, 71, 72, 73, 74, 75, 76, 77, 78, 79, 80, 81, 82, 83, 84, 85] (by decide +kernel) (by decide +kernel)
set_option maxRecDepth 20000 in
theorem gX4_digest_X0_passageFact : GoodIn wsX4_digest (wsV RX4 104 RX0 yX0_passageFact wsX0_passageFact) := goodIn_app (goodIn_of _ (by decide +kernel)) ggX4_digest_X0_passageFact
set_option maxRecDepth 20000 in
theorem ggX4_digest_X2_heardFact : GoodIn wsX4_digest wsX2_heardFact := goodIn_r _ [56, 57, 86, 87, 88, 89, 90, 91, 92, 93] (by decide +kernel) (by decide +kernel)
set_option maxRecDepth 20000 in
theorem gX4_digest_X2_heardFact : GoodIn wsX4_digest (wsV RX4 121 RX2 yX2_heardFact wsX2_heardFact) := goodIn_app (goodIn_of _ (by decide +kernel)) ggX4_digest_X2_heardFact
set_option maxRecDepth 20000 in
theorem ggX4_digest_X2_cameInOrder : GoodIn wsX4_digest wsX2_cameInOrder := goodIn_r _ [61, 62, 63, 86, 87, 88, 89, 90, 91, 92, 93] (by decide +kernel) (by decide +kernel)
set_option maxRecDepth 20000 in
theorem gX4_digest_X2_cameInOrder : GoodIn wsX4_digest (wsV RX4 124 RX2 yX2_cameInOrder wsX2_cameInOrder) := goodIn_app (goodIn_of _ (by decide +kernel)) ggX4_digest_X2_cameInOrder
theorem dX4_digest_0 : decode cX4_digest 0 = .ok (.ldc2_w 164, 3) := by decide +kernel
theorem dX4_digest_3 : decode cX4_digest 3 = .ok (.lstore_n 1, 1) := by decide +kernel
theorem dX4_digest_4 : decode cX4_digest 4 = .ok (.iconst 0, 1) := by decide +kernel
theorem dX4_digest_5 : decode cX4_digest 5 = .ok (.istore_n 3, 1) := by decide +kernel
theorem dX4_digest_6 : decode cX4_digest 6 = .ok (.iload_n 3, 1) := by decide +kernel
theorem dX4_digest_7 : decode cX4_digest 7 = .ok (.bipush 10, 2) := by decide +kernel
theorem dX4_digest_9 : decode cX4_digest 9 = .ok (.if_icmp .ge 22, 3) := by decide +kernel
theorem dX4_digest_12 : decode cX4_digest 12 = .ok (.lload_n 1, 1) := by decide +kernel
theorem dX4_digest_13 : decode cX4_digest 13 = .ok (.ldc2_w 166, 3) := by decide +kernel
theorem dX4_digest_16 : decode cX4_digest 16 = .ok (.lmul, 1) := by decide +kernel
theorem dX4_digest_17 : decode cX4_digest 17 = .ok (.aload_n 0, 1) := by decide +kernel
theorem dX4_digest_18 : decode cX4_digest 18 = .ok (.iload_n 3, 1) := by decide +kernel
theorem dX4_digest_19 : decode cX4_digest 19 = .ok (.invokevirtual 134, 3) := by decide +kernel
theorem dX4_digest_22 : decode cX4_digest 22 = .ok (.i2l, 1) := by decide +kernel
theorem dX4_digest_23 : decode cX4_digest 23 = .ok (.ladd, 1) := by decide +kernel
theorem dX4_digest_24 : decode cX4_digest 24 = .ok (.lstore_n 1, 1) := by decide +kernel
theorem dX4_digest_25 : decode cX4_digest 25 = .ok (.iinc 3 1, 3) := by decide +kernel
theorem dX4_digest_28 : decode cX4_digest 28 = .ok (.goto (-22), 3) := by decide +kernel
theorem dX4_digest_31 : decode cX4_digest 31 = .ok (.iconst 0, 1) := by decide +kernel
theorem dX4_digest_32 : decode cX4_digest 32 = .ok (.istore_n 3, 1) := by decide +kernel
theorem dX4_digest_33 : decode cX4_digest 33 = .ok (.iload_n 3, 1) := by decide +kernel
theorem dX4_digest_34 : decode cX4_digest 34 = .ok (.aload_n 0, 1) := by decide +kernel
theorem dX4_digest_35 : decode cX4_digest 35 = .ok (.getfield 12, 3) := by decide +kernel
theorem dX4_digest_38 : decode cX4_digest 38 = .ok (.getfield 53, 3) := by decide +kernel
theorem dX4_digest_41 : decode cX4_digest 41 = .ok (.if_icmp .ge 43, 3) := by decide +kernel
theorem dX4_digest_44 : decode cX4_digest 44 = .ok (.iconst 0, 1) := by decide +kernel
theorem dX4_digest_45 : decode cX4_digest 45 = .ok (.istore 4, 2) := by decide +kernel
theorem dX4_digest_47 : decode cX4_digest 47 = .ok (.iload 4, 2) := by decide +kernel
theorem dX4_digest_49 : decode cX4_digest 49 = .ok (.bipush 7, 2) := by decide +kernel
theorem dX4_digest_51 : decode cX4_digest 51 = .ok (.if_icmp .ge 27, 3) := by decide +kernel
theorem dX4_digest_54 : decode cX4_digest 54 = .ok (.lload_n 1, 1) := by decide +kernel
theorem dX4_digest_55 : decode cX4_digest 55 = .ok (.ldc2_w 166, 3) := by decide +kernel
theorem dX4_digest_58 : decode cX4_digest 58 = .ok (.lmul, 1) := by decide +kernel
theorem dX4_digest_59 : decode cX4_digest 59 = .ok (.aload_n 0, 1) := by decide +kernel
theorem dX4_digest_60 : decode cX4_digest 60 = .ok (.getfield 12, 3) := by decide +kernel
theorem dX4_digest_63 : decode cX4_digest 63 = .ok (.iload_n 3, 1) := by decide +kernel
theorem dX4_digest_64 : decode cX4_digest 64 = .ok (.iload 4, 2) := by decide +kernel
theorem dX4_digest_66 : decode cX4_digest 66 = .ok (.invokevirtual 97, 3) := by decide +kernel
theorem dX4_digest_69 : decode cX4_digest 69 = .ok (.i2l, 1) := by decide +kernel
theorem dX4_digest_70 : decode cX4_digest 70 = .ok (.ladd, 1) := by decide +kernel
theorem dX4_digest_71 : decode cX4_digest 71 = .ok (.lstore_n 1, 1) := by decide +kernel
theorem dX4_digest_72 : decode cX4_digest 72 = .ok (.iinc 4 1, 3) := by decide +kernel
theorem dX4_digest_75 : decode cX4_digest 75 = .ok (.goto (-28), 3) := by decide +kernel
theorem dX4_digest_78 : decode cX4_digest 78 = .ok (.iinc 3 1, 3) := by decide +kernel
theorem dX4_digest_81 : decode cX4_digest 81 = .ok (.goto (-48), 3) := by decide +kernel
theorem dX4_digest_84 : decode cX4_digest 84 = .ok (.iconst 0, 1) := by decide +kernel
theorem dX4_digest_85 : decode cX4_digest 85 = .ok (.istore_n 3, 1) := by decide +kernel
theorem dX4_digest_86 : decode cX4_digest 86 = .ok (.iload_n 3, 1) := by decide +kernel
theorem dX4_digest_87 : decode cX4_digest 87 = .ok (.aload_n 0, 1) := by decide +kernel
theorem dX4_digest_88 : decode cX4_digest 88 = .ok (.getfield 12, 3) := by decide +kernel
theorem dX4_digest_91 : decode cX4_digest 91 = .ok (.getfield 74, 3) := by decide +kernel
theorem dX4_digest_94 : decode cX4_digest 94 = .ok (.if_icmp .ge 42, 3) := by decide +kernel
theorem dX4_digest_97 : decode cX4_digest 97 = .ok (.iconst 0, 1) := by decide +kernel
theorem dX4_digest_98 : decode cX4_digest 98 = .ok (.istore 4, 2) := by decide +kernel
theorem dX4_digest_100 : decode cX4_digest 100 = .ok (.iload 4, 2) := by decide +kernel
theorem dX4_digest_102 : decode cX4_digest 102 = .ok (.iconst 5, 1) := by decide +kernel
theorem dX4_digest_103 : decode cX4_digest 103 = .ok (.if_icmp .ge 27, 3) := by decide +kernel
theorem dX4_digest_106 : decode cX4_digest 106 = .ok (.lload_n 1, 1) := by decide +kernel
theorem dX4_digest_107 : decode cX4_digest 107 = .ok (.ldc2_w 166, 3) := by decide +kernel
theorem dX4_digest_110 : decode cX4_digest 110 = .ok (.lmul, 1) := by decide +kernel
theorem dX4_digest_111 : decode cX4_digest 111 = .ok (.aload_n 0, 1) := by decide +kernel
theorem dX4_digest_112 : decode cX4_digest 112 = .ok (.getfield 12, 3) := by decide +kernel
theorem dX4_digest_115 : decode cX4_digest 115 = .ok (.iload_n 3, 1) := by decide +kernel
theorem dX4_digest_116 : decode cX4_digest 116 = .ok (.iload 4, 2) := by decide +kernel
theorem dX4_digest_118 : decode cX4_digest 118 = .ok (.invokevirtual 104, 3) := by decide +kernel
theorem dX4_digest_121 : decode cX4_digest 121 = .ok (.i2l, 1) := by decide +kernel
theorem dX4_digest_122 : decode cX4_digest 122 = .ok (.ladd, 1) := by decide +kernel
theorem dX4_digest_123 : decode cX4_digest 123 = .ok (.lstore_n 1, 1) := by decide +kernel
theorem dX4_digest_124 : decode cX4_digest 124 = .ok (.iinc 4 1, 3) := by decide +kernel
theorem dX4_digest_127 : decode cX4_digest 127 = .ok (.goto (-27), 3) := by decide +kernel
theorem dX4_digest_130 : decode cX4_digest 130 = .ok (.iinc 3 1, 3) := by decide +kernel
theorem dX4_digest_133 : decode cX4_digest 133 = .ok (.goto (-47), 3) := by decide +kernel
theorem dX4_digest_136 : decode cX4_digest 136 = .ok (.iconst 0, 1) := by decide +kernel
theorem dX4_digest_137 : decode cX4_digest 137 = .ok (.istore_n 3, 1) := by decide +kernel
theorem dX4_digest_138 : decode cX4_digest 138 = .ok (.iload_n 3, 1) := by decide +kernel
theorem dX4_digest_139 : decode cX4_digest 139 = .ok (.aload_n 0, 1) := by decide +kernel
theorem dX4_digest_140 : decode cX4_digest 140 = .ok (.getfield 28, 3) := by decide +kernel
theorem dX4_digest_143 : decode cX4_digest 143 = .ok (.getfield 118, 3) := by decide +kernel
theorem dX4_digest_146 : decode cX4_digest 146 = .ok (.if_icmp .ge 42, 3) := by decide +kernel
theorem dX4_digest_149 : decode cX4_digest 149 = .ok (.iconst 0, 1) := by decide +kernel
theorem dX4_digest_150 : decode cX4_digest 150 = .ok (.istore 4, 2) := by decide +kernel
theorem dX4_digest_152 : decode cX4_digest 152 = .ok (.iload 4, 2) := by decide +kernel
theorem dX4_digest_154 : decode cX4_digest 154 = .ok (.iconst 5, 1) := by decide +kernel
theorem dX4_digest_155 : decode cX4_digest 155 = .ok (.if_icmp .ge 27, 3) := by decide +kernel
theorem dX4_digest_158 : decode cX4_digest 158 = .ok (.lload_n 1, 1) := by decide +kernel
theorem dX4_digest_159 : decode cX4_digest 159 = .ok (.ldc2_w 166, 3) := by decide +kernel
theorem dX4_digest_162 : decode cX4_digest 162 = .ok (.lmul, 1) := by decide +kernel
theorem dX4_digest_163 : decode cX4_digest 163 = .ok (.aload_n 0, 1) := by decide +kernel
theorem dX4_digest_164 : decode cX4_digest 164 = .ok (.getfield 28, 3) := by decide +kernel
theorem dX4_digest_167 : decode cX4_digest 167 = .ok (.iload_n 3, 1) := by decide +kernel
theorem dX4_digest_168 : decode cX4_digest 168 = .ok (.iload 4, 2) := by decide +kernel
theorem dX4_digest_170 : decode cX4_digest 170 = .ok (.invokevirtual 121, 3) := by decide +kernel
theorem dX4_digest_173 : decode cX4_digest 173 = .ok (.i2l, 1) := by decide +kernel
theorem dX4_digest_174 : decode cX4_digest 174 = .ok (.ladd, 1) := by decide +kernel
theorem dX4_digest_175 : decode cX4_digest 175 = .ok (.lstore_n 1, 1) := by decide +kernel
theorem dX4_digest_176 : decode cX4_digest 176 = .ok (.iinc 4 1, 3) := by decide +kernel
theorem dX4_digest_179 : decode cX4_digest 179 = .ok (.goto (-27), 3) := by decide +kernel
theorem dX4_digest_182 : decode cX4_digest 182 = .ok (.iinc 3 1, 3) := by decide +kernel
theorem dX4_digest_185 : decode cX4_digest 185 = .ok (.goto (-47), 3) := by decide +kernel
theorem dX4_digest_188 : decode cX4_digest 188 = .ok (.lload_n 1, 1) := by decide +kernel
theorem dX4_digest_189 : decode cX4_digest 189 = .ok (.ldc2_w 166, 3) := by decide +kernel
theorem dX4_digest_192 : decode cX4_digest 192 = .ok (.lmul, 1) := by decide +kernel
theorem dX4_digest_193 : decode cX4_digest 193 = .ok (.aload_n 0, 1) := by decide +kernel
theorem dX4_digest_194 : decode cX4_digest 194 = .ok (.getfield 28, 3) := by decide +kernel
theorem dX4_digest_197 : decode cX4_digest 197 = .ok (.invokevirtual 124, 3) := by decide +kernel
theorem dX4_digest_200 : decode cX4_digest 200 = .ok (.ifCond .eq 7, 3) := by decide +kernel
theorem dX4_digest_203 : decode cX4_digest 203 = .ok (.iconst 1, 1) := by decide +kernel
theorem dX4_digest_204 : decode cX4_digest 204 = .ok (.goto 4, 3) := by decide +kernel
theorem dX4_digest_207 : decode cX4_digest 207 = .ok (.iconst 0, 1) := by decide +kernel
theorem dX4_digest_208 : decode cX4_digest 208 = .ok (.i2l, 1) := by decide +kernel
theorem dX4_digest_209 : decode cX4_digest 209 = .ok (.ladd, 1) := by decide +kernel
theorem dX4_digest_210 : decode cX4_digest 210 = .ok (.lreturn, 1) := by decide +kernel
set_option maxRecDepth 20000 in
theorem ggX4_countFact_X0_openPassages : GoodIn wsX4_countFact wsX0_openPassages := goodIn_r _ [10, 11, 12, 13, 14, 9, 15, 16, 17, 18, 19, 33, 34, 35, 36, 37, 38, 39, 40, 41, 42, 43, 44, 45, 46, 47] (by decide +kernel) (by decide +kernel)
set_option maxRecDepth 20000 in
theorem gX4_countFact_X0_openPassages : GoodIn wsX4_countFact (wsV RX4 168 RX0 yX0_openPassages wsX0_openPassages) := goodIn_app (goodIn_of _ (by decide +kernel)) ggX4_countFact_X0_openPassages
set_option maxRecDepth 20000 in
theorem ggX4_countFact_X0_clappers : GoodIn wsX4_countFact wsX0_clappers := goodIn_r _ [23, 24, 25, 33, 34, 35, 36, 37, 38, 39, 40, 41, 42, 43, 44, 45, 46, 47] (by decide +kernel) (by decide +kernel)
set_option maxRecDepth 20000 in
theorem gX4_countFact_X0_clappers : GoodIn wsX4_countFact (wsV RX4 172 RX0 yX0_clappers wsX0_clappers) := goodIn_app (goodIn_of _ (by decide +kernel)) ggX4_countFact_X0_clappers
theorem dX4_countFact_0 : decode cX4_countFact 0 = .ok (.iload_n 1, 1) := by decide +kernel
theorem dX4_countFact_1 : decode cX4_countFact 1 = .ok (.tableswitch 114 0 8 #[51, 59, 67, 75, 83, 91, 96, 101, 106], 51) := by decide +kernel
theorem dX4_countFact_52 : decode cX4_countFact 52 = .ok (.aload_n 0, 1) := by decide +kernel
theorem dX4_countFact_53 : decode cX4_countFact 53 = .ok (.getfield 12, 3) := by decide +kernel
theorem dX4_countFact_56 : decode cX4_countFact 56 = .ok (.getfield 53, 3) := by decide +kernel
theorem dX4_countFact_59 : decode cX4_countFact 59 = .ok (.ireturn, 1) := by decide +kernel
theorem dX4_countFact_60 : decode cX4_countFact 60 = .ok (.aload_n 0, 1) := by decide +kernel
theorem dX4_countFact_61 : decode cX4_countFact 61 = .ok (.getfield 12, 3) := by decide +kernel
theorem dX4_countFact_64 : decode cX4_countFact 64 = .ok (.getfield 74, 3) := by decide +kernel
theorem dX4_countFact_67 : decode cX4_countFact 67 = .ok (.ireturn, 1) := by decide +kernel
theorem dX4_countFact_68 : decode cX4_countFact 68 = .ok (.aload_n 0, 1) := by decide +kernel
theorem dX4_countFact_69 : decode cX4_countFact 69 = .ok (.getfield 12, 3) := by decide +kernel
theorem dX4_countFact_72 : decode cX4_countFact 72 = .ok (.invokevirtual 168, 3) := by decide +kernel
theorem dX4_countFact_75 : decode cX4_countFact 75 = .ok (.ireturn, 1) := by decide +kernel
theorem dX4_countFact_76 : decode cX4_countFact 76 = .ok (.aload_n 0, 1) := by decide +kernel
theorem dX4_countFact_77 : decode cX4_countFact 77 = .ok (.getfield 12, 3) := by decide +kernel
theorem dX4_countFact_80 : decode cX4_countFact 80 = .ok (.invokevirtual 172, 3) := by decide +kernel
theorem dX4_countFact_83 : decode cX4_countFact 83 = .ok (.ireturn, 1) := by decide +kernel
theorem dX4_countFact_84 : decode cX4_countFact 84 = .ok (.aload_n 0, 1) := by decide +kernel
theorem dX4_countFact_85 : decode cX4_countFact 85 = .ok (.getfield 12, 3) := by decide +kernel
theorem dX4_countFact_88 : decode cX4_countFact 88 = .ok (.getfield 83, 3) := by decide +kernel
theorem dX4_countFact_91 : decode cX4_countFact 91 = .ok (.ireturn, 1) := by decide +kernel
theorem dX4_countFact_92 : decode cX4_countFact 92 = .ok (.aload_n 0, 1) := by decide +kernel
theorem dX4_countFact_93 : decode cX4_countFact 93 = .ok (.getfield 35, 3) := by decide +kernel
theorem dX4_countFact_96 : decode cX4_countFact 96 = .ok (.ireturn, 1) := by decide +kernel
theorem dX4_countFact_97 : decode cX4_countFact 97 = .ok (.aload_n 0, 1) := by decide +kernel
theorem dX4_countFact_98 : decode cX4_countFact 98 = .ok (.getfield 39, 3) := by decide +kernel
theorem dX4_countFact_101 : decode cX4_countFact 101 = .ok (.ireturn, 1) := by decide +kernel
theorem dX4_countFact_102 : decode cX4_countFact 102 = .ok (.aload_n 0, 1) := by decide +kernel
theorem dX4_countFact_103 : decode cX4_countFact 103 = .ok (.getfield 42, 3) := by decide +kernel
theorem dX4_countFact_106 : decode cX4_countFact 106 = .ok (.ireturn, 1) := by decide +kernel
theorem dX4_countFact_107 : decode cX4_countFact 107 = .ok (.aload_n 0, 1) := by decide +kernel
theorem dX4_countFact_108 : decode cX4_countFact 108 = .ok (.getfield 28, 3) := by decide +kernel
theorem dX4_countFact_111 : decode cX4_countFact 111 = .ok (.getfield 118, 3) := by decide +kernel
theorem dX4_countFact_114 : decode cX4_countFact 114 = .ok (.ireturn, 1) := by decide +kernel
theorem dX4_countFact_115 : decode cX4_countFact 115 = .ok (.aload_n 0, 1) := by decide +kernel
theorem dX4_countFact_116 : decode cX4_countFact 116 = .ok (.getfield 28, 3) := by decide +kernel
theorem dX4_countFact_119 : decode cX4_countFact 119 = .ok (.getfield 115, 3) := by decide +kernel
theorem dX4_countFact_122 : decode cX4_countFact 122 = .ok (.ireturn, 1) := by decide +kernel
set_option maxRecDepth 20000 in
theorem ggX4_wouldComeInOrder_X3_runThrough : GoodIn wsX4_wouldComeInOrder wsX3_runThrough := goodIn_r _ [8, 9, 10, 11, 12, 13, 14, 15, 16, 17, 18, 19, 20, 21, 22, 23, 24, 25, 26, 27, 28, 29, 30, 31, 7, 32, 33, 34, 35, 36, 37, 38, 39, 40, 41, 42, 43, 44, 45, 46, 47, 48, 49, 50, 51, 52, 53, 54, 55, 56, 57, 58, 59, 60, 61, 62, 63, 64, 65, 66, 67, 68, 69, 70, 71, 72, 73, 74, 75, 76, 77, 78, 79, 80, 81, 82, 83, 84, 85, 86, 87, 88, 89, 90, 91, 92, 93, 94, 95, 96, 97, 98, 99, 100, 101, 102, 103, 104, 105, 106, 107, 108, 109, 110, 111, 112, 113, 114, 115, 116, 117, 118, 119, 120, 121, 122, 123, 124, 125, 126, 127, 128, 129, 130, 131, 132, 133, 134, 135, 136, 137, 138, 139, 140, 141, 142, 143, 155, 156, 157, 158, 159, 160, 161, 162, 163, 164, 165, 166, 167, 168, 169, 170, 171, 172, 173, 174, 175, 176, 177, 178, 179, 180, 181, 182, 183, 184, 185, 186] (by decide +kernel) (by decide +kernel)
set_option maxRecDepth 20000 in
theorem gX4_wouldComeInOrder_X3_runThrough : GoodIn wsX4_wouldComeInOrder (wsV RX4 111 RX3 yX3_runThrough wsX3_runThrough) := goodIn_app (goodIn_of _ (by decide +kernel)) ggX4_wouldComeInOrder_X3_runThrough
set_option maxRecDepth 20000 in
theorem ggX4_wouldComeInOrder_X2_cameInOrder : GoodIn wsX4_wouldComeInOrder wsX2_cameInOrder := goodIn_r _ [147, 18, 22, 162, 163, 164, 165, 166, 167, 168, 169] (by decide +kernel) (by decide +kernel)
set_option maxRecDepth 20000 in
theorem gX4_wouldComeInOrder_X2_cameInOrder : GoodIn wsX4_wouldComeInOrder (wsV RX4 124 RX2 yX2_cameInOrder wsX2_cameInOrder) := goodIn_app (goodIn_of _ (by decide +kernel)) ggX4_wouldComeInOrder_X2_cameInOrder
theorem dX4_wouldComeInOrder_0 : decode cX4_wouldComeInOrder 0 = .ok (.aload_n 0, 1) := by decide +kernel
theorem dX4_wouldComeInOrder_1 : decode cX4_wouldComeInOrder 1 = .ok (.getfield 21, 3) := by decide +kernel
theorem dX4_wouldComeInOrder_4 : decode cX4_wouldComeInOrder 4 = .ok (.iload_n 1, 1) := by decide +kernel
theorem dX4_wouldComeInOrder_5 : decode cX4_wouldComeInOrder 5 = .ok (.iload_n 2, 1) := by decide +kernel
theorem dX4_wouldComeInOrder_6 : decode cX4_wouldComeInOrder 6 = .ok (.aload_n 0, 1) := by decide +kernel
theorem dX4_wouldComeInOrder_7 : decode cX4_wouldComeInOrder 7 = .ok (.getfield 35, 3) := by decide +kernel
theorem dX4_wouldComeInOrder_10 : decode cX4_wouldComeInOrder 10 = .ok (.aload_n 0, 1) := by decide +kernel
theorem dX4_wouldComeInOrder_11 : decode cX4_wouldComeInOrder 11 = .ok (.getfield 32, 3) := by decide +kernel
theorem dX4_wouldComeInOrder_14 : decode cX4_wouldComeInOrder 14 = .ok (.invokevirtual 111, 3) := by decide +kernel
theorem dX4_wouldComeInOrder_17 : decode cX4_wouldComeInOrder 17 = .ok (.aload_n 0, 1) := by decide +kernel
theorem dX4_wouldComeInOrder_18 : decode cX4_wouldComeInOrder 18 = .ok (.getfield 32, 3) := by decide +kernel
theorem dX4_wouldComeInOrder_21 : decode cX4_wouldComeInOrder 21 = .ok (.invokevirtual 124, 3) := by decide +kernel
theorem dX4_wouldComeInOrder_24 : decode cX4_wouldComeInOrder 24 = .ok (.ireturn, 1) := by decide +kernel
theorem dX4_isWithin_0 : decode cX4_isWithin 0 = .ok (.iload_n 1, 1) := by decide +kernel
theorem dX4_isWithin_1 : decode cX4_isWithin 1 = .ok (.iload_n 0, 1) := by decide +kernel
theorem dX4_isWithin_2 : decode cX4_isWithin 2 = .ok (.if_icmp .gt 12, 3) := by decide +kernel
theorem dX4_isWithin_5 : decode cX4_isWithin 5 = .ok (.iload_n 0, 1) := by decide +kernel
theorem dX4_isWithin_6 : decode cX4_isWithin 6 = .ok (.iload_n 2, 1) := by decide +kernel
theorem dX4_isWithin_7 : decode cX4_isWithin 7 = .ok (.if_icmp .gt 7, 3) := by decide +kernel
theorem dX4_isWithin_10 : decode cX4_isWithin 10 = .ok (.iconst 1, 1) := by decide +kernel
theorem dX4_isWithin_11 : decode cX4_isWithin 11 = .ok (.goto 4, 3) := by decide +kernel
theorem dX4_isWithin_14 : decode cX4_isWithin 14 = .ok (.iconst 0, 1) := by decide +kernel
theorem dX4_isWithin_15 : decode cX4_isWithin 15 = .ok (.ireturn, 1) := by decide +kernel
set_option maxRecDepth 20000 in
theorem ggX4_isWord_X4_isWithin : GoodIn wsX4_isWord wsX4_isWithin := goodIn_r _ [5] (by decide +kernel) (by decide +kernel)
set_option maxRecDepth 20000 in
theorem gX4_isWord_X4_isWithin : GoodIn wsX4_isWord (va_wsS RX4 45 yX4_isWithin wsX4_isWithin) := goodIn_app (goodIn_of _ (by decide +kernel)) ggX4_isWord_X4_isWithin
theorem dX4_isWord_0 : decode cX4_isWord 0 = .ok (.iload_n 0, 1) := by decide +kernel
theorem dX4_isWord_1 : decode cX4_isWord 1 = .ok (.iconst 1, 1) := by decide +kernel
theorem dX4_isWord_2 : decode cX4_isWord 2 = .ok (.ldc 175, 2) := by decide +kernel
theorem dX4_isWord_4 : decode cX4_isWord 4 = .ok (.invokestatic 45, 3) := by decide +kernel
theorem dX4_isWord_7 : decode cX4_isWord 7 = .ok (.ifCond .ne 5, 3) := by decide +kernel
theorem dX4_isWord_10 : decode cX4_isWord 10 = .ok (.iconst 0, 1) := by decide +kernel
theorem dX4_isWord_11 : decode cX4_isWord 11 = .ok (.ireturn, 1) := by decide +kernel
theorem dX4_isWord_12 : decode cX4_isWord 12 = .ok (.iload_n 0, 1) := by decide +kernel
theorem dX4_isWord_13 : decode cX4_isWord 13 = .ok (.istore_n 1, 1) := by decide +kernel
theorem dX4_isWord_14 : decode cX4_isWord 14 = .ok (.iload_n 1, 1) := by decide +kernel
theorem dX4_isWord_15 : decode cX4_isWord 15 = .ok (.ifCond .le 20, 3) := by decide +kernel
theorem dX4_isWord_18 : decode cX4_isWord 18 = .ok (.iload_n 1, 1) := by decide +kernel
theorem dX4_isWord_19 : decode cX4_isWord 19 = .ok (.bipush 10, 2) := by decide +kernel
theorem dX4_isWord_21 : decode cX4_isWord 21 = .ok (.irem, 1) := by decide +kernel
theorem dX4_isWord_22 : decode cX4_isWord 22 = .ok (.ifCond .ne 5, 3) := by decide +kernel
theorem dX4_isWord_25 : decode cX4_isWord 25 = .ok (.iconst 0, 1) := by decide +kernel
theorem dX4_isWord_26 : decode cX4_isWord 26 = .ok (.ireturn, 1) := by decide +kernel
theorem dX4_isWord_27 : decode cX4_isWord 27 = .ok (.iload_n 1, 1) := by decide +kernel
theorem dX4_isWord_28 : decode cX4_isWord 28 = .ok (.bipush 10, 2) := by decide +kernel
theorem dX4_isWord_30 : decode cX4_isWord 30 = .ok (.idiv, 1) := by decide +kernel
theorem dX4_isWord_31 : decode cX4_isWord 31 = .ok (.istore_n 1, 1) := by decide +kernel
theorem dX4_isWord_32 : decode cX4_isWord 32 = .ok (.goto (-18), 3) := by decide +kernel
theorem dX4_isWord_35 : decode cX4_isWord 35 = .ok (.iconst 1, 1) := by decide +kernel
theorem dX4_isWord_36 : decode cX4_isWord 36 = .ok (.ireturn, 1) := by decide +kernel
theorem dX4_placesOf_0 : decode cX4_placesOf 0 = .ok (.iconst 0, 1) := by decide +kernel
theorem dX4_placesOf_1 : decode cX4_placesOf 1 = .ok (.istore_n 1, 1) := by decide +kernel
theorem dX4_placesOf_2 : decode cX4_placesOf 2 = .ok (.iload_n 0, 1) := by decide +kernel
theorem dX4_placesOf_3 : decode cX4_placesOf 3 = .ok (.istore_n 2, 1) := by decide +kernel
theorem dX4_placesOf_4 : decode cX4_placesOf 4 = .ok (.iload_n 2, 1) := by decide +kernel
theorem dX4_placesOf_5 : decode cX4_placesOf 5 = .ok (.ifCond .le 20, 3) := by decide +kernel
theorem dX4_placesOf_8 : decode cX4_placesOf 8 = .ok (.iload_n 1, 1) := by decide +kernel
theorem dX4_placesOf_9 : decode cX4_placesOf 9 = .ok (.bipush 6, 2) := by decide +kernel
theorem dX4_placesOf_11 : decode cX4_placesOf 11 = .ok (.if_icmp .ge 14, 3) := by decide +kernel
theorem dX4_placesOf_14 : decode cX4_placesOf 14 = .ok (.iinc 1 1, 3) := by decide +kernel
theorem dX4_placesOf_17 : decode cX4_placesOf 17 = .ok (.iload_n 2, 1) := by decide +kernel
theorem dX4_placesOf_18 : decode cX4_placesOf 18 = .ok (.bipush 10, 2) := by decide +kernel
theorem dX4_placesOf_20 : decode cX4_placesOf 20 = .ok (.idiv, 1) := by decide +kernel
theorem dX4_placesOf_21 : decode cX4_placesOf 21 = .ok (.istore_n 2, 1) := by decide +kernel
theorem dX4_placesOf_22 : decode cX4_placesOf 22 = .ok (.goto (-18), 3) := by decide +kernel
theorem dX4_placesOf_25 : decode cX4_placesOf 25 = .ok (.iload_n 1, 1) := by decide +kernel
theorem dX4_placesOf_26 : decode cX4_placesOf 26 = .ok (.ireturn, 1) := by decide +kernel
theorem dX4_requireIndex_0 : decode cX4_requireIndex 0 = .ok (.iload_n 0, 1) := by decide +kernel
theorem dX4_requireIndex_1 : decode cX4_requireIndex 1 = .ok (.ifCond .ne 13, 3) := by decide +kernel
theorem dX4_requireIndex_4 : decode cX4_requireIndex 4 = .ok (.new 176, 3) := by decide +kernel
theorem dX4_requireIndex_7 : decode cX4_requireIndex 7 = .ok (.dup, 1) := by decide +kernel
theorem dX4_requireIndex_8 : decode cX4_requireIndex 8 = .ok (.ldc 178, 2) := by decide +kernel
theorem dX4_requireIndex_10 : decode cX4_requireIndex 10 = .ok (.invokespecial 180, 3) := by decide +kernel
theorem dX4_requireIndex_13 : decode cX4_requireIndex 13 = .ok (.athrow, 1) := by decide +kernel
theorem dX4_requireIndex_14 : decode cX4_requireIndex 14 = .ok (.return_, 1) := by decide +kernel
theorem dX4_requireArgument_0 : decode cX4_requireArgument 0 = .ok (.iload_n 0, 1) := by decide +kernel
theorem dX4_requireArgument_1 : decode cX4_requireArgument 1 = .ok (.ifCond .ne 13, 3) := by decide +kernel
theorem dX4_requireArgument_4 : decode cX4_requireArgument 4 = .ok (.new 181, 3) := by decide +kernel
theorem dX4_requireArgument_7 : decode cX4_requireArgument 7 = .ok (.dup, 1) := by decide +kernel
theorem dX4_requireArgument_8 : decode cX4_requireArgument 8 = .ok (.ldc 183, 2) := by decide +kernel
theorem dX4_requireArgument_10 : decode cX4_requireArgument 10 = .ok (.invokespecial 185, 3) := by decide +kernel
theorem dX4_requireArgument_13 : decode cX4_requireArgument 13 = .ok (.athrow, 1) := by decide +kernel
theorem dX4_requireArgument_14 : decode cX4_requireArgument 14 = .ok (.return_, 1) := by decide +kernel
set_option maxRecDepth 20000 in
theorem ggX4_requireWordAndBeat_X4_isWord : GoodIn wsX4_requireWordAndBeat wsX4_isWord := goodIn_r _ [4, 5, 6, 7, 3, 8] (by decide +kernel) (by decide +kernel)
set_option maxRecDepth 20000 in
theorem gX4_requireWordAndBeat_X4_isWord : GoodIn wsX4_requireWordAndBeat (va_wsS RX4 151 yX4_isWord wsX4_isWord) := goodIn_app (goodIn_of _ (by decide +kernel)) ggX4_requireWordAndBeat_X4_isWord
set_option maxRecDepth 20000 in
theorem ggX4_requireWordAndBeat_X4_requireArgument : GoodIn wsX4_requireWordAndBeat wsX4_requireArgument := goodIn_ca (goodIn_r _ [11, 12, 13] (by decide +kernel) (by decide +kernel)) (goodIn_sub (fun _ h => List.mem_cons_of_mem _ (List.mem_append_right _ h)) (by decide +kernel))
set_option maxRecDepth 20000 in
theorem gX4_requireWordAndBeat_X4_requireArgument : GoodIn wsX4_requireWordAndBeat (va_wsS RX4 49 yX4_requireArgument wsX4_requireArgument) := goodIn_app (goodIn_of _ (by decide +kernel)) ggX4_requireWordAndBeat_X4_requireArgument
set_option maxRecDepth 20000 in
theorem ggX4_requireWordAndBeat_X4_isWithin : GoodIn wsX4_requireWordAndBeat wsX4_isWithin := goodIn_r _ [8] (by decide +kernel) (by decide +kernel)
set_option maxRecDepth 20000 in
theorem gX4_requireWordAndBeat_X4_isWithin : GoodIn wsX4_requireWordAndBeat (va_wsS RX4 45 yX4_isWithin wsX4_isWithin) := goodIn_app (goodIn_of _ (by decide +kernel)) ggX4_requireWordAndBeat_X4_isWithin
theorem dX4_requireWordAndBeat_0 : decode cX4_requireWordAndBeat 0 = .ok (.iload_n 0, 1) := by decide +kernel
theorem dX4_requireWordAndBeat_1 : decode cX4_requireWordAndBeat 1 = .ok (.invokestatic 151, 3) := by decide +kernel
theorem dX4_requireWordAndBeat_4 : decode cX4_requireWordAndBeat 4 = .ok (.invokestatic 49, 3) := by decide +kernel
theorem dX4_requireWordAndBeat_7 : decode cX4_requireWordAndBeat 7 = .ok (.iload_n 1, 1) := by decide +kernel
theorem dX4_requireWordAndBeat_8 : decode cX4_requireWordAndBeat 8 = .ok (.iconst 1, 1) := by decide +kernel
theorem dX4_requireWordAndBeat_9 : decode cX4_requireWordAndBeat 9 = .ok (.bipush 20, 2) := by decide +kernel
theorem dX4_requireWordAndBeat_11 : decode cX4_requireWordAndBeat 11 = .ok (.invokestatic 45, 3) := by decide +kernel
theorem dX4_requireWordAndBeat_14 : decode cX4_requireWordAndBeat 14 = .ok (.invokestatic 49, 3) := by decide +kernel
theorem dX4_requireWordAndBeat_17 : decode cX4_requireWordAndBeat 17 = .ok (.return_, 1) := by decide +kernel
theorem dX5_init_0 : decode cX5_init 0 = .ok (.aload_n 0, 1) := by decide +kernel
theorem dX5_init_1 : decode cX5_init 1 = .ok (.aload_n 1, 1) := by decide +kernel
theorem dX5_init_2 : decode cX5_init 2 = .ok (.putfield 3, 3) := by decide +kernel
theorem dX5_init_5 : decode cX5_init 5 = .ok (.aload_n 0, 1) := by decide +kernel
theorem dX5_init_6 : decode cX5_init 6 = .ok (.invokespecial 9, 3) := by decide +kernel
theorem dX5_init_9 : decode cX5_init 9 = .ok (.aload_n 0, 1) := by decide +kernel
theorem dX5_init_10 : decode cX5_init 10 = .ok (.iconst (-1), 1) := by decide +kernel
theorem dX5_init_11 : decode cX5_init 11 = .ok (.putfield 15, 3) := by decide +kernel
theorem dX5_init_14 : decode cX5_init 14 = .ok (.aload_n 0, 1) := by decide +kernel
theorem dX5_init_15 : decode cX5_init 15 = .ok (.bipush 6, 2) := by decide +kernel
theorem dX5_init_17 : decode cX5_init 17 = .ok (.newarray .int, 2) := by decide +kernel
theorem dX5_init_19 : decode cX5_init 19 = .ok (.putfield 19, 3) := by decide +kernel
theorem dX5_init_22 : decode cX5_init 22 = .ok (.aload_n 0, 1) := by decide +kernel
theorem dX5_init_23 : decode cX5_init 23 = .ok (.sipush 300, 3) := by decide +kernel
theorem dX5_init_26 : decode cX5_init 26 = .ok (.newarray .int, 2) := by decide +kernel
theorem dX5_init_28 : decode cX5_init 28 = .ok (.putfield 23, 3) := by decide +kernel
theorem dX5_init_31 : decode cX5_init 31 = .ok (.aload_n 0, 1) := by decide +kernel
theorem dX5_init_32 : decode cX5_init 32 = .ok (.bipush 17, 2) := by decide +kernel
theorem dX5_init_34 : decode cX5_init 34 = .ok (.newarray .int, 2) := by decide +kernel
theorem dX5_init_36 : decode cX5_init 36 = .ok (.putfield 26, 3) := by decide +kernel
theorem dX5_init_39 : decode cX5_init 39 = .ok (.aload_n 0, 1) := by decide +kernel
theorem dX5_init_40 : decode cX5_init 40 = .ok (.bipush 17, 2) := by decide +kernel
theorem dX5_init_42 : decode cX5_init 42 = .ok (.newarray .int, 2) := by decide +kernel
theorem dX5_init_44 : decode cX5_init 44 = .ok (.putfield 29, 3) := by decide +kernel
theorem dX5_init_47 : decode cX5_init 47 = .ok (.aload_n 0, 1) := by decide +kernel
theorem dX5_init_48 : decode cX5_init 48 = .ok (.bipush 17, 2) := by decide +kernel
theorem dX5_init_50 : decode cX5_init 50 = .ok (.newarray .int, 2) := by decide +kernel
theorem dX5_init_52 : decode cX5_init 52 = .ok (.putfield 32, 3) := by decide +kernel
theorem dX5_init_55 : decode cX5_init 55 = .ok (.aload_n 0, 1) := by decide +kernel
theorem dX5_init_56 : decode cX5_init 56 = .ok (.bipush 17, 2) := by decide +kernel
theorem dX5_init_58 : decode cX5_init 58 = .ok (.newarray .int, 2) := by decide +kernel
theorem dX5_init_60 : decode cX5_init 60 = .ok (.putfield 35, 3) := by decide +kernel
theorem dX5_init_63 : decode cX5_init 63 = .ok (.aload_n 0, 1) := by decide +kernel
theorem dX5_init_64 : decode cX5_init 64 = .ok (.sipush 629, 3) := by decide +kernel
theorem dX5_init_67 : decode cX5_init 67 = .ok (.newarray .int, 2) := by decide +kernel
theorem dX5_init_69 : decode cX5_init 69 = .ok (.putfield 38, 3) := by decide +kernel
theorem dX5_init_72 : decode cX5_init 72 = .ok (.aload_n 0, 1) := by decide +kernel
theorem dX5_init_73 : decode cX5_init 73 = .ok (.sipush 629, 3) := by decide +kernel
theorem dX5_init_76 : decode cX5_init 76 = .ok (.newarray .int, 2) := by decide +kernel
theorem dX5_init_78 : decode cX5_init 78 = .ok (.putfield 41, 3) := by decide +kernel
theorem dX5_init_81 : decode cX5_init 81 = .ok (.return_, 1) := by decide +kernel
theorem dX5_instead_0 : decode cX5_instead 0 = .ok (.aload_n 0, 1) := by decide +kernel
theorem dX5_instead_1 : decode cX5_instead 1 = .ok (.iload_n 1, 1) := by decide +kernel
theorem dX5_instead_2 : decode cX5_instead 2 = .ok (.putfield 15, 3) := by decide +kernel
theorem dX5_instead_5 : decode cX5_instead 5 = .ok (.aload_n 0, 1) := by decide +kernel
theorem dX5_instead_6 : decode cX5_instead 6 = .ok (.iload_n 2, 1) := by decide +kernel
theorem dX5_instead_7 : decode cX5_instead 7 = .ok (.putfield 44, 3) := by decide +kernel
theorem dX5_instead_10 : decode cX5_instead 10 = .ok (.aload_n 0, 1) := by decide +kernel
theorem dX5_instead_11 : decode cX5_instead 11 = .ok (.iload_n 3, 1) := by decide +kernel
theorem dX5_instead_12 : decode cX5_instead 12 = .ok (.putfield 47, 3) := by decide +kernel
theorem dX5_instead_15 : decode cX5_instead 15 = .ok (.return_, 1) := by decide +kernel
theorem dX5_come_0 : decode cX5_come 0 = .ok (.iload_n 1, 1) := by decide +kernel
theorem dX5_come_1 : decode cX5_come 1 = .ok (.sipush 200, 3) := by decide +kernel
theorem dX5_come_4 : decode cX5_come 4 = .ok (.if_icmp .le 4, 3) := by decide +kernel
theorem dX5_come_7 : decode cX5_come 7 = .ok (.return_, 1) := by decide +kernel
theorem dX5_come_8 : decode cX5_come 8 = .ok (.iload_n 1, 1) := by decide +kernel
theorem dX5_come_9 : decode cX5_come 9 = .ok (.bipush 12, 2) := by decide +kernel
theorem dX5_come_11 : decode cX5_come 11 = .ok (.imul, 1) := by decide +kernel
theorem dX5_come_12 : decode cX5_come 12 = .ok (.iload_n 2, 1) := by decide +kernel
theorem dX5_come_13 : decode cX5_come 13 = .ok (.iadd, 1) := by decide +kernel
theorem dX5_come_14 : decode cX5_come 14 = .ok (.bipush 17, 2) := by decide +kernel
theorem dX5_come_16 : decode cX5_come 16 = .ok (.imul, 1) := by decide +kernel
theorem dX5_come_17 : decode cX5_come 17 = .ok (.iload_n 3, 1) := by decide +kernel
theorem dX5_come_18 : decode cX5_come 18 = .ok (.iadd, 1) := by decide +kernel
theorem dX5_come_19 : decode cX5_come 19 = .ok (.bipush 19, 2) := by decide +kernel
theorem dX5_come_21 : decode cX5_come 21 = .ok (.imul, 1) := by decide +kernel
theorem dX5_come_22 : decode cX5_come 22 = .ok (.iload 4, 2) := by decide +kernel
theorem dX5_come_24 : decode cX5_come 24 = .ok (.iadd, 1) := by decide +kernel
theorem dX5_come_25 : decode cX5_come 25 = .ok (.iconst 1, 1) := by decide +kernel
theorem dX5_come_26 : decode cX5_come 26 = .ok (.iadd, 1) := by decide +kernel
theorem dX5_come_27 : decode cX5_come 27 = .ok (.istore 6, 2) := by decide +kernel
theorem dX5_come_29 : decode cX5_come 29 = .ok (.aload_n 0, 1) := by decide +kernel
theorem dX5_come_30 : decode cX5_come 30 = .ok (.getfield 50, 3) := by decide +kernel
theorem dX5_come_33 : decode cX5_come 33 = .ok (.istore 7, 2) := by decide +kernel
theorem dX5_come_35 : decode cX5_come 35 = .ok (.iload 7, 2) := by decide +kernel
theorem dX5_come_37 : decode cX5_come 37 = .ok (.ifCond .le 55, 3) := by decide +kernel
theorem dX5_come_40 : decode cX5_come 40 = .ok (.aload_n 0, 1) := by decide +kernel
theorem dX5_come_41 : decode cX5_come 41 = .ok (.getfield 38, 3) := by decide +kernel
theorem dX5_come_44 : decode cX5_come 44 = .ok (.iload 7, 2) := by decide +kernel
theorem dX5_come_46 : decode cX5_come 46 = .ok (.iconst 1, 1) := by decide +kernel
theorem dX5_come_47 : decode cX5_come 47 = .ok (.isub, 1) := by decide +kernel
theorem dX5_come_48 : decode cX5_come 48 = .ok (.iaload, 1) := by decide +kernel
theorem dX5_come_49 : decode cX5_come 49 = .ok (.iload 6, 2) := by decide +kernel
theorem dX5_come_51 : decode cX5_come 51 = .ok (.if_icmp .ge 41, 3) := by decide +kernel
theorem dX5_come_54 : decode cX5_come 54 = .ok (.aload_n 0, 1) := by decide +kernel
theorem dX5_come_55 : decode cX5_come 55 = .ok (.getfield 38, 3) := by decide +kernel
theorem dX5_come_58 : decode cX5_come 58 = .ok (.iload 7, 2) := by decide +kernel
theorem dX5_come_60 : decode cX5_come 60 = .ok (.aload_n 0, 1) := by decide +kernel
theorem dX5_come_61 : decode cX5_come 61 = .ok (.getfield 38, 3) := by decide +kernel
theorem dX5_come_64 : decode cX5_come 64 = .ok (.iload 7, 2) := by decide +kernel
theorem dX5_come_66 : decode cX5_come 66 = .ok (.iconst 1, 1) := by decide +kernel
theorem dX5_come_67 : decode cX5_come 67 = .ok (.isub, 1) := by decide +kernel
theorem dX5_come_68 : decode cX5_come 68 = .ok (.iaload, 1) := by decide +kernel
theorem dX5_come_69 : decode cX5_come 69 = .ok (.iastore, 1) := by decide +kernel
theorem dX5_come_70 : decode cX5_come 70 = .ok (.aload_n 0, 1) := by decide +kernel
theorem dX5_come_71 : decode cX5_come 71 = .ok (.getfield 41, 3) := by decide +kernel
theorem dX5_come_74 : decode cX5_come 74 = .ok (.iload 7, 2) := by decide +kernel
theorem dX5_come_76 : decode cX5_come 76 = .ok (.aload_n 0, 1) := by decide +kernel
theorem dX5_come_77 : decode cX5_come 77 = .ok (.getfield 41, 3) := by decide +kernel
theorem dX5_come_80 : decode cX5_come 80 = .ok (.iload 7, 2) := by decide +kernel
theorem dX5_come_82 : decode cX5_come 82 = .ok (.iconst 1, 1) := by decide +kernel
theorem dX5_come_83 : decode cX5_come 83 = .ok (.isub, 1) := by decide +kernel
theorem dX5_come_84 : decode cX5_come 84 = .ok (.iaload, 1) := by decide +kernel
theorem dX5_come_85 : decode cX5_come 85 = .ok (.iastore, 1) := by decide +kernel
theorem dX5_come_86 : decode cX5_come 86 = .ok (.iinc 7 (-1), 3) := by decide +kernel
theorem dX5_come_89 : decode cX5_come 89 = .ok (.goto (-54), 3) := by decide +kernel
theorem dX5_come_92 : decode cX5_come 92 = .ok (.aload_n 0, 1) := by decide +kernel
theorem dX5_come_93 : decode cX5_come 93 = .ok (.getfield 38, 3) := by decide +kernel
theorem dX5_come_96 : decode cX5_come 96 = .ok (.iload 7, 2) := by decide +kernel
theorem dX5_come_98 : decode cX5_come 98 = .ok (.iload 6, 2) := by decide +kernel
theorem dX5_come_100 : decode cX5_come 100 = .ok (.iastore, 1) := by decide +kernel
theorem dX5_come_101 : decode cX5_come 101 = .ok (.aload_n 0, 1) := by decide +kernel
theorem dX5_come_102 : decode cX5_come 102 = .ok (.getfield 41, 3) := by decide +kernel
theorem dX5_come_105 : decode cX5_come 105 = .ok (.iload 7, 2) := by decide +kernel
theorem dX5_come_107 : decode cX5_come 107 = .ok (.iload 5, 2) := by decide +kernel
theorem dX5_come_109 : decode cX5_come 109 = .ok (.iastore, 1) := by decide +kernel
theorem dX5_come_110 : decode cX5_come 110 = .ok (.aload_n 0, 1) := by decide +kernel
theorem dX5_come_111 : decode cX5_come 111 = .ok (.dup, 1) := by decide +kernel
theorem dX5_come_112 : decode cX5_come 112 = .ok (.getfield 50, 3) := by decide +kernel
theorem dX5_come_115 : decode cX5_come 115 = .ok (.iconst 1, 1) := by decide +kernel
theorem dX5_come_116 : decode cX5_come 116 = .ok (.iadd, 1) := by decide +kernel
theorem dX5_come_117 : decode cX5_come 117 = .ok (.putfield 50, 3) := by decide +kernel
theorem dX5_come_120 : decode cX5_come 120 = .ok (.return_, 1) := by decide +kernel
set_option maxRecDepth 20000 in
theorem ggX5_start_X5_come : GoodIn wsX5_start wsX5_come := goodIn_r _ [10, 11, 12, 13, 14, 15, 16, 17, 18, 19, 20, 21, 22, 23, 24, 25, 26, 27, 28, 29, 30, 31, 32, 33, 34] (by decide +kernel) (by decide +kernel)
set_option maxRecDepth 20000 in
theorem gX5_start_X5_come : GoodIn wsX5_start (wsV RX5 56 RX5 yX5_come wsX5_come) := goodIn_app (goodIn_of _ (by decide +kernel)) ggX5_start_X5_come
theorem dX5_start_0 : decode cX5_start 0 = .ok (.aload_n 0, 1) := by decide +kernel
theorem dX5_start_1 : decode cX5_start 1 = .ok (.getfield 26, 3) := by decide +kernel
theorem dX5_start_4 : decode cX5_start 4 = .ok (.aload_n 0, 1) := by decide +kernel
theorem dX5_start_5 : decode cX5_start 5 = .ok (.getfield 53, 3) := by decide +kernel
theorem dX5_start_8 : decode cX5_start 8 = .ok (.iload_n 3, 1) := by decide +kernel
theorem dX5_start_9 : decode cX5_start 9 = .ok (.iastore, 1) := by decide +kernel
theorem dX5_start_10 : decode cX5_start 10 = .ok (.aload_n 0, 1) := by decide +kernel
theorem dX5_start_11 : decode cX5_start 11 = .ok (.getfield 29, 3) := by decide +kernel
theorem dX5_start_14 : decode cX5_start 14 = .ok (.aload_n 0, 1) := by decide +kernel
theorem dX5_start_15 : decode cX5_start 15 = .ok (.getfield 53, 3) := by decide +kernel
theorem dX5_start_18 : decode cX5_start 18 = .ok (.iload 4, 2) := by decide +kernel
theorem dX5_start_20 : decode cX5_start 20 = .ok (.iastore, 1) := by decide +kernel
theorem dX5_start_21 : decode cX5_start 21 = .ok (.aload_n 0, 1) := by decide +kernel
theorem dX5_start_22 : decode cX5_start 22 = .ok (.getfield 32, 3) := by decide +kernel
theorem dX5_start_25 : decode cX5_start 25 = .ok (.aload_n 0, 1) := by decide +kernel
theorem dX5_start_26 : decode cX5_start 26 = .ok (.getfield 53, 3) := by decide +kernel
theorem dX5_start_29 : decode cX5_start 29 = .ok (.iconst 0, 1) := by decide +kernel
theorem dX5_start_30 : decode cX5_start 30 = .ok (.iastore, 1) := by decide +kernel
theorem dX5_start_31 : decode cX5_start 31 = .ok (.aload_n 0, 1) := by decide +kernel
theorem dX5_start_32 : decode cX5_start 32 = .ok (.getfield 35, 3) := by decide +kernel
theorem dX5_start_35 : decode cX5_start 35 = .ok (.aload_n 0, 1) := by decide +kernel
theorem dX5_start_36 : decode cX5_start 36 = .ok (.getfield 53, 3) := by decide +kernel
theorem dX5_start_39 : decode cX5_start 39 = .ok (.iconst 0, 1) := by decide +kernel
theorem dX5_start_40 : decode cX5_start 40 = .ok (.iastore, 1) := by decide +kernel
theorem dX5_start_41 : decode cX5_start 41 = .ok (.aload_n 0, 1) := by decide +kernel
theorem dX5_start_42 : decode cX5_start 42 = .ok (.iload_n 1, 1) := by decide +kernel
theorem dX5_start_43 : decode cX5_start 43 = .ok (.iload_n 2, 1) := by decide +kernel
theorem dX5_start_44 : decode cX5_start 44 = .ok (.aload_n 0, 1) := by decide +kernel
theorem dX5_start_45 : decode cX5_start 45 = .ok (.getfield 53, 3) := by decide +kernel
theorem dX5_start_48 : decode cX5_start 48 = .ok (.iconst (-1), 1) := by decide +kernel
theorem dX5_start_49 : decode cX5_start 49 = .ok (.iload 5, 2) := by decide +kernel
theorem dX5_start_51 : decode cX5_start 51 = .ok (.invokevirtual 56, 3) := by decide +kernel
theorem dX5_start_54 : decode cX5_start 54 = .ok (.aload_n 0, 1) := by decide +kernel
theorem dX5_start_55 : decode cX5_start 55 = .ok (.dup, 1) := by decide +kernel
theorem dX5_start_56 : decode cX5_start 56 = .ok (.getfield 53, 3) := by decide +kernel
theorem dX5_start_59 : decode cX5_start 59 = .ok (.iconst 1, 1) := by decide +kernel
theorem dX5_start_60 : decode cX5_start 60 = .ok (.iadd, 1) := by decide +kernel
theorem dX5_start_61 : decode cX5_start 61 = .ok (.putfield 53, 3) := by decide +kernel
theorem dX5_start_64 : decode cX5_start 64 = .ok (.return_, 1) := by decide +kernel
set_option maxRecDepth 20000 in
theorem ggX5_go_X5_come : GoodIn wsX5_go wsX5_come := goodIn_r _ [8, 9, 10, 11, 12, 13, 14, 15, 16, 17, 18, 19, 20, 21, 22, 23, 24, 25, 26, 27, 28, 29, 30, 31, 32] (by decide +kernel) (by decide +kernel)
set_option maxRecDepth 20000 in
theorem gX5_go_X5_come : GoodIn wsX5_go (wsV RX5 56 RX5 yX5_come wsX5_come) := goodIn_app (goodIn_of _ (by decide +kernel)) ggX5_go_X5_come
theorem dX5_go_0 : decode cX5_go 0 = .ok (.aload_n 0, 1) := by decide +kernel
theorem dX5_go_1 : decode cX5_go 1 = .ok (.getfield 3, 3) := by decide +kernel
theorem dX5_go_4 : decode cX5_go 4 = .ok (.getfield 60, 3) := by decide +kernel
theorem dX5_go_7 : decode cX5_go 7 = .ok (.iconst 4, 1) := by decide +kernel
theorem dX5_go_8 : decode cX5_go 8 = .ok (.iload 4, 2) := by decide +kernel
theorem dX5_go_10 : decode cX5_go 10 = .ok (.imul, 1) := by decide +kernel
theorem dX5_go_11 : decode cX5_go 11 = .ok (.iaload, 1) := by decide +kernel
theorem dX5_go_12 : decode cX5_go 12 = .ok (.iload_n 2, 1) := by decide +kernel
theorem dX5_go_13 : decode cX5_go 13 = .ok (.if_icmp .ne 7, 3) := by decide +kernel
theorem dX5_go_16 : decode cX5_go 16 = .ok (.iconst 1, 1) := by decide +kernel
theorem dX5_go_17 : decode cX5_go 17 = .ok (.goto 4, 3) := by decide +kernel
theorem dX5_go_20 : decode cX5_go 20 = .ok (.iconst 0, 1) := by decide +kernel
theorem dX5_go_21 : decode cX5_go 21 = .ok (.istore 6, 2) := by decide +kernel
theorem dX5_go_23 : decode cX5_go 23 = .ok (.iload 6, 2) := by decide +kernel
theorem dX5_go_25 : decode cX5_go 25 = .ok (.ifCond .eq 12, 3) := by decide +kernel
theorem dX5_go_28 : decode cX5_go 28 = .ok (.aload_n 0, 1) := by decide +kernel
theorem dX5_go_29 : decode cX5_go 29 = .ok (.getfield 32, 3) := by decide +kernel
theorem dX5_go_32 : decode cX5_go 32 = .ok (.iload_n 3, 1) := by decide +kernel
theorem dX5_go_33 : decode cX5_go 33 = .ok (.iaload, 1) := by decide +kernel
theorem dX5_go_34 : decode cX5_go 34 = .ok (.goto 9, 3) := by decide +kernel
theorem dX5_go_37 : decode cX5_go 37 = .ok (.aload_n 0, 1) := by decide +kernel
theorem dX5_go_38 : decode cX5_go 38 = .ok (.getfield 35, 3) := by decide +kernel
theorem dX5_go_41 : decode cX5_go 41 = .ok (.iload_n 3, 1) := by decide +kernel
theorem dX5_go_42 : decode cX5_go 42 = .ok (.iaload, 1) := by decide +kernel
theorem dX5_go_43 : decode cX5_go 43 = .ok (.istore 7, 2) := by decide +kernel
theorem dX5_go_45 : decode cX5_go 45 = .ok (.iload 7, 2) := by decide +kernel
theorem dX5_go_47 : decode cX5_go 47 = .ok (.iload 4, 2) := by decide +kernel
theorem dX5_go_49 : decode cX5_go 49 = .ok (.ishr, 1) := by decide +kernel
theorem dX5_go_50 : decode cX5_go 50 = .ok (.iconst 1, 1) := by decide +kernel
theorem dX5_go_51 : decode cX5_go 51 = .ok (.iand, 1) := by decide +kernel
theorem dX5_go_52 : decode cX5_go 52 = .ok (.iconst 1, 1) := by decide +kernel
theorem dX5_go_53 : decode cX5_go 53 = .ok (.if_icmp .ne 4, 3) := by decide +kernel
theorem dX5_go_56 : decode cX5_go 56 = .ok (.return_, 1) := by decide +kernel
theorem dX5_go_57 : decode cX5_go 57 = .ok (.iload 6, 2) := by decide +kernel
theorem dX5_go_59 : decode cX5_go 59 = .ok (.ifCond .eq 19, 3) := by decide +kernel
theorem dX5_go_62 : decode cX5_go 62 = .ok (.aload_n 0, 1) := by decide +kernel
theorem dX5_go_63 : decode cX5_go 63 = .ok (.getfield 32, 3) := by decide +kernel
theorem dX5_go_66 : decode cX5_go 66 = .ok (.iload_n 3, 1) := by decide +kernel
theorem dX5_go_67 : decode cX5_go 67 = .ok (.dup2, 1) := by decide +kernel
theorem dX5_go_68 : decode cX5_go 68 = .ok (.iaload, 1) := by decide +kernel
theorem dX5_go_69 : decode cX5_go 69 = .ok (.iconst 1, 1) := by decide +kernel
theorem dX5_go_70 : decode cX5_go 70 = .ok (.iload 4, 2) := by decide +kernel
theorem dX5_go_72 : decode cX5_go 72 = .ok (.ishl, 1) := by decide +kernel
theorem dX5_go_73 : decode cX5_go 73 = .ok (.ior, 1) := by decide +kernel
theorem dX5_go_74 : decode cX5_go 74 = .ok (.iastore, 1) := by decide +kernel
theorem dX5_go_75 : decode cX5_go 75 = .ok (.goto 16, 3) := by decide +kernel
theorem dX5_go_78 : decode cX5_go 78 = .ok (.aload_n 0, 1) := by decide +kernel
theorem dX5_go_79 : decode cX5_go 79 = .ok (.getfield 35, 3) := by decide +kernel
theorem dX5_go_82 : decode cX5_go 82 = .ok (.iload_n 3, 1) := by decide +kernel
theorem dX5_go_83 : decode cX5_go 83 = .ok (.dup2, 1) := by decide +kernel
theorem dX5_go_84 : decode cX5_go 84 = .ok (.iaload, 1) := by decide +kernel
theorem dX5_go_85 : decode cX5_go 85 = .ok (.iconst 1, 1) := by decide +kernel
theorem dX5_go_86 : decode cX5_go 86 = .ok (.iload 4, 2) := by decide +kernel
theorem dX5_go_88 : decode cX5_go 88 = .ok (.ishl, 1) := by decide +kernel
theorem dX5_go_89 : decode cX5_go 89 = .ok (.ior, 1) := by decide +kernel
theorem dX5_go_90 : decode cX5_go 90 = .ok (.iastore, 1) := by decide +kernel
theorem dX5_go_91 : decode cX5_go 91 = .ok (.aload_n 0, 1) := by decide +kernel
theorem dX5_go_92 : decode cX5_go 92 = .ok (.iload_n 1, 1) := by decide +kernel
theorem dX5_go_93 : decode cX5_go 93 = .ok (.aload_n 0, 1) := by decide +kernel
theorem dX5_go_94 : decode cX5_go 94 = .ok (.getfield 3, 3) := by decide +kernel
theorem dX5_go_97 : decode cX5_go 97 = .ok (.getfield 60, 3) := by decide +kernel
theorem dX5_go_100 : decode cX5_go 100 = .ok (.iconst 4, 1) := by decide +kernel
theorem dX5_go_101 : decode cX5_go 101 = .ok (.iload 4, 2) := by decide +kernel
theorem dX5_go_103 : decode cX5_go 103 = .ok (.imul, 1) := by decide +kernel
theorem dX5_go_104 : decode cX5_go 104 = .ok (.iconst 2, 1) := by decide +kernel
theorem dX5_go_105 : decode cX5_go 105 = .ok (.iadd, 1) := by decide +kernel
theorem dX5_go_106 : decode cX5_go 106 = .ok (.iaload, 1) := by decide +kernel
theorem dX5_go_107 : decode cX5_go 107 = .ok (.iadd, 1) := by decide +kernel
theorem dX5_go_108 : decode cX5_go 108 = .ok (.aload_n 0, 1) := by decide +kernel
theorem dX5_go_109 : decode cX5_go 109 = .ok (.getfield 3, 3) := by decide +kernel
theorem dX5_go_112 : decode cX5_go 112 = .ok (.getfield 60, 3) := by decide +kernel
theorem dX5_go_115 : decode cX5_go 115 = .ok (.iconst 4, 1) := by decide +kernel
theorem dX5_go_116 : decode cX5_go 116 = .ok (.iload 4, 2) := by decide +kernel
theorem dX5_go_118 : decode cX5_go 118 = .ok (.imul, 1) := by decide +kernel
theorem dX5_go_119 : decode cX5_go 119 = .ok (.iaload, 1) := by decide +kernel
theorem dX5_go_120 : decode cX5_go 120 = .ok (.aload_n 0, 1) := by decide +kernel
theorem dX5_go_121 : decode cX5_go 121 = .ok (.getfield 3, 3) := by decide +kernel
theorem dX5_go_124 : decode cX5_go 124 = .ok (.getfield 60, 3) := by decide +kernel
theorem dX5_go_127 : decode cX5_go 127 = .ok (.iconst 4, 1) := by decide +kernel
theorem dX5_go_128 : decode cX5_go 128 = .ok (.iload 4, 2) := by decide +kernel
theorem dX5_go_130 : decode cX5_go 130 = .ok (.imul, 1) := by decide +kernel
theorem dX5_go_131 : decode cX5_go 131 = .ok (.iconst 1, 1) := by decide +kernel
theorem dX5_go_132 : decode cX5_go 132 = .ok (.iadd, 1) := by decide +kernel
theorem dX5_go_133 : decode cX5_go 133 = .ok (.iaload, 1) := by decide +kernel
theorem dX5_go_134 : decode cX5_go 134 = .ok (.iadd, 1) := by decide +kernel
theorem dX5_go_135 : decode cX5_go 135 = .ok (.iload_n 2, 1) := by decide +kernel
theorem dX5_go_136 : decode cX5_go 136 = .ok (.isub, 1) := by decide +kernel
theorem dX5_go_137 : decode cX5_go 137 = .ok (.iload_n 3, 1) := by decide +kernel
theorem dX5_go_138 : decode cX5_go 138 = .ok (.iload 4, 2) := by decide +kernel
theorem dX5_go_140 : decode cX5_go 140 = .ok (.iload 5, 2) := by decide +kernel
theorem dX5_go_142 : decode cX5_go 142 = .ok (.bipush 90, 2) := by decide +kernel
theorem dX5_go_144 : decode cX5_go 144 = .ok (.iconst 5, 1) := by decide +kernel
theorem dX5_go_145 : decode cX5_go 145 = .ok (.aload_n 0, 1) := by decide +kernel
theorem dX5_go_146 : decode cX5_go 146 = .ok (.getfield 3, 3) := by decide +kernel
theorem dX5_go_149 : decode cX5_go 149 = .ok (.getfield 60, 3) := by decide +kernel
theorem dX5_go_152 : decode cX5_go 152 = .ok (.iconst 4, 1) := by decide +kernel
theorem dX5_go_153 : decode cX5_go 153 = .ok (.iload 4, 2) := by decide +kernel
theorem dX5_go_155 : decode cX5_go 155 = .ok (.imul, 1) := by decide +kernel
theorem dX5_go_156 : decode cX5_go 156 = .ok (.iconst 3, 1) := by decide +kernel
theorem dX5_go_157 : decode cX5_go 157 = .ok (.iadd, 1) := by decide +kernel
theorem dX5_go_158 : decode cX5_go 158 = .ok (.iaload, 1) := by decide +kernel
theorem dX5_go_159 : decode cX5_go 159 = .ok (.imul, 1) := by decide +kernel
theorem dX5_go_160 : decode cX5_go 160 = .ok (.isub, 1) := by decide +kernel
theorem dX5_go_161 : decode cX5_go 161 = .ok (.imul, 1) := by decide +kernel
theorem dX5_go_162 : decode cX5_go 162 = .ok (.bipush 100, 2) := by decide +kernel
theorem dX5_go_164 : decode cX5_go 164 = .ok (.idiv, 1) := by decide +kernel
theorem dX5_go_165 : decode cX5_go 165 = .ok (.invokevirtual 56, 3) := by decide +kernel
theorem dX5_go_168 : decode cX5_go 168 = .ok (.return_, 1) := by decide +kernel
theorem dX5_hear_0 : decode cX5_hear 0 = .ok (.aload_n 0, 1) := by decide +kernel
theorem dX5_hear_1 : decode cX5_hear 1 = .ok (.getfield 63, 3) := by decide +kernel
theorem dX5_hear_4 : decode cX5_hear 4 = .ok (.bipush 60, 2) := by decide +kernel
theorem dX5_hear_6 : decode cX5_hear 6 = .ok (.if_icmp .ne 4, 3) := by decide +kernel
theorem dX5_hear_9 : decode cX5_hear 9 = .ok (.return_, 1) := by decide +kernel
theorem dX5_hear_10 : decode cX5_hear 10 = .ok (.iload_n 3, 1) := by decide +kernel
theorem dX5_hear_11 : decode cX5_hear 11 = .ok (.aload_n 0, 1) := by decide +kernel
theorem dX5_hear_12 : decode cX5_hear 12 = .ok (.getfield 3, 3) := by decide +kernel
theorem dX5_hear_15 : decode cX5_hear 15 = .ok (.getfield 66, 3) := by decide +kernel
theorem dX5_hear_18 : decode cX5_hear 18 = .ok (.if_icmp .lt 7, 3) := by decide +kernel
theorem dX5_hear_21 : decode cX5_hear 21 = .ok (.iconst 1, 1) := by decide +kernel
theorem dX5_hear_22 : decode cX5_hear 22 = .ok (.goto 4, 3) := by decide +kernel
theorem dX5_hear_25 : decode cX5_hear 25 = .ok (.iconst 0, 1) := by decide +kernel
theorem dX5_hear_26 : decode cX5_hear 26 = .ok (.istore 4, 2) := by decide +kernel
theorem dX5_hear_28 : decode cX5_hear 28 = .ok (.iconst 5, 1) := by decide +kernel
theorem dX5_hear_29 : decode cX5_hear 29 = .ok (.aload_n 0, 1) := by decide +kernel
theorem dX5_hear_30 : decode cX5_hear 30 = .ok (.getfield 63, 3) := by decide +kernel
theorem dX5_hear_33 : decode cX5_hear 33 = .ok (.imul, 1) := by decide +kernel
theorem dX5_hear_34 : decode cX5_hear 34 = .ok (.istore 5, 2) := by decide +kernel
theorem dX5_hear_36 : decode cX5_hear 36 = .ok (.aload_n 0, 1) := by decide +kernel
theorem dX5_hear_37 : decode cX5_hear 37 = .ok (.getfield 23, 3) := by decide +kernel
theorem dX5_hear_40 : decode cX5_hear 40 = .ok (.iload 5, 2) := by decide +kernel
theorem dX5_hear_42 : decode cX5_hear 42 = .ok (.iload_n 1, 1) := by decide +kernel
theorem dX5_hear_43 : decode cX5_hear 43 = .ok (.iastore, 1) := by decide +kernel
theorem dX5_hear_44 : decode cX5_hear 44 = .ok (.aload_n 0, 1) := by decide +kernel
theorem dX5_hear_45 : decode cX5_hear 45 = .ok (.getfield 23, 3) := by decide +kernel
theorem dX5_hear_48 : decode cX5_hear 48 = .ok (.iload 5, 2) := by decide +kernel
theorem dX5_hear_50 : decode cX5_hear 50 = .ok (.iconst 1, 1) := by decide +kernel
theorem dX5_hear_51 : decode cX5_hear 51 = .ok (.iadd, 1) := by decide +kernel
theorem dX5_hear_52 : decode cX5_hear 52 = .ok (.aload_n 0, 1) := by decide +kernel
theorem dX5_hear_53 : decode cX5_hear 53 = .ok (.getfield 26, 3) := by decide +kernel
theorem dX5_hear_56 : decode cX5_hear 56 = .ok (.iload_n 2, 1) := by decide +kernel
theorem dX5_hear_57 : decode cX5_hear 57 = .ok (.iaload, 1) := by decide +kernel
theorem dX5_hear_58 : decode cX5_hear 58 = .ok (.iastore, 1) := by decide +kernel
theorem dX5_hear_59 : decode cX5_hear 59 = .ok (.aload_n 0, 1) := by decide +kernel
theorem dX5_hear_60 : decode cX5_hear 60 = .ok (.getfield 23, 3) := by decide +kernel
theorem dX5_hear_63 : decode cX5_hear 63 = .ok (.iload 5, 2) := by decide +kernel
theorem dX5_hear_65 : decode cX5_hear 65 = .ok (.iconst 2, 1) := by decide +kernel
theorem dX5_hear_66 : decode cX5_hear 66 = .ok (.iadd, 1) := by decide +kernel
theorem dX5_hear_67 : decode cX5_hear 67 = .ok (.aload_n 0, 1) := by decide +kernel
theorem dX5_hear_68 : decode cX5_hear 68 = .ok (.getfield 29, 3) := by decide +kernel
theorem dX5_hear_71 : decode cX5_hear 71 = .ok (.iload_n 2, 1) := by decide +kernel
theorem dX5_hear_72 : decode cX5_hear 72 = .ok (.iaload, 1) := by decide +kernel
theorem dX5_hear_73 : decode cX5_hear 73 = .ok (.iastore, 1) := by decide +kernel
theorem dX5_hear_74 : decode cX5_hear 74 = .ok (.aload_n 0, 1) := by decide +kernel
theorem dX5_hear_75 : decode cX5_hear 75 = .ok (.getfield 23, 3) := by decide +kernel
theorem dX5_hear_78 : decode cX5_hear 78 = .ok (.iload 5, 2) := by decide +kernel
theorem dX5_hear_80 : decode cX5_hear 80 = .ok (.iconst 3, 1) := by decide +kernel
theorem dX5_hear_81 : decode cX5_hear 81 = .ok (.iadd, 1) := by decide +kernel
theorem dX5_hear_82 : decode cX5_hear 82 = .ok (.iload_n 3, 1) := by decide +kernel
theorem dX5_hear_83 : decode cX5_hear 83 = .ok (.iastore, 1) := by decide +kernel
theorem dX5_hear_84 : decode cX5_hear 84 = .ok (.aload_n 0, 1) := by decide +kernel
theorem dX5_hear_85 : decode cX5_hear 85 = .ok (.getfield 23, 3) := by decide +kernel
theorem dX5_hear_88 : decode cX5_hear 88 = .ok (.iload 5, 2) := by decide +kernel
theorem dX5_hear_90 : decode cX5_hear 90 = .ok (.iconst 4, 1) := by decide +kernel
theorem dX5_hear_91 : decode cX5_hear 91 = .ok (.iadd, 1) := by decide +kernel
theorem dX5_hear_92 : decode cX5_hear 92 = .ok (.iload 4, 2) := by decide +kernel
theorem dX5_hear_94 : decode cX5_hear 94 = .ok (.ifCond .eq 7, 3) := by decide +kernel
theorem dX5_hear_97 : decode cX5_hear 97 = .ok (.iconst 1, 1) := by decide +kernel
theorem dX5_hear_98 : decode cX5_hear 98 = .ok (.goto 4, 3) := by decide +kernel
theorem dX5_hear_101 : decode cX5_hear 101 = .ok (.iconst 0, 1) := by decide +kernel
theorem dX5_hear_102 : decode cX5_hear 102 = .ok (.iastore, 1) := by decide +kernel
theorem dX5_hear_103 : decode cX5_hear 103 = .ok (.aload_n 0, 1) := by decide +kernel
theorem dX5_hear_104 : decode cX5_hear 104 = .ok (.dup, 1) := by decide +kernel
theorem dX5_hear_105 : decode cX5_hear 105 = .ok (.getfield 63, 3) := by decide +kernel
theorem dX5_hear_108 : decode cX5_hear 108 = .ok (.iconst 1, 1) := by decide +kernel
theorem dX5_hear_109 : decode cX5_hear 109 = .ok (.iadd, 1) := by decide +kernel
theorem dX5_hear_110 : decode cX5_hear 110 = .ok (.putfield 63, 3) := by decide +kernel
theorem dX5_hear_113 : decode cX5_hear 113 = .ok (.iload 4, 2) := by decide +kernel
theorem dX5_hear_115 : decode cX5_hear 115 = .ok (.ifCond .ne 4, 3) := by decide +kernel
theorem dX5_hear_118 : decode cX5_hear 118 = .ok (.return_, 1) := by decide +kernel
theorem dX5_hear_119 : decode cX5_hear 119 = .ok (.aload_n 0, 1) := by decide +kernel
theorem dX5_hear_120 : decode cX5_hear 120 = .ok (.dup, 1) := by decide +kernel
theorem dX5_hear_121 : decode cX5_hear 121 = .ok (.getfield 69, 3) := by decide +kernel
theorem dX5_hear_124 : decode cX5_hear 124 = .ok (.iconst 1, 1) := by decide +kernel
theorem dX5_hear_125 : decode cX5_hear 125 = .ok (.iadd, 1) := by decide +kernel
theorem dX5_hear_126 : decode cX5_hear 126 = .ok (.putfield 69, 3) := by decide +kernel
theorem dX5_hear_129 : decode cX5_hear 129 = .ok (.aload_n 0, 1) := by decide +kernel
theorem dX5_hear_130 : decode cX5_hear 130 = .ok (.iload_n 1, 1) := by decide +kernel
theorem dX5_hear_131 : decode cX5_hear 131 = .ok (.putfield 72, 3) := by decide +kernel
theorem dX5_hear_134 : decode cX5_hear 134 = .ok (.aload_n 0, 1) := by decide +kernel
theorem dX5_hear_135 : decode cX5_hear 135 = .ok (.getfield 19, 3) := by decide +kernel
theorem dX5_hear_138 : decode cX5_hear 138 = .ok (.aload_n 0, 1) := by decide +kernel
theorem dX5_hear_139 : decode cX5_hear 139 = .ok (.getfield 26, 3) := by decide +kernel
theorem dX5_hear_142 : decode cX5_hear 142 = .ok (.iload_n 2, 1) := by decide +kernel
theorem dX5_hear_143 : decode cX5_hear 143 = .ok (.iaload, 1) := by decide +kernel
theorem dX5_hear_144 : decode cX5_hear 144 = .ok (.iaload, 1) := by decide +kernel
theorem dX5_hear_145 : decode cX5_hear 145 = .ok (.iconst (-1), 1) := by decide +kernel
theorem dX5_hear_146 : decode cX5_hear 146 = .ok (.if_icmp .ne 15, 3) := by decide +kernel
theorem dX5_hear_149 : decode cX5_hear 149 = .ok (.aload_n 0, 1) := by decide +kernel
theorem dX5_hear_150 : decode cX5_hear 150 = .ok (.getfield 19, 3) := by decide +kernel
theorem dX5_hear_153 : decode cX5_hear 153 = .ok (.aload_n 0, 1) := by decide +kernel
theorem dX5_hear_154 : decode cX5_hear 154 = .ok (.getfield 26, 3) := by decide +kernel
theorem dX5_hear_157 : decode cX5_hear 157 = .ok (.iload_n 2, 1) := by decide +kernel
theorem dX5_hear_158 : decode cX5_hear 158 = .ok (.iaload, 1) := by decide +kernel
theorem dX5_hear_159 : decode cX5_hear 159 = .ok (.iload_n 1, 1) := by decide +kernel
theorem dX5_hear_160 : decode cX5_hear 160 = .ok (.iastore, 1) := by decide +kernel
theorem dX5_hear_161 : decode cX5_hear 161 = .ok (.aload_n 0, 1) := by decide +kernel
theorem dX5_hear_162 : decode cX5_hear 162 = .ok (.getfield 26, 3) := by decide +kernel
theorem dX5_hear_165 : decode cX5_hear 165 = .ok (.iload_n 2, 1) := by decide +kernel
theorem dX5_hear_166 : decode cX5_hear 166 = .ok (.iaload, 1) := by decide +kernel
theorem dX5_hear_167 : decode cX5_hear 167 = .ok (.aload_n 0, 1) := by decide +kernel
theorem dX5_hear_168 : decode cX5_hear 168 = .ok (.getfield 75, 3) := by decide +kernel
theorem dX5_hear_171 : decode cX5_hear 171 = .ok (.if_icmp .ne 13, 3) := by decide +kernel
theorem dX5_hear_174 : decode cX5_hear 174 = .ok (.aload_n 0, 1) := by decide +kernel
theorem dX5_hear_175 : decode cX5_hear 175 = .ok (.dup, 1) := by decide +kernel
theorem dX5_hear_176 : decode cX5_hear 176 = .ok (.getfield 75, 3) := by decide +kernel
theorem dX5_hear_179 : decode cX5_hear 179 = .ok (.iconst 1, 1) := by decide +kernel
theorem dX5_hear_180 : decode cX5_hear 180 = .ok (.iadd, 1) := by decide +kernel
theorem dX5_hear_181 : decode cX5_hear 181 = .ok (.putfield 75, 3) := by decide +kernel
theorem dX5_hear_184 : decode cX5_hear 184 = .ok (.return_, 1) := by decide +kernel
set_option maxRecDepth 20000 in
theorem ggX5_clap_X5_start : GoodIn wsX5_clap wsX5_start := goodIn_r _ [12, 7, 13, 4, 14, 15, 16, 17, 18, 11, 19, 20, 21, 22, 23, 24, 25, 26, 27, 28, 29, 30, 31, 32, 33, 34, 35, 36, 37, 38, 39, 40, 41, 42, 43] (by decide +kernel) (by decide +kernel)
set_option maxRecDepth 20000 in
theorem gX5_clap_X5_start : GoodIn wsX5_clap (wsV RX5 84 RX5 yX5_start wsX5_start) := goodIn_app (goodIn_of _ (by decide +kernel)) ggX5_clap_X5_start
theorem dX5_clap_0 : decode cX5_clap 0 = .ok (.iload_n 2, 1) := by decide +kernel
theorem dX5_clap_1 : decode cX5_clap 1 = .ok (.aload_n 0, 1) := by decide +kernel
theorem dX5_clap_2 : decode cX5_clap 2 = .ok (.getfield 15, 3) := by decide +kernel
theorem dX5_clap_5 : decode cX5_clap 5 = .ok (.if_icmp .ne 10, 3) := by decide +kernel
theorem dX5_clap_8 : decode cX5_clap 8 = .ok (.aload_n 0, 1) := by decide +kernel
theorem dX5_clap_9 : decode cX5_clap 9 = .ok (.getfield 44, 3) := by decide +kernel
theorem dX5_clap_12 : decode cX5_clap 12 = .ok (.goto 16, 3) := by decide +kernel
theorem dX5_clap_15 : decode cX5_clap 15 = .ok (.aload_n 0, 1) := by decide +kernel
theorem dX5_clap_16 : decode cX5_clap 16 = .ok (.getfield 3, 3) := by decide +kernel
theorem dX5_clap_19 : decode cX5_clap 19 = .ok (.getfield 78, 3) := by decide +kernel
theorem dX5_clap_22 : decode cX5_clap 22 = .ok (.iconst 5, 1) := by decide +kernel
theorem dX5_clap_23 : decode cX5_clap 23 = .ok (.iload_n 2, 1) := by decide +kernel
theorem dX5_clap_24 : decode cX5_clap 24 = .ok (.imul, 1) := by decide +kernel
theorem dX5_clap_25 : decode cX5_clap 25 = .ok (.iconst 3, 1) := by decide +kernel
theorem dX5_clap_26 : decode cX5_clap 26 = .ok (.iadd, 1) := by decide +kernel
theorem dX5_clap_27 : decode cX5_clap 27 = .ok (.iaload, 1) := by decide +kernel
theorem dX5_clap_28 : decode cX5_clap 28 = .ok (.istore 4, 2) := by decide +kernel
theorem dX5_clap_30 : decode cX5_clap 30 = .ok (.iload 4, 2) := by decide +kernel
theorem dX5_clap_32 : decode cX5_clap 32 = .ok (.aload_n 0, 1) := by decide +kernel
theorem dX5_clap_33 : decode cX5_clap 33 = .ok (.getfield 29, 3) := by decide +kernel
theorem dX5_clap_36 : decode cX5_clap 36 = .ok (.iload_n 3, 1) := by decide +kernel
theorem dX5_clap_37 : decode cX5_clap 37 = .ok (.iaload, 1) := by decide +kernel
theorem dX5_clap_38 : decode cX5_clap 38 = .ok (.if_icmp .ne 15, 3) := by decide +kernel
theorem dX5_clap_41 : decode cX5_clap 41 = .ok (.aload_n 0, 1) := by decide +kernel
theorem dX5_clap_42 : decode cX5_clap 42 = .ok (.getfield 81, 3) := by decide +kernel
theorem dX5_clap_45 : decode cX5_clap 45 = .ok (.iload_n 2, 1) := by decide +kernel
theorem dX5_clap_46 : decode cX5_clap 46 = .ok (.ishr, 1) := by decide +kernel
theorem dX5_clap_47 : decode cX5_clap 47 = .ok (.iconst 1, 1) := by decide +kernel
theorem dX5_clap_48 : decode cX5_clap 48 = .ok (.iand, 1) := by decide +kernel
theorem dX5_clap_49 : decode cX5_clap 49 = .ok (.iconst 1, 1) := by decide +kernel
theorem dX5_clap_50 : decode cX5_clap 50 = .ok (.if_icmp .ne 4, 3) := by decide +kernel
theorem dX5_clap_53 : decode cX5_clap 53 = .ok (.return_, 1) := by decide +kernel
theorem dX5_clap_54 : decode cX5_clap 54 = .ok (.aload_n 0, 1) := by decide +kernel
theorem dX5_clap_55 : decode cX5_clap 55 = .ok (.dup, 1) := by decide +kernel
theorem dX5_clap_56 : decode cX5_clap 56 = .ok (.getfield 81, 3) := by decide +kernel
theorem dX5_clap_59 : decode cX5_clap 59 = .ok (.iconst 1, 1) := by decide +kernel
theorem dX5_clap_60 : decode cX5_clap 60 = .ok (.iload_n 2, 1) := by decide +kernel
theorem dX5_clap_61 : decode cX5_clap 61 = .ok (.ishl, 1) := by decide +kernel
theorem dX5_clap_62 : decode cX5_clap 62 = .ok (.ior, 1) := by decide +kernel
theorem dX5_clap_63 : decode cX5_clap 63 = .ok (.putfield 81, 3) := by decide +kernel
theorem dX5_clap_66 : decode cX5_clap 66 = .ok (.iload_n 1, 1) := by decide +kernel
theorem dX5_clap_67 : decode cX5_clap 67 = .ok (.iload_n 2, 1) := by decide +kernel
theorem dX5_clap_68 : decode cX5_clap 68 = .ok (.aload_n 0, 1) := by decide +kernel
theorem dX5_clap_69 : decode cX5_clap 69 = .ok (.getfield 15, 3) := by decide +kernel
theorem dX5_clap_72 : decode cX5_clap 72 = .ok (.if_icmp .ne 10, 3) := by decide +kernel
theorem dX5_clap_75 : decode cX5_clap 75 = .ok (.aload_n 0, 1) := by decide +kernel
theorem dX5_clap_76 : decode cX5_clap 76 = .ok (.getfield 47, 3) := by decide +kernel
theorem dX5_clap_79 : decode cX5_clap 79 = .ok (.goto 16, 3) := by decide +kernel
theorem dX5_clap_82 : decode cX5_clap 82 = .ok (.aload_n 0, 1) := by decide +kernel
theorem dX5_clap_83 : decode cX5_clap 83 = .ok (.getfield 3, 3) := by decide +kernel
theorem dX5_clap_86 : decode cX5_clap 86 = .ok (.getfield 78, 3) := by decide +kernel
theorem dX5_clap_89 : decode cX5_clap 89 = .ok (.iconst 5, 1) := by decide +kernel
theorem dX5_clap_90 : decode cX5_clap 90 = .ok (.iload_n 2, 1) := by decide +kernel
theorem dX5_clap_91 : decode cX5_clap 91 = .ok (.imul, 1) := by decide +kernel
theorem dX5_clap_92 : decode cX5_clap 92 = .ok (.iconst 4, 1) := by decide +kernel
theorem dX5_clap_93 : decode cX5_clap 93 = .ok (.iadd, 1) := by decide +kernel
theorem dX5_clap_94 : decode cX5_clap 94 = .ok (.iaload, 1) := by decide +kernel
theorem dX5_clap_95 : decode cX5_clap 95 = .ok (.iadd, 1) := by decide +kernel
theorem dX5_clap_96 : decode cX5_clap 96 = .ok (.istore 5, 2) := by decide +kernel
theorem dX5_clap_98 : decode cX5_clap 98 = .ok (.iload 5, 2) := by decide +kernel
theorem dX5_clap_100 : decode cX5_clap 100 = .ok (.sipush 200, 3) := by decide +kernel
theorem dX5_clap_103 : decode cX5_clap 103 = .ok (.if_icmp .gt 20, 3) := by decide +kernel
theorem dX5_clap_106 : decode cX5_clap 106 = .ok (.aload_n 0, 1) := by decide +kernel
theorem dX5_clap_107 : decode cX5_clap 107 = .ok (.iload 5, 2) := by decide +kernel
theorem dX5_clap_109 : decode cX5_clap 109 = .ok (.iload_n 2, 1) := by decide +kernel
theorem dX5_clap_110 : decode cX5_clap 110 = .ok (.aload_n 0, 1) := by decide +kernel
theorem dX5_clap_111 : decode cX5_clap 111 = .ok (.getfield 26, 3) := by decide +kernel
theorem dX5_clap_114 : decode cX5_clap 114 = .ok (.iload_n 3, 1) := by decide +kernel
theorem dX5_clap_115 : decode cX5_clap 115 = .ok (.iaload, 1) := by decide +kernel
theorem dX5_clap_116 : decode cX5_clap 116 = .ok (.iload 4, 2) := by decide +kernel
theorem dX5_clap_118 : decode cX5_clap 118 = .ok (.bipush 60, 2) := by decide +kernel
theorem dX5_clap_120 : decode cX5_clap 120 = .ok (.invokevirtual 84, 3) := by decide +kernel
theorem dX5_clap_123 : decode cX5_clap 123 = .ok (.return_, 1) := by decide +kernel
set_option maxRecDepth 20000 in
theorem ggX5_arrive_X5_hear : GoodIn wsX5_arrive wsX5_hear := goodIn_r _ [6, 7, 1, 8, 9, 10, 11, 12, 13, 14, 50, 51, 52, 53, 54, 55, 56, 57, 58, 59, 60, 61, 62, 63, 64, 65, 66, 67, 68, 69, 70, 71, 72, 73, 74, 75, 76, 77, 78, 79, 80] (by decide +kernel) (by decide +kernel)
set_option maxRecDepth 20000 in
theorem gX5_arrive_X5_hear : GoodIn wsX5_arrive (wsV RX5 87 RX5 yX5_hear wsX5_hear) := goodIn_app (goodIn_of _ (by decide +kernel)) ggX5_arrive_X5_hear
set_option maxRecDepth 20000 in
theorem ggX5_arrive_X5_clap : GoodIn wsX5_arrive wsX5_clap := goodIn_r _ [18, 19, 20, 1, 10, 21, 22, 9, 23, 24, 25, 5, 26, 27, 28, 29, 30, 31, 32, 33, 34, 35, 36, 50, 51, 52, 53, 54, 55, 56, 57, 58, 59, 60, 61, 62, 63, 64, 65, 66, 67, 68, 69, 70, 71, 72, 73, 74, 75, 76, 77, 78, 79, 80] (by decide +kernel) (by decide +kernel)
set_option maxRecDepth 20000 in
theorem gX5_arrive_X5_clap : GoodIn wsX5_arrive (wsV RX5 91 RX5 yX5_clap wsX5_clap) := goodIn_app (goodIn_of _ (by decide +kernel)) ggX5_arrive_X5_clap
set_option maxRecDepth 20000 in
theorem ggX5_arrive_X6_touches : GoodIn wsX5_arrive wsX6_touches := goodIn_r _ [40, 41, 71, 72, 73, 74, 75, 76, 77, 78, 79, 80] (by decide +kernel) (by decide +kernel)
set_option maxRecDepth 20000 in
theorem gX5_arrive_X6_touches_n97 : GoodIn wsX5_arrive (wsX6_touches) := ggX5_arrive_X6_touches
set_option maxRecDepth 20000 in
theorem ggX5_arrive_X6_isOpen : GoodIn wsX5_arrive wsX6_isOpen := goodIn_r _ [44, 45, 41, 71, 72, 73, 74, 75, 76, 77, 78, 79, 80] (by decide +kernel) (by decide +kernel)
set_option maxRecDepth 20000 in
theorem gX5_arrive_X6_isOpen_n104 : GoodIn wsX5_arrive (wsX6_isOpen) := ggX5_arrive_X6_isOpen
set_option maxRecDepth 20000 in
theorem ggX5_arrive_X5_go : GoodIn wsX5_arrive wsX5_go := goodIn_r _ [49, 1, 28, 29, 30, 31, 32, 5, 33, 34, 35, 36, 50, 51, 52, 53, 54, 55, 56, 57, 58, 59, 60, 61, 62, 63, 64, 65, 66, 67, 68, 69, 70, 71, 72, 73, 74, 75, 76, 77, 78, 79, 80] (by decide +kernel) (by decide +kernel)
set_option maxRecDepth 20000 in
theorem gX5_arrive_X5_go : GoodIn wsX5_arrive (wsV RX5 107 RX5 yX5_go wsX5_go) := goodIn_app (goodIn_of _ (by decide +kernel)) ggX5_arrive_X5_go
theorem dX5_arrive_0 : decode cX5_arrive 0 = .ok (.iload_n 1, 1) := by decide +kernel
theorem dX5_arrive_1 : decode cX5_arrive 1 = .ok (.bipush 19, 2) := by decide +kernel
theorem dX5_arrive_3 : decode cX5_arrive 3 = .ok (.irem, 1) := by decide +kernel
theorem dX5_arrive_4 : decode cX5_arrive 4 = .ok (.iconst 1, 1) := by decide +kernel
theorem dX5_arrive_5 : decode cX5_arrive 5 = .ok (.isub, 1) := by decide +kernel
theorem dX5_arrive_6 : decode cX5_arrive 6 = .ok (.istore_n 3, 1) := by decide +kernel
theorem dX5_arrive_7 : decode cX5_arrive 7 = .ok (.iload_n 1, 1) := by decide +kernel
theorem dX5_arrive_8 : decode cX5_arrive 8 = .ok (.bipush 19, 2) := by decide +kernel
theorem dX5_arrive_10 : decode cX5_arrive 10 = .ok (.idiv, 1) := by decide +kernel
theorem dX5_arrive_11 : decode cX5_arrive 11 = .ok (.bipush 17, 2) := by decide +kernel
theorem dX5_arrive_13 : decode cX5_arrive 13 = .ok (.irem, 1) := by decide +kernel
theorem dX5_arrive_14 : decode cX5_arrive 14 = .ok (.istore 4, 2) := by decide +kernel
theorem dX5_arrive_16 : decode cX5_arrive 16 = .ok (.iload_n 1, 1) := by decide +kernel
theorem dX5_arrive_17 : decode cX5_arrive 17 = .ok (.bipush 19, 2) := by decide +kernel
theorem dX5_arrive_19 : decode cX5_arrive 19 = .ok (.idiv, 1) := by decide +kernel
theorem dX5_arrive_20 : decode cX5_arrive 20 = .ok (.bipush 17, 2) := by decide +kernel
theorem dX5_arrive_22 : decode cX5_arrive 22 = .ok (.idiv, 1) := by decide +kernel
theorem dX5_arrive_23 : decode cX5_arrive 23 = .ok (.bipush 12, 2) := by decide +kernel
theorem dX5_arrive_25 : decode cX5_arrive 25 = .ok (.irem, 1) := by decide +kernel
theorem dX5_arrive_26 : decode cX5_arrive 26 = .ok (.istore 5, 2) := by decide +kernel
theorem dX5_arrive_28 : decode cX5_arrive 28 = .ok (.iload_n 1, 1) := by decide +kernel
theorem dX5_arrive_29 : decode cX5_arrive 29 = .ok (.bipush 19, 2) := by decide +kernel
theorem dX5_arrive_31 : decode cX5_arrive 31 = .ok (.idiv, 1) := by decide +kernel
theorem dX5_arrive_32 : decode cX5_arrive 32 = .ok (.bipush 17, 2) := by decide +kernel
theorem dX5_arrive_34 : decode cX5_arrive 34 = .ok (.idiv, 1) := by decide +kernel
theorem dX5_arrive_35 : decode cX5_arrive 35 = .ok (.bipush 12, 2) := by decide +kernel
theorem dX5_arrive_37 : decode cX5_arrive 37 = .ok (.idiv, 1) := by decide +kernel
theorem dX5_arrive_38 : decode cX5_arrive 38 = .ok (.istore 6, 2) := by decide +kernel
theorem dX5_arrive_40 : decode cX5_arrive 40 = .ok (.iload 5, 2) := by decide +kernel
theorem dX5_arrive_42 : decode cX5_arrive 42 = .ok (.ifCond .ne 17, 3) := by decide +kernel
theorem dX5_arrive_45 : decode cX5_arrive 45 = .ok (.iload_n 3, 1) := by decide +kernel
theorem dX5_arrive_46 : decode cX5_arrive 46 = .ok (.iconst (-1), 1) := by decide +kernel
theorem dX5_arrive_47 : decode cX5_arrive 47 = .ok (.if_icmp .eq 12, 3) := by decide +kernel
theorem dX5_arrive_50 : decode cX5_arrive 50 = .ok (.aload_n 0, 1) := by decide +kernel
theorem dX5_arrive_51 : decode cX5_arrive 51 = .ok (.iload 6, 2) := by decide +kernel
theorem dX5_arrive_53 : decode cX5_arrive 53 = .ok (.iload 4, 2) := by decide +kernel
theorem dX5_arrive_55 : decode cX5_arrive 55 = .ok (.iload_n 2, 1) := by decide +kernel
theorem dX5_arrive_56 : decode cX5_arrive 56 = .ok (.invokevirtual 87, 3) := by decide +kernel
theorem dX5_arrive_59 : decode cX5_arrive 59 = .ok (.iload_n 2, 1) := by decide +kernel
theorem dX5_arrive_60 : decode cX5_arrive 60 = .ok (.iconst 2, 1) := by decide +kernel
theorem dX5_arrive_61 : decode cX5_arrive 61 = .ok (.aload_n 0, 1) := by decide +kernel
theorem dX5_arrive_62 : decode cX5_arrive 62 = .ok (.getfield 3, 3) := by decide +kernel
theorem dX5_arrive_65 : decode cX5_arrive 65 = .ok (.getfield 78, 3) := by decide +kernel
theorem dX5_arrive_68 : decode cX5_arrive 68 = .ok (.iconst 5, 1) := by decide +kernel
theorem dX5_arrive_69 : decode cX5_arrive 69 = .ok (.iload 5, 2) := by decide +kernel
theorem dX5_arrive_71 : decode cX5_arrive 71 = .ok (.imul, 1) := by decide +kernel
theorem dX5_arrive_72 : decode cX5_arrive 72 = .ok (.iconst 2, 1) := by decide +kernel
theorem dX5_arrive_73 : decode cX5_arrive 73 = .ok (.iadd, 1) := by decide +kernel
theorem dX5_arrive_74 : decode cX5_arrive 74 = .ok (.iaload, 1) := by decide +kernel
theorem dX5_arrive_75 : decode cX5_arrive 75 = .ok (.imul, 1) := by decide +kernel
theorem dX5_arrive_76 : decode cX5_arrive 76 = .ok (.iconst 1, 1) := by decide +kernel
theorem dX5_arrive_77 : decode cX5_arrive 77 = .ok (.iadd, 1) := by decide +kernel
theorem dX5_arrive_78 : decode cX5_arrive 78 = .ok (.if_icmp .ge 4, 3) := by decide +kernel
theorem dX5_arrive_81 : decode cX5_arrive 81 = .ok (.return_, 1) := by decide +kernel
theorem dX5_arrive_82 : decode cX5_arrive 82 = .ok (.aload_n 0, 1) := by decide +kernel
theorem dX5_arrive_83 : decode cX5_arrive 83 = .ok (.iload 6, 2) := by decide +kernel
theorem dX5_arrive_85 : decode cX5_arrive 85 = .ok (.iload 5, 2) := by decide +kernel
theorem dX5_arrive_87 : decode cX5_arrive 87 = .ok (.iload 4, 2) := by decide +kernel
theorem dX5_arrive_89 : decode cX5_arrive 89 = .ok (.invokevirtual 91, 3) := by decide +kernel
theorem dX5_arrive_92 : decode cX5_arrive 92 = .ok (.iconst 0, 1) := by decide +kernel
theorem dX5_arrive_93 : decode cX5_arrive 93 = .ok (.istore 7, 2) := by decide +kernel
theorem dX5_arrive_95 : decode cX5_arrive 95 = .ok (.iload 7, 2) := by decide +kernel
theorem dX5_arrive_97 : decode cX5_arrive 97 = .ok (.aload_n 0, 1) := by decide +kernel
theorem dX5_arrive_98 : decode cX5_arrive 98 = .ok (.getfield 3, 3) := by decide +kernel
theorem dX5_arrive_101 : decode cX5_arrive 101 = .ok (.getfield 94, 3) := by decide +kernel
theorem dX5_arrive_104 : decode cX5_arrive 104 = .ok (.if_icmp .ge 61, 3) := by decide +kernel
theorem dX5_arrive_107 : decode cX5_arrive 107 = .ok (.iload 7, 2) := by decide +kernel
theorem dX5_arrive_109 : decode cX5_arrive 109 = .ok (.iload_n 3, 1) := by decide +kernel
theorem dX5_arrive_110 : decode cX5_arrive 110 = .ok (.if_icmp .eq 49, 3) := by decide +kernel
theorem dX5_arrive_113 : decode cX5_arrive 113 = .ok (.aload_n 0, 1) := by decide +kernel
theorem dX5_arrive_114 : decode cX5_arrive 114 = .ok (.getfield 3, 3) := by decide +kernel
theorem dX5_arrive_117 : decode cX5_arrive 117 = .ok (.iload 7, 2) := by decide +kernel
theorem dX5_arrive_119 : decode cX5_arrive 119 = .ok (.iload 5, 2) := by decide +kernel
theorem dX5_arrive_121 : decode cX5_arrive 121 = .ok (.invokevirtual 97, 3) := by decide +kernel
theorem dX5_arrive_124 : decode cX5_arrive 124 = .ok (.ifCond .eq 35, 3) := by decide +kernel
theorem dX5_arrive_127 : decode cX5_arrive 127 = .ok (.aload_n 0, 1) := by decide +kernel
theorem dX5_arrive_128 : decode cX5_arrive 128 = .ok (.getfield 3, 3) := by decide +kernel
theorem dX5_arrive_131 : decode cX5_arrive 131 = .ok (.iload 7, 2) := by decide +kernel
theorem dX5_arrive_133 : decode cX5_arrive 133 = .ok (.aload_n 0, 1) := by decide +kernel
theorem dX5_arrive_134 : decode cX5_arrive 134 = .ok (.getfield 3, 3) := by decide +kernel
theorem dX5_arrive_137 : decode cX5_arrive 137 = .ok (.getfield 101, 3) := by decide +kernel
theorem dX5_arrive_140 : decode cX5_arrive 140 = .ok (.invokevirtual 104, 3) := by decide +kernel
theorem dX5_arrive_143 : decode cX5_arrive 143 = .ok (.ifCond .eq 16, 3) := by decide +kernel
theorem dX5_arrive_146 : decode cX5_arrive 146 = .ok (.aload_n 0, 1) := by decide +kernel
theorem dX5_arrive_147 : decode cX5_arrive 147 = .ok (.iload 6, 2) := by decide +kernel
theorem dX5_arrive_149 : decode cX5_arrive 149 = .ok (.iload 5, 2) := by decide +kernel
theorem dX5_arrive_151 : decode cX5_arrive 151 = .ok (.iload 4, 2) := by decide +kernel
theorem dX5_arrive_153 : decode cX5_arrive 153 = .ok (.iload 7, 2) := by decide +kernel
theorem dX5_arrive_155 : decode cX5_arrive 155 = .ok (.iload_n 2, 1) := by decide +kernel
theorem dX5_arrive_156 : decode cX5_arrive 156 = .ok (.invokevirtual 107, 3) := by decide +kernel
theorem dX5_arrive_159 : decode cX5_arrive 159 = .ok (.iinc 7 1, 3) := by decide +kernel
theorem dX5_arrive_162 : decode cX5_arrive 162 = .ok (.goto (-67), 3) := by decide +kernel
theorem dX5_arrive_165 : decode cX5_arrive 165 = .ok (.iload_n 3, 1) := by decide +kernel
theorem dX5_arrive_166 : decode cX5_arrive 166 = .ok (.iconst (-1), 1) := by decide +kernel
theorem dX5_arrive_167 : decode cX5_arrive 167 = .ok (.if_icmp .eq 36, 3) := by decide +kernel
theorem dX5_arrive_170 : decode cX5_arrive 170 = .ok (.iload 5, 2) := by decide +kernel
theorem dX5_arrive_172 : decode cX5_arrive 172 = .ok (.ifCond .eq 31, 3) := by decide +kernel
theorem dX5_arrive_175 : decode cX5_arrive 175 = .ok (.aload_n 0, 1) := by decide +kernel
theorem dX5_arrive_176 : decode cX5_arrive 176 = .ok (.iload 6, 2) := by decide +kernel
theorem dX5_arrive_178 : decode cX5_arrive 178 = .ok (.iload 5, 2) := by decide +kernel
theorem dX5_arrive_180 : decode cX5_arrive 180 = .ok (.iload 4, 2) := by decide +kernel
theorem dX5_arrive_182 : decode cX5_arrive 182 = .ok (.iload_n 3, 1) := by decide +kernel
theorem dX5_arrive_183 : decode cX5_arrive 183 = .ok (.iload_n 2, 1) := by decide +kernel
theorem dX5_arrive_184 : decode cX5_arrive 184 = .ok (.aload_n 0, 1) := by decide +kernel
theorem dX5_arrive_185 : decode cX5_arrive 185 = .ok (.getfield 3, 3) := by decide +kernel
theorem dX5_arrive_188 : decode cX5_arrive 188 = .ok (.getfield 78, 3) := by decide +kernel
theorem dX5_arrive_191 : decode cX5_arrive 191 = .ok (.iconst 5, 1) := by decide +kernel
theorem dX5_arrive_192 : decode cX5_arrive 192 = .ok (.iload 5, 2) := by decide +kernel
theorem dX5_arrive_194 : decode cX5_arrive 194 = .ok (.imul, 1) := by decide +kernel
theorem dX5_arrive_195 : decode cX5_arrive 195 = .ok (.iaload, 1) := by decide +kernel
theorem dX5_arrive_196 : decode cX5_arrive 196 = .ok (.imul, 1) := by decide +kernel
theorem dX5_arrive_197 : decode cX5_arrive 197 = .ok (.bipush 100, 2) := by decide +kernel
theorem dX5_arrive_199 : decode cX5_arrive 199 = .ok (.idiv, 1) := by decide +kernel
theorem dX5_arrive_200 : decode cX5_arrive 200 = .ok (.invokevirtual 107, 3) := by decide +kernel
theorem dX5_arrive_203 : decode cX5_arrive 203 = .ok (.return_, 1) := by decide +kernel
set_option maxRecDepth 20000 in
theorem ggX5_say_X5_start : GoodIn wsX5_say wsX5_start := goodIn_r _ [21, 22, 3, 23, 24, 25, 26, 27, 28, 20, 29, 8, 15, 16, 60, 61, 62, 63, 64, 65, 66, 67, 68, 69, 70, 71, 72, 73, 74, 75, 76, 77, 78, 79, 80] (by decide +kernel) (by decide +kernel)
set_option maxRecDepth 20000 in
theorem gX5_say_X5_start : GoodIn wsX5_say (wsV RX5 84 RX5 yX5_start wsX5_start) := goodIn_app (goodIn_of _ (by decide +kernel)) ggX5_say_X5_start
set_option maxRecDepth 20000 in
theorem ggX5_say_X5_arrive : GoodIn wsX5_say wsX5_arrive := goodIn_r _ [33, 34, 35, 36, 37, 20, 38, 4, 39, 22, 23, 5, 7, 10, 6, 40, 41, 42, 43, 44, 45, 9, 46, 17, 18, 19, 21, 3, 24, 25, 26, 27, 28, 29, 8, 15, 16, 47, 48, 49, 50, 51, 52, 53, 54, 55, 56, 57, 58, 59, 60, 61, 62, 63, 64, 65, 66, 67, 68, 69, 70, 71, 72, 73, 74, 75, 76, 77, 78, 79, 80, 81, 82, 83, 84, 85, 86, 87, 88, 89, 90] (by decide +kernel) (by decide +kernel)
set_option maxRecDepth 20000 in
theorem gX5_say_X5_arrive : GoodIn wsX5_say (wsV RX5 122 RX5 yX5_arrive wsX5_arrive) := goodIn_app (goodIn_of _ (by decide +kernel)) ggX5_say_X5_arrive
theorem dX5_say_0 : decode cX5_say 0 = .ok (.aload_n 0, 1) := by decide +kernel
theorem dX5_say_1 : decode cX5_say 1 = .ok (.iload_n 1, 1) := by decide +kernel
theorem dX5_say_2 : decode cX5_say 2 = .ok (.putfield 110, 3) := by decide +kernel
theorem dX5_say_5 : decode cX5_say 5 = .ok (.aload_n 0, 1) := by decide +kernel
theorem dX5_say_6 : decode cX5_say 6 = .ok (.iconst 0, 1) := by decide +kernel
theorem dX5_say_7 : decode cX5_say 7 = .ok (.putfield 113, 3) := by decide +kernel
theorem dX5_say_10 : decode cX5_say 10 = .ok (.aload_n 0, 1) := by decide +kernel
theorem dX5_say_11 : decode cX5_say 11 = .ok (.iconst 0, 1) := by decide +kernel
theorem dX5_say_12 : decode cX5_say 12 = .ok (.putfield 53, 3) := by decide +kernel
theorem dX5_say_15 : decode cX5_say 15 = .ok (.aload_n 0, 1) := by decide +kernel
theorem dX5_say_16 : decode cX5_say 16 = .ok (.iconst 0, 1) := by decide +kernel
theorem dX5_say_17 : decode cX5_say 17 = .ok (.putfield 63, 3) := by decide +kernel
theorem dX5_say_20 : decode cX5_say 20 = .ok (.aload_n 0, 1) := by decide +kernel
theorem dX5_say_21 : decode cX5_say 21 = .ok (.iconst 0, 1) := by decide +kernel
theorem dX5_say_22 : decode cX5_say 22 = .ok (.putfield 69, 3) := by decide +kernel
theorem dX5_say_25 : decode cX5_say 25 = .ok (.aload_n 0, 1) := by decide +kernel
theorem dX5_say_26 : decode cX5_say 26 = .ok (.iconst 0, 1) := by decide +kernel
theorem dX5_say_27 : decode cX5_say 27 = .ok (.putfield 75, 3) := by decide +kernel
theorem dX5_say_30 : decode cX5_say 30 = .ok (.aload_n 0, 1) := by decide +kernel
theorem dX5_say_31 : decode cX5_say 31 = .ok (.iconst (-1), 1) := by decide +kernel
theorem dX5_say_32 : decode cX5_say 32 = .ok (.putfield 72, 3) := by decide +kernel
theorem dX5_say_35 : decode cX5_say 35 = .ok (.aload_n 0, 1) := by decide +kernel
theorem dX5_say_36 : decode cX5_say 36 = .ok (.iconst 0, 1) := by decide +kernel
theorem dX5_say_37 : decode cX5_say 37 = .ok (.putfield 50, 3) := by decide +kernel
theorem dX5_say_40 : decode cX5_say 40 = .ok (.aload_n 0, 1) := by decide +kernel
theorem dX5_say_41 : decode cX5_say 41 = .ok (.iconst 0, 1) := by decide +kernel
theorem dX5_say_42 : decode cX5_say 42 = .ok (.putfield 81, 3) := by decide +kernel
theorem dX5_say_45 : decode cX5_say 45 = .ok (.iload_n 1, 1) := by decide +kernel
theorem dX5_say_46 : decode cX5_say 46 = .ok (.istore_n 3, 1) := by decide +kernel
theorem dX5_say_47 : decode cX5_say 47 = .ok (.iload_n 3, 1) := by decide +kernel
theorem dX5_say_48 : decode cX5_say 48 = .ok (.ifCond .le 21, 3) := by decide +kernel
theorem dX5_say_51 : decode cX5_say 51 = .ok (.aload_n 0, 1) := by decide +kernel
theorem dX5_say_52 : decode cX5_say 52 = .ok (.dup, 1) := by decide +kernel
theorem dX5_say_53 : decode cX5_say 53 = .ok (.getfield 113, 3) := by decide +kernel
theorem dX5_say_56 : decode cX5_say 56 = .ok (.iconst 1, 1) := by decide +kernel
theorem dX5_say_57 : decode cX5_say 57 = .ok (.iadd, 1) := by decide +kernel
theorem dX5_say_58 : decode cX5_say 58 = .ok (.putfield 113, 3) := by decide +kernel
theorem dX5_say_61 : decode cX5_say 61 = .ok (.iload_n 3, 1) := by decide +kernel
theorem dX5_say_62 : decode cX5_say 62 = .ok (.bipush 10, 2) := by decide +kernel
theorem dX5_say_64 : decode cX5_say 64 = .ok (.idiv, 1) := by decide +kernel
theorem dX5_say_65 : decode cX5_say 65 = .ok (.istore_n 3, 1) := by decide +kernel
theorem dX5_say_66 : decode cX5_say 66 = .ok (.goto (-19), 3) := by decide +kernel
theorem dX5_say_69 : decode cX5_say 69 = .ok (.iconst 1, 1) := by decide +kernel
theorem dX5_say_70 : decode cX5_say 70 = .ok (.istore_n 3, 1) := by decide +kernel
theorem dX5_say_71 : decode cX5_say 71 = .ok (.iconst 1, 1) := by decide +kernel
theorem dX5_say_72 : decode cX5_say 72 = .ok (.istore 4, 2) := by decide +kernel
theorem dX5_say_74 : decode cX5_say 74 = .ok (.iload 4, 2) := by decide +kernel
theorem dX5_say_76 : decode cX5_say 76 = .ok (.aload_n 0, 1) := by decide +kernel
theorem dX5_say_77 : decode cX5_say 77 = .ok (.getfield 113, 3) := by decide +kernel
theorem dX5_say_80 : decode cX5_say 80 = .ok (.if_icmp .ge 14, 3) := by decide +kernel
theorem dX5_say_83 : decode cX5_say 83 = .ok (.iload_n 3, 1) := by decide +kernel
theorem dX5_say_84 : decode cX5_say 84 = .ok (.bipush 10, 2) := by decide +kernel
theorem dX5_say_86 : decode cX5_say 86 = .ok (.imul, 1) := by decide +kernel
theorem dX5_say_87 : decode cX5_say 87 = .ok (.istore_n 3, 1) := by decide +kernel
theorem dX5_say_88 : decode cX5_say 88 = .ok (.iinc 4 1, 3) := by decide +kernel
theorem dX5_say_91 : decode cX5_say 91 = .ok (.goto (-17), 3) := by decide +kernel
theorem dX5_say_94 : decode cX5_say 94 = .ok (.iconst 0, 1) := by decide +kernel
theorem dX5_say_95 : decode cX5_say 95 = .ok (.istore 4, 2) := by decide +kernel
theorem dX5_say_97 : decode cX5_say 97 = .ok (.iload 4, 2) := by decide +kernel
theorem dX5_say_99 : decode cX5_say 99 = .ok (.bipush 6, 2) := by decide +kernel
theorem dX5_say_101 : decode cX5_say 101 = .ok (.if_icmp .ge 17, 3) := by decide +kernel
theorem dX5_say_104 : decode cX5_say 104 = .ok (.aload_n 0, 1) := by decide +kernel
theorem dX5_say_105 : decode cX5_say 105 = .ok (.getfield 19, 3) := by decide +kernel
theorem dX5_say_108 : decode cX5_say 108 = .ok (.iload 4, 2) := by decide +kernel
theorem dX5_say_110 : decode cX5_say 110 = .ok (.iconst (-1), 1) := by decide +kernel
theorem dX5_say_111 : decode cX5_say 111 = .ok (.iastore, 1) := by decide +kernel
theorem dX5_say_112 : decode cX5_say 112 = .ok (.iinc 4 1, 3) := by decide +kernel
theorem dX5_say_115 : decode cX5_say 115 = .ok (.goto (-18), 3) := by decide +kernel
theorem dX5_say_118 : decode cX5_say 118 = .ok (.iconst 0, 1) := by decide +kernel
theorem dX5_say_119 : decode cX5_say 119 = .ok (.istore 4, 2) := by decide +kernel
theorem dX5_say_121 : decode cX5_say 121 = .ok (.iload 4, 2) := by decide +kernel
theorem dX5_say_123 : decode cX5_say 123 = .ok (.aload_n 0, 1) := by decide +kernel
theorem dX5_say_124 : decode cX5_say 124 = .ok (.getfield 113, 3) := by decide +kernel
theorem dX5_say_127 : decode cX5_say 127 = .ok (.if_icmp .ge 37, 3) := by decide +kernel
theorem dX5_say_130 : decode cX5_say 130 = .ok (.aload_n 0, 1) := by decide +kernel
theorem dX5_say_131 : decode cX5_say 131 = .ok (.iload 4, 2) := by decide +kernel
theorem dX5_say_133 : decode cX5_say 133 = .ok (.iload_n 2, 1) := by decide +kernel
theorem dX5_say_134 : decode cX5_say 134 = .ok (.imul, 1) := by decide +kernel
theorem dX5_say_135 : decode cX5_say 135 = .ok (.iconst 0, 1) := by decide +kernel
theorem dX5_say_136 : decode cX5_say 136 = .ok (.iload 4, 2) := by decide +kernel
theorem dX5_say_138 : decode cX5_say 138 = .ok (.iload_n 1, 1) := by decide +kernel
theorem dX5_say_139 : decode cX5_say 139 = .ok (.iload_n 3, 1) := by decide +kernel
theorem dX5_say_140 : decode cX5_say 140 = .ok (.idiv, 1) := by decide +kernel
theorem dX5_say_141 : decode cX5_say 141 = .ok (.bipush 10, 2) := by decide +kernel
theorem dX5_say_143 : decode cX5_say 143 = .ok (.irem, 1) := by decide +kernel
theorem dX5_say_144 : decode cX5_say 144 = .ok (.bipush 100, 2) := by decide +kernel
theorem dX5_say_146 : decode cX5_say 146 = .ok (.invokevirtual 84, 3) := by decide +kernel
theorem dX5_say_149 : decode cX5_say 149 = .ok (.iconst 1, 1) := by decide +kernel
theorem dX5_say_150 : decode cX5_say 150 = .ok (.iload_n 3, 1) := by decide +kernel
theorem dX5_say_151 : decode cX5_say 151 = .ok (.bipush 10, 2) := by decide +kernel
theorem dX5_say_153 : decode cX5_say 153 = .ok (.idiv, 1) := by decide +kernel
theorem dX5_say_154 : decode cX5_say 154 = .ok (.invokestatic 116, 3) := by decide +kernel
theorem dX5_say_157 : decode cX5_say 157 = .ok (.istore_n 3, 1) := by decide +kernel
theorem dX5_say_158 : decode cX5_say 158 = .ok (.iinc 4 1, 3) := by decide +kernel
theorem dX5_say_161 : decode cX5_say 161 = .ok (.goto (-40), 3) := by decide +kernel
theorem dX5_say_164 : decode cX5_say 164 = .ok (.aload_n 0, 1) := by decide +kernel
theorem dX5_say_165 : decode cX5_say 165 = .ok (.getfield 50, 3) := by decide +kernel
theorem dX5_say_168 : decode cX5_say 168 = .ok (.ifCond .le 38, 3) := by decide +kernel
theorem dX5_say_171 : decode cX5_say 171 = .ok (.aload_n 0, 1) := by decide +kernel
theorem dX5_say_172 : decode cX5_say 172 = .ok (.dup, 1) := by decide +kernel
theorem dX5_say_173 : decode cX5_say 173 = .ok (.getfield 50, 3) := by decide +kernel
theorem dX5_say_176 : decode cX5_say 176 = .ok (.iconst 1, 1) := by decide +kernel
theorem dX5_say_177 : decode cX5_say 177 = .ok (.isub, 1) := by decide +kernel
theorem dX5_say_178 : decode cX5_say 178 = .ok (.putfield 50, 3) := by decide +kernel
theorem dX5_say_181 : decode cX5_say 181 = .ok (.aload_n 0, 1) := by decide +kernel
theorem dX5_say_182 : decode cX5_say 182 = .ok (.aload_n 0, 1) := by decide +kernel
theorem dX5_say_183 : decode cX5_say 183 = .ok (.getfield 38, 3) := by decide +kernel
theorem dX5_say_186 : decode cX5_say 186 = .ok (.aload_n 0, 1) := by decide +kernel
theorem dX5_say_187 : decode cX5_say 187 = .ok (.getfield 50, 3) := by decide +kernel
theorem dX5_say_190 : decode cX5_say 190 = .ok (.iaload, 1) := by decide +kernel
theorem dX5_say_191 : decode cX5_say 191 = .ok (.aload_n 0, 1) := by decide +kernel
theorem dX5_say_192 : decode cX5_say 192 = .ok (.getfield 41, 3) := by decide +kernel
theorem dX5_say_195 : decode cX5_say 195 = .ok (.aload_n 0, 1) := by decide +kernel
theorem dX5_say_196 : decode cX5_say 196 = .ok (.getfield 50, 3) := by decide +kernel
theorem dX5_say_199 : decode cX5_say 199 = .ok (.iaload, 1) := by decide +kernel
theorem dX5_say_200 : decode cX5_say 200 = .ok (.invokevirtual 122, 3) := by decide +kernel
theorem dX5_say_203 : decode cX5_say 203 = .ok (.goto (-39), 3) := by decide +kernel
theorem dX5_say_206 : decode cX5_say 206 = .ok (.return_, 1) := by decide +kernel
theorem dX5_isInOrder_0 : decode cX5_isInOrder 0 = .ok (.aload_n 0, 1) := by decide +kernel
theorem dX5_isInOrder_1 : decode cX5_isInOrder 1 = .ok (.getfield 113, 3) := by decide +kernel
theorem dX5_isInOrder_4 : decode cX5_isInOrder 4 = .ok (.ifCond .le 18, 3) := by decide +kernel
theorem dX5_isInOrder_7 : decode cX5_isInOrder 7 = .ok (.aload_n 0, 1) := by decide +kernel
theorem dX5_isInOrder_8 : decode cX5_isInOrder 8 = .ok (.getfield 75, 3) := by decide +kernel
theorem dX5_isInOrder_11 : decode cX5_isInOrder 11 = .ok (.aload_n 0, 1) := by decide +kernel
theorem dX5_isInOrder_12 : decode cX5_isInOrder 12 = .ok (.getfield 113, 3) := by decide +kernel
theorem dX5_isInOrder_15 : decode cX5_isInOrder 15 = .ok (.if_icmp .ne 7, 3) := by decide +kernel
theorem dX5_isInOrder_18 : decode cX5_isInOrder 18 = .ok (.iconst 1, 1) := by decide +kernel
theorem dX5_isInOrder_19 : decode cX5_isInOrder 19 = .ok (.goto 4, 3) := by decide +kernel
theorem dX5_isInOrder_22 : decode cX5_isInOrder 22 = .ok (.iconst 0, 1) := by decide +kernel
theorem dX5_isInOrder_23 : decode cX5_isInOrder 23 = .ok (.ireturn, 1) := by decide +kernel
set_option maxRecDepth 20000 in
theorem ggX6_init_X5_init : GoodIn wsX6_init wsX5_init := goodIn_r _ [15, 16, 17, 2, 3, 18, 6, 19, 20, 21, 22, 23, 24, 25, 26, 37, 38, 39, 40, 41, 42, 43, 44, 45, 46, 47, 48, 49, 50, 51, 52, 53, 54, 55, 56, 57] (by decide +kernel) (by decide +kernel)
set_option maxRecDepth 20000 in
theorem gX6_init_X5_init_n25 : GoodIn wsX6_init (wsX5_init) := ggX6_init_X5_init
theorem dX6_init_0 : decode cX6_init 0 = .ok (.aload_n 0, 1) := by decide +kernel
theorem dX6_init_1 : decode cX6_init 1 = .ok (.invokespecial 3, 3) := by decide +kernel
theorem dX6_init_4 : decode cX6_init 4 = .ok (.aload_n 0, 1) := by decide +kernel
theorem dX6_init_5 : decode cX6_init 5 = .ok (.iconst 1, 1) := by decide +kernel
theorem dX6_init_6 : decode cX6_init 6 = .ok (.putfield 9, 3) := by decide +kernel
theorem dX6_init_9 : decode cX6_init 9 = .ok (.aload_n 0, 1) := by decide +kernel
theorem dX6_init_10 : decode cX6_init 10 = .ok (.iconst 5, 1) := by decide +kernel
theorem dX6_init_11 : decode cX6_init 11 = .ok (.putfield 13, 3) := by decide +kernel
theorem dX6_init_14 : decode cX6_init 14 = .ok (.aload_n 0, 1) := by decide +kernel
theorem dX6_init_15 : decode cX6_init 15 = .ok (.bipush 60, 2) := by decide +kernel
theorem dX6_init_17 : decode cX6_init 17 = .ok (.newarray .int, 2) := by decide +kernel
theorem dX6_init_19 : decode cX6_init 19 = .ok (.putfield 16, 3) := by decide +kernel
theorem dX6_init_22 : decode cX6_init 22 = .ok (.aload_n 0, 1) := by decide +kernel
theorem dX6_init_23 : decode cX6_init 23 = .ok (.bipush 72, 2) := by decide +kernel
theorem dX6_init_25 : decode cX6_init 25 = .ok (.newarray .int, 2) := by decide +kernel
theorem dX6_init_27 : decode cX6_init 27 = .ok (.putfield 20, 3) := by decide +kernel
theorem dX6_init_30 : decode cX6_init 30 = .ok (.aload_n 0, 1) := by decide +kernel
theorem dX6_init_31 : decode cX6_init 31 = .ok (.new 23, 3) := by decide +kernel
theorem dX6_init_34 : decode cX6_init 34 = .ok (.dup, 1) := by decide +kernel
theorem dX6_init_35 : decode cX6_init 35 = .ok (.aload_n 0, 1) := by decide +kernel
theorem dX6_init_36 : decode cX6_init 36 = .ok (.invokespecial 25, 3) := by decide +kernel
theorem dX6_init_39 : decode cX6_init 39 = .ok (.putfield 28, 3) := by decide +kernel
theorem dX6_init_42 : decode cX6_init 42 = .ok (.aload_n 0, 1) := by decide +kernel
theorem dX6_init_43 : decode cX6_init 43 = .ok (.new 23, 3) := by decide +kernel
theorem dX6_init_46 : decode cX6_init 46 = .ok (.dup, 1) := by decide +kernel
theorem dX6_init_47 : decode cX6_init 47 = .ok (.aload_n 0, 1) := by decide +kernel
theorem dX6_init_48 : decode cX6_init 48 = .ok (.invokespecial 25, 3) := by decide +kernel
theorem dX6_init_51 : decode cX6_init 51 = .ok (.putfield 32, 3) := by decide +kernel
theorem dX6_init_54 : decode cX6_init 54 = .ok (.aload_n 0, 1) := by decide +kernel
theorem dX6_init_55 : decode cX6_init 55 = .ok (.getfield 16, 3) := by decide +kernel
theorem dX6_init_58 : decode cX6_init 58 = .ok (.iconst 1, 1) := by decide +kernel
theorem dX6_init_59 : decode cX6_init 59 = .ok (.bipush 30, 2) := by decide +kernel
theorem dX6_init_61 : decode cX6_init 61 = .ok (.iastore, 1) := by decide +kernel
theorem dX6_init_62 : decode cX6_init 62 = .ok (.return_, 1) := by decide +kernel
theorem dX6_thrown_0 : decode cX6_thrown 0 = .ok (.aload_n 0, 1) := by decide +kernel
theorem dX6_thrown_1 : decode cX6_thrown 1 = .ok (.getfield 35, 3) := by decide +kernel
theorem dX6_thrown_4 : decode cX6_thrown 4 = .ok (.ireturn, 1) := by decide +kernel
theorem dX6_no_0 : decode cX6_no 0 = .ok (.aload_n 0, 1) := by decide +kernel
theorem dX6_no_1 : decode cX6_no 1 = .ok (.iload_n 1, 1) := by decide +kernel
theorem dX6_no_2 : decode cX6_no 2 = .ok (.putfield 35, 3) := by decide +kernel
theorem dX6_no_5 : decode cX6_no 5 = .ok (.iconst 0, 1) := by decide +kernel
theorem dX6_no_6 : decode cX6_no 6 = .ok (.ireturn, 1) := by decide +kernel
theorem dX6_isIn_0 : decode cX6_isIn 0 = .ok (.iload_n 0, 1) := by decide +kernel
theorem dX6_isIn_1 : decode cX6_isIn 1 = .ok (.iload_n 1, 1) := by decide +kernel
theorem dX6_isIn_2 : decode cX6_isIn 2 = .ok (.if_icmp .lt 12, 3) := by decide +kernel
theorem dX6_isIn_5 : decode cX6_isIn 5 = .ok (.iload_n 0, 1) := by decide +kernel
theorem dX6_isIn_6 : decode cX6_isIn 6 = .ok (.iload_n 2, 1) := by decide +kernel
theorem dX6_isIn_7 : decode cX6_isIn 7 = .ok (.if_icmp .gt 7, 3) := by decide +kernel
theorem dX6_isIn_10 : decode cX6_isIn 10 = .ok (.iconst 1, 1) := by decide +kernel
theorem dX6_isIn_11 : decode cX6_isIn 11 = .ok (.goto 4, 3) := by decide +kernel
theorem dX6_isIn_14 : decode cX6_isIn 14 = .ok (.iconst 0, 1) := by decide +kernel
theorem dX6_isIn_15 : decode cX6_isIn 15 = .ok (.ireturn, 1) := by decide +kernel
set_option maxRecDepth 20000 in
theorem ggX6_isChamber_X6_isIn : GoodIn wsX6_isChamber wsX6_isIn := goodIn_r _ [5] (by decide +kernel) (by decide +kernel)
set_option maxRecDepth 20000 in
theorem gX6_isChamber_X6_isIn : GoodIn wsX6_isChamber (va_wsS RX6 38 yX6_isIn wsX6_isIn) := goodIn_app (goodIn_of _ (by decide +kernel)) ggX6_isChamber_X6_isIn
theorem dX6_isChamber_0 : decode cX6_isChamber 0 = .ok (.iload_n 1, 1) := by decide +kernel
theorem dX6_isChamber_1 : decode cX6_isChamber 1 = .ok (.iconst 0, 1) := by decide +kernel
theorem dX6_isChamber_2 : decode cX6_isChamber 2 = .ok (.aload_n 0, 1) := by decide +kernel
theorem dX6_isChamber_3 : decode cX6_isChamber 3 = .ok (.getfield 9, 3) := by decide +kernel
theorem dX6_isChamber_6 : decode cX6_isChamber 6 = .ok (.iconst 1, 1) := by decide +kernel
theorem dX6_isChamber_7 : decode cX6_isChamber 7 = .ok (.isub, 1) := by decide +kernel
theorem dX6_isChamber_8 : decode cX6_isChamber 8 = .ok (.invokestatic 38, 3) := by decide +kernel
theorem dX6_isChamber_11 : decode cX6_isChamber 11 = .ok (.ireturn, 1) := by decide +kernel
theorem dX6_touches_0 : decode cX6_touches 0 = .ok (.aload_n 0, 1) := by decide +kernel
theorem dX6_touches_1 : decode cX6_touches 1 = .ok (.getfield 20, 3) := by decide +kernel
theorem dX6_touches_4 : decode cX6_touches 4 = .ok (.iconst 4, 1) := by decide +kernel
theorem dX6_touches_5 : decode cX6_touches 5 = .ok (.iload_n 1, 1) := by decide +kernel
theorem dX6_touches_6 : decode cX6_touches 6 = .ok (.imul, 1) := by decide +kernel
theorem dX6_touches_7 : decode cX6_touches 7 = .ok (.iaload, 1) := by decide +kernel
theorem dX6_touches_8 : decode cX6_touches 8 = .ok (.iload_n 2, 1) := by decide +kernel
theorem dX6_touches_9 : decode cX6_touches 9 = .ok (.if_icmp .eq 17, 3) := by decide +kernel
theorem dX6_touches_12 : decode cX6_touches 12 = .ok (.aload_n 0, 1) := by decide +kernel
theorem dX6_touches_13 : decode cX6_touches 13 = .ok (.getfield 20, 3) := by decide +kernel
theorem dX6_touches_16 : decode cX6_touches 16 = .ok (.iconst 4, 1) := by decide +kernel
theorem dX6_touches_17 : decode cX6_touches 17 = .ok (.iload_n 1, 1) := by decide +kernel
theorem dX6_touches_18 : decode cX6_touches 18 = .ok (.imul, 1) := by decide +kernel
theorem dX6_touches_19 : decode cX6_touches 19 = .ok (.iconst 1, 1) := by decide +kernel
theorem dX6_touches_20 : decode cX6_touches 20 = .ok (.iadd, 1) := by decide +kernel
theorem dX6_touches_21 : decode cX6_touches 21 = .ok (.iaload, 1) := by decide +kernel
theorem dX6_touches_22 : decode cX6_touches 22 = .ok (.iload_n 2, 1) := by decide +kernel
theorem dX6_touches_23 : decode cX6_touches 23 = .ok (.if_icmp .ne 7, 3) := by decide +kernel
theorem dX6_touches_26 : decode cX6_touches 26 = .ok (.iconst 1, 1) := by decide +kernel
theorem dX6_touches_27 : decode cX6_touches 27 = .ok (.goto 4, 3) := by decide +kernel
theorem dX6_touches_30 : decode cX6_touches 30 = .ok (.iconst 0, 1) := by decide +kernel
theorem dX6_touches_31 : decode cX6_touches 31 = .ok (.ireturn, 1) := by decide +kernel
theorem dX6_isOpen_0 : decode cX6_isOpen 0 = .ok (.aload_n 0, 1) := by decide +kernel
theorem dX6_isOpen_1 : decode cX6_isOpen 1 = .ok (.getfield 16, 3) := by decide +kernel
theorem dX6_isOpen_4 : decode cX6_isOpen 4 = .ok (.iconst 5, 1) := by decide +kernel
theorem dX6_isOpen_5 : decode cX6_isOpen 5 = .ok (.aload_n 0, 1) := by decide +kernel
theorem dX6_isOpen_6 : decode cX6_isOpen 6 = .ok (.getfield 20, 3) := by decide +kernel
theorem dX6_isOpen_9 : decode cX6_isOpen 9 = .ok (.iconst 4, 1) := by decide +kernel
theorem dX6_isOpen_10 : decode cX6_isOpen 10 = .ok (.iload_n 1, 1) := by decide +kernel
theorem dX6_isOpen_11 : decode cX6_isOpen 11 = .ok (.imul, 1) := by decide +kernel
theorem dX6_isOpen_12 : decode cX6_isOpen 12 = .ok (.iaload, 1) := by decide +kernel
theorem dX6_isOpen_13 : decode cX6_isOpen 13 = .ok (.imul, 1) := by decide +kernel
theorem dX6_isOpen_14 : decode cX6_isOpen 14 = .ok (.iconst 1, 1) := by decide +kernel
theorem dX6_isOpen_15 : decode cX6_isOpen 15 = .ok (.iadd, 1) := by decide +kernel
theorem dX6_isOpen_16 : decode cX6_isOpen 16 = .ok (.iaload, 1) := by decide +kernel
theorem dX6_isOpen_17 : decode cX6_isOpen 17 = .ok (.iload_n 2, 1) := by decide +kernel
theorem dX6_isOpen_18 : decode cX6_isOpen 18 = .ok (.if_icmp .lt 30, 3) := by decide +kernel
theorem dX6_isOpen_21 : decode cX6_isOpen 21 = .ok (.aload_n 0, 1) := by decide +kernel
theorem dX6_isOpen_22 : decode cX6_isOpen 22 = .ok (.getfield 16, 3) := by decide +kernel
theorem dX6_isOpen_25 : decode cX6_isOpen 25 = .ok (.iconst 5, 1) := by decide +kernel
theorem dX6_isOpen_26 : decode cX6_isOpen 26 = .ok (.aload_n 0, 1) := by decide +kernel
theorem dX6_isOpen_27 : decode cX6_isOpen 27 = .ok (.getfield 20, 3) := by decide +kernel
theorem dX6_isOpen_30 : decode cX6_isOpen 30 = .ok (.iconst 4, 1) := by decide +kernel
theorem dX6_isOpen_31 : decode cX6_isOpen 31 = .ok (.iload_n 1, 1) := by decide +kernel
theorem dX6_isOpen_32 : decode cX6_isOpen 32 = .ok (.imul, 1) := by decide +kernel
theorem dX6_isOpen_33 : decode cX6_isOpen 33 = .ok (.iconst 1, 1) := by decide +kernel
theorem dX6_isOpen_34 : decode cX6_isOpen 34 = .ok (.iadd, 1) := by decide +kernel
theorem dX6_isOpen_35 : decode cX6_isOpen 35 = .ok (.iaload, 1) := by decide +kernel
theorem dX6_isOpen_36 : decode cX6_isOpen 36 = .ok (.imul, 1) := by decide +kernel
theorem dX6_isOpen_37 : decode cX6_isOpen 37 = .ok (.iconst 1, 1) := by decide +kernel
theorem dX6_isOpen_38 : decode cX6_isOpen 38 = .ok (.iadd, 1) := by decide +kernel
theorem dX6_isOpen_39 : decode cX6_isOpen 39 = .ok (.iaload, 1) := by decide +kernel
theorem dX6_isOpen_40 : decode cX6_isOpen 40 = .ok (.iload_n 2, 1) := by decide +kernel
theorem dX6_isOpen_41 : decode cX6_isOpen 41 = .ok (.if_icmp .lt 7, 3) := by decide +kernel
theorem dX6_isOpen_44 : decode cX6_isOpen 44 = .ok (.iconst 1, 1) := by decide +kernel
theorem dX6_isOpen_45 : decode cX6_isOpen 45 = .ok (.goto 4, 3) := by decide +kernel
theorem dX6_isOpen_48 : decode cX6_isOpen 48 = .ok (.iconst 0, 1) := by decide +kernel
theorem dX6_isOpen_49 : decode cX6_isOpen 49 = .ok (.ireturn, 1) := by decide +kernel
set_option maxRecDepth 20000 in
theorem ggX6_isWord_X6_isIn : GoodIn wsX6_isWord wsX6_isIn := goodIn_r _ [5] (by decide +kernel) (by decide +kernel)
set_option maxRecDepth 20000 in
theorem gX6_isWord_X6_isIn : GoodIn wsX6_isWord (va_wsS RX6 38 yX6_isIn wsX6_isIn) := goodIn_app (goodIn_of _ (by decide +kernel)) ggX6_isWord_X6_isIn
theorem dX6_isWord_0 : decode cX6_isWord 0 = .ok (.iload_n 0, 1) := by decide +kernel
theorem dX6_isWord_1 : decode cX6_isWord 1 = .ok (.iconst 1, 1) := by decide +kernel
theorem dX6_isWord_2 : decode cX6_isWord 2 = .ok (.ldc 42, 2) := by decide +kernel
theorem dX6_isWord_4 : decode cX6_isWord 4 = .ok (.invokestatic 38, 3) := by decide +kernel
theorem dX6_isWord_7 : decode cX6_isWord 7 = .ok (.istore_n 1, 1) := by decide +kernel
theorem dX6_isWord_8 : decode cX6_isWord 8 = .ok (.iload_n 0, 1) := by decide +kernel
theorem dX6_isWord_9 : decode cX6_isWord 9 = .ok (.istore_n 2, 1) := by decide +kernel
theorem dX6_isWord_10 : decode cX6_isWord 10 = .ok (.iload_n 2, 1) := by decide +kernel
theorem dX6_isWord_11 : decode cX6_isWord 11 = .ok (.ifCond .le 26, 3) := by decide +kernel
theorem dX6_isWord_14 : decode cX6_isWord 14 = .ok (.iload_n 1, 1) := by decide +kernel
theorem dX6_isWord_15 : decode cX6_isWord 15 = .ok (.iload_n 2, 1) := by decide +kernel
theorem dX6_isWord_16 : decode cX6_isWord 16 = .ok (.bipush 10, 2) := by decide +kernel
theorem dX6_isWord_18 : decode cX6_isWord 18 = .ok (.irem, 1) := by decide +kernel
theorem dX6_isWord_19 : decode cX6_isWord 19 = .ok (.ifCond .eq 7, 3) := by decide +kernel
theorem dX6_isWord_22 : decode cX6_isWord 22 = .ok (.iconst 1, 1) := by decide +kernel
theorem dX6_isWord_23 : decode cX6_isWord 23 = .ok (.goto 4, 3) := by decide +kernel
theorem dX6_isWord_26 : decode cX6_isWord 26 = .ok (.iconst 0, 1) := by decide +kernel
theorem dX6_isWord_27 : decode cX6_isWord 27 = .ok (.iand, 1) := by decide +kernel
theorem dX6_isWord_28 : decode cX6_isWord 28 = .ok (.istore_n 1, 1) := by decide +kernel
theorem dX6_isWord_29 : decode cX6_isWord 29 = .ok (.iload_n 2, 1) := by decide +kernel
theorem dX6_isWord_30 : decode cX6_isWord 30 = .ok (.bipush 10, 2) := by decide +kernel
theorem dX6_isWord_32 : decode cX6_isWord 32 = .ok (.idiv, 1) := by decide +kernel
theorem dX6_isWord_33 : decode cX6_isWord 33 = .ok (.istore_n 2, 1) := by decide +kernel
theorem dX6_isWord_34 : decode cX6_isWord 34 = .ok (.goto (-24), 3) := by decide +kernel
theorem dX6_isWord_37 : decode cX6_isWord 37 = .ok (.iload_n 1, 1) := by decide +kernel
theorem dX6_isWord_38 : decode cX6_isWord 38 = .ok (.ireturn, 1) := by decide +kernel
set_option maxRecDepth 20000 in
theorem ggX6_addChamber_X6_isIn : GoodIn wsX6_addChamber wsX6_isIn := goodIn_r _ [12] (by decide +kernel) (by decide +kernel)
set_option maxRecDepth 20000 in
theorem gX6_addChamber_X6_isIn : GoodIn wsX6_addChamber (va_wsS RX6 38 yX6_isIn wsX6_isIn) := goodIn_app (goodIn_of _ (by decide +kernel)) ggX6_addChamber_X6_isIn
set_option maxRecDepth 20000 in
theorem ggX6_addChamber_X6_no : GoodIn wsX6_addChamber wsX6_no := goodIn_r _ [16, 1, 17, 18, 19, 20, 21, 22, 23, 24, 25, 26] (by decide +kernel) (by decide +kernel)
set_option maxRecDepth 20000 in
theorem gX6_addChamber_X6_no : GoodIn wsX6_addChamber (wsV RX6 43 RX6 yX6_no wsX6_no) := goodIn_app (goodIn_of _ (by decide +kernel)) ggX6_addChamber_X6_no
theorem dX6_addChamber_0 : decode cX6_addChamber 0 = .ok (.aload_n 0, 1) := by decide +kernel
theorem dX6_addChamber_1 : decode cX6_addChamber 1 = .ok (.iconst 0, 1) := by decide +kernel
theorem dX6_addChamber_2 : decode cX6_addChamber 2 = .ok (.putfield 35, 3) := by decide +kernel
theorem dX6_addChamber_5 : decode cX6_addChamber 5 = .ok (.iload_n 1, 1) := by decide +kernel
theorem dX6_addChamber_6 : decode cX6_addChamber 6 = .ok (.iconst 0, 1) := by decide +kernel
theorem dX6_addChamber_7 : decode cX6_addChamber 7 = .ok (.bipush 100, 2) := by decide +kernel
theorem dX6_addChamber_9 : decode cX6_addChamber 9 = .ok (.invokestatic 38, 3) := by decide +kernel
theorem dX6_addChamber_12 : decode cX6_addChamber 12 = .ok (.ifCond .eq 23, 3) := by decide +kernel
theorem dX6_addChamber_15 : decode cX6_addChamber 15 = .ok (.iload_n 2, 1) := by decide +kernel
theorem dX6_addChamber_16 : decode cX6_addChamber 16 = .ok (.iconst 0, 1) := by decide +kernel
theorem dX6_addChamber_17 : decode cX6_addChamber 17 = .ok (.bipush 30, 2) := by decide +kernel
theorem dX6_addChamber_19 : decode cX6_addChamber 19 = .ok (.invokestatic 38, 3) := by decide +kernel
theorem dX6_addChamber_22 : decode cX6_addChamber 22 = .ok (.ifCond .eq 13, 3) := by decide +kernel
theorem dX6_addChamber_25 : decode cX6_addChamber 25 = .ok (.iload_n 3, 1) := by decide +kernel
theorem dX6_addChamber_26 : decode cX6_addChamber 26 = .ok (.iconst 0, 1) := by decide +kernel
theorem dX6_addChamber_27 : decode cX6_addChamber 27 = .ok (.bipush 20, 2) := by decide +kernel
theorem dX6_addChamber_29 : decode cX6_addChamber 29 = .ok (.invokestatic 38, 3) := by decide +kernel
theorem dX6_addChamber_32 : decode cX6_addChamber 32 = .ok (.ifCond .ne 9, 3) := by decide +kernel
theorem dX6_addChamber_35 : decode cX6_addChamber 35 = .ok (.aload_n 0, 1) := by decide +kernel
theorem dX6_addChamber_36 : decode cX6_addChamber 36 = .ok (.iconst 1, 1) := by decide +kernel
theorem dX6_addChamber_37 : decode cX6_addChamber 37 = .ok (.invokevirtual 43, 3) := by decide +kernel
theorem dX6_addChamber_40 : decode cX6_addChamber 40 = .ok (.ireturn, 1) := by decide +kernel
theorem dX6_addChamber_41 : decode cX6_addChamber 41 = .ok (.aload_n 0, 1) := by decide +kernel
theorem dX6_addChamber_42 : decode cX6_addChamber 42 = .ok (.getfield 9, 3) := by decide +kernel
theorem dX6_addChamber_45 : decode cX6_addChamber 45 = .ok (.bipush 12, 2) := by decide +kernel
theorem dX6_addChamber_47 : decode cX6_addChamber 47 = .ok (.if_icmp .ne 9, 3) := by decide +kernel
theorem dX6_addChamber_50 : decode cX6_addChamber 50 = .ok (.aload_n 0, 1) := by decide +kernel
theorem dX6_addChamber_51 : decode cX6_addChamber 51 = .ok (.iconst 2, 1) := by decide +kernel
theorem dX6_addChamber_52 : decode cX6_addChamber 52 = .ok (.invokevirtual 43, 3) := by decide +kernel
theorem dX6_addChamber_55 : decode cX6_addChamber 55 = .ok (.ireturn, 1) := by decide +kernel
theorem dX6_addChamber_56 : decode cX6_addChamber 56 = .ok (.iconst 5, 1) := by decide +kernel
theorem dX6_addChamber_57 : decode cX6_addChamber 57 = .ok (.newarray .int, 2) := by decide +kernel
theorem dX6_addChamber_59 : decode cX6_addChamber 59 = .ok (.dup, 1) := by decide +kernel
theorem dX6_addChamber_60 : decode cX6_addChamber 60 = .ok (.iconst 0, 1) := by decide +kernel
theorem dX6_addChamber_61 : decode cX6_addChamber 61 = .ok (.iload_n 1, 1) := by decide +kernel
theorem dX6_addChamber_62 : decode cX6_addChamber 62 = .ok (.iastore, 1) := by decide +kernel
theorem dX6_addChamber_63 : decode cX6_addChamber 63 = .ok (.dup, 1) := by decide +kernel
theorem dX6_addChamber_64 : decode cX6_addChamber 64 = .ok (.iconst 1, 1) := by decide +kernel
theorem dX6_addChamber_65 : decode cX6_addChamber 65 = .ok (.iload_n 2, 1) := by decide +kernel
theorem dX6_addChamber_66 : decode cX6_addChamber 66 = .ok (.iastore, 1) := by decide +kernel
theorem dX6_addChamber_67 : decode cX6_addChamber 67 = .ok (.dup, 1) := by decide +kernel
theorem dX6_addChamber_68 : decode cX6_addChamber 68 = .ok (.iconst 2, 1) := by decide +kernel
theorem dX6_addChamber_69 : decode cX6_addChamber 69 = .ok (.iload_n 3, 1) := by decide +kernel
theorem dX6_addChamber_70 : decode cX6_addChamber 70 = .ok (.iastore, 1) := by decide +kernel
theorem dX6_addChamber_71 : decode cX6_addChamber 71 = .ok (.dup, 1) := by decide +kernel
theorem dX6_addChamber_72 : decode cX6_addChamber 72 = .ok (.iconst 3, 1) := by decide +kernel
theorem dX6_addChamber_73 : decode cX6_addChamber 73 = .ok (.iconst 0, 1) := by decide +kernel
theorem dX6_addChamber_74 : decode cX6_addChamber 74 = .ok (.iastore, 1) := by decide +kernel
theorem dX6_addChamber_75 : decode cX6_addChamber 75 = .ok (.dup, 1) := by decide +kernel
theorem dX6_addChamber_76 : decode cX6_addChamber 76 = .ok (.iconst 4, 1) := by decide +kernel
theorem dX6_addChamber_77 : decode cX6_addChamber 77 = .ok (.iconst 0, 1) := by decide +kernel
theorem dX6_addChamber_78 : decode cX6_addChamber 78 = .ok (.iastore, 1) := by decide +kernel
theorem dX6_addChamber_79 : decode cX6_addChamber 79 = .ok (.astore 4, 2) := by decide +kernel
theorem dX6_addChamber_81 : decode cX6_addChamber 81 = .ok (.aload 4, 2) := by decide +kernel
theorem dX6_addChamber_83 : decode cX6_addChamber 83 = .ok (.iconst 0, 1) := by decide +kernel
theorem dX6_addChamber_84 : decode cX6_addChamber 84 = .ok (.aload_n 0, 1) := by decide +kernel
theorem dX6_addChamber_85 : decode cX6_addChamber 85 = .ok (.getfield 16, 3) := by decide +kernel
theorem dX6_addChamber_88 : decode cX6_addChamber 88 = .ok (.iconst 5, 1) := by decide +kernel
theorem dX6_addChamber_89 : decode cX6_addChamber 89 = .ok (.aload_n 0, 1) := by decide +kernel
theorem dX6_addChamber_90 : decode cX6_addChamber 90 = .ok (.getfield 9, 3) := by decide +kernel
theorem dX6_addChamber_93 : decode cX6_addChamber 93 = .ok (.imul, 1) := by decide +kernel
theorem dX6_addChamber_94 : decode cX6_addChamber 94 = .ok (.iconst 5, 1) := by decide +kernel
theorem dX6_addChamber_95 : decode cX6_addChamber 95 = .ok (.invokestatic 47, 3) := by decide +kernel
theorem dX6_addChamber_98 : decode cX6_addChamber 98 = .ok (.aload_n 0, 1) := by decide +kernel
theorem dX6_addChamber_99 : decode cX6_addChamber 99 = .ok (.dup, 1) := by decide +kernel
theorem dX6_addChamber_100 : decode cX6_addChamber 100 = .ok (.getfield 9, 3) := by decide +kernel
theorem dX6_addChamber_103 : decode cX6_addChamber 103 = .ok (.iconst 1, 1) := by decide +kernel
theorem dX6_addChamber_104 : decode cX6_addChamber 104 = .ok (.iadd, 1) := by decide +kernel
theorem dX6_addChamber_105 : decode cX6_addChamber 105 = .ok (.putfield 9, 3) := by decide +kernel
theorem dX6_addChamber_108 : decode cX6_addChamber 108 = .ok (.aload_n 0, 1) := by decide +kernel
theorem dX6_addChamber_109 : decode cX6_addChamber 109 = .ok (.getfield 9, 3) := by decide +kernel
theorem dX6_addChamber_112 : decode cX6_addChamber 112 = .ok (.iconst 1, 1) := by decide +kernel
theorem dX6_addChamber_113 : decode cX6_addChamber 113 = .ok (.isub, 1) := by decide +kernel
theorem dX6_addChamber_114 : decode cX6_addChamber 114 = .ok (.ireturn, 1) := by decide +kernel
set_option maxRecDepth 20000 in
theorem ggX6_addPassage_X6_isChamber : GoodIn wsX6_addPassage wsX6_isChamber := goodIn_r _ [13, 14, 15, 16, 12, 17, 22, 23, 24, 25, 26, 27, 28, 29, 30, 31] (by decide +kernel) (by decide +kernel)
set_option maxRecDepth 20000 in
theorem gX6_addPassage_X6_isChamber : GoodIn wsX6_addPassage (wsV RX6 53 RX6 yX6_isChamber wsX6_isChamber) := goodIn_app (goodIn_of _ (by decide +kernel)) ggX6_addPassage_X6_isChamber
set_option maxRecDepth 20000 in
theorem ggX6_addPassage_X6_no : GoodIn wsX6_addPassage wsX6_no := goodIn_r _ [21, 1, 22, 23, 24, 25, 26, 27, 28, 29, 30, 31] (by decide +kernel) (by decide +kernel)
set_option maxRecDepth 20000 in
theorem gX6_addPassage_X6_no : GoodIn wsX6_addPassage (wsV RX6 43 RX6 yX6_no wsX6_no) := goodIn_app (goodIn_of _ (by decide +kernel)) ggX6_addPassage_X6_no
set_option maxRecDepth 20000 in
theorem ggX6_addPassage_X6_isIn : GoodIn wsX6_addPassage wsX6_isIn := goodIn_r _ [17] (by decide +kernel) (by decide +kernel)
set_option maxRecDepth 20000 in
theorem gX6_addPassage_X6_isIn : GoodIn wsX6_addPassage (va_wsS RX6 38 yX6_isIn wsX6_isIn) := goodIn_app (goodIn_of _ (by decide +kernel)) ggX6_addPassage_X6_isIn
theorem dX6_addPassage_0 : decode cX6_addPassage 0 = .ok (.aload_n 0, 1) := by decide +kernel
theorem dX6_addPassage_1 : decode cX6_addPassage 1 = .ok (.iconst 0, 1) := by decide +kernel
theorem dX6_addPassage_2 : decode cX6_addPassage 2 = .ok (.putfield 35, 3) := by decide +kernel
theorem dX6_addPassage_5 : decode cX6_addPassage 5 = .ok (.aload_n 0, 1) := by decide +kernel
theorem dX6_addPassage_6 : decode cX6_addPassage 6 = .ok (.iload_n 1, 1) := by decide +kernel
theorem dX6_addPassage_7 : decode cX6_addPassage 7 = .ok (.invokevirtual 53, 3) := by decide +kernel
theorem dX6_addPassage_10 : decode cX6_addPassage 10 = .ok (.ifCond .eq 11, 3) := by decide +kernel
theorem dX6_addPassage_13 : decode cX6_addPassage 13 = .ok (.aload_n 0, 1) := by decide +kernel
theorem dX6_addPassage_14 : decode cX6_addPassage 14 = .ok (.iload_n 2, 1) := by decide +kernel
theorem dX6_addPassage_15 : decode cX6_addPassage 15 = .ok (.invokevirtual 53, 3) := by decide +kernel
theorem dX6_addPassage_18 : decode cX6_addPassage 18 = .ok (.ifCond .ne 9, 3) := by decide +kernel
theorem dX6_addPassage_21 : decode cX6_addPassage 21 = .ok (.aload_n 0, 1) := by decide +kernel
theorem dX6_addPassage_22 : decode cX6_addPassage 22 = .ok (.iconst 1, 1) := by decide +kernel
theorem dX6_addPassage_23 : decode cX6_addPassage 23 = .ok (.invokevirtual 43, 3) := by decide +kernel
theorem dX6_addPassage_26 : decode cX6_addPassage 26 = .ok (.ireturn, 1) := by decide +kernel
theorem dX6_addPassage_27 : decode cX6_addPassage 27 = .ok (.iload_n 1, 1) := by decide +kernel
theorem dX6_addPassage_28 : decode cX6_addPassage 28 = .ok (.iload_n 2, 1) := by decide +kernel
theorem dX6_addPassage_29 : decode cX6_addPassage 29 = .ok (.if_icmp .eq 24, 3) := by decide +kernel
theorem dX6_addPassage_32 : decode cX6_addPassage 32 = .ok (.iload_n 3, 1) := by decide +kernel
theorem dX6_addPassage_33 : decode cX6_addPassage 33 = .ok (.iconst 1, 1) := by decide +kernel
theorem dX6_addPassage_34 : decode cX6_addPassage 34 = .ok (.bipush 9, 2) := by decide +kernel
theorem dX6_addPassage_36 : decode cX6_addPassage 36 = .ok (.invokestatic 38, 3) := by decide +kernel
theorem dX6_addPassage_39 : decode cX6_addPassage 39 = .ok (.ifCond .eq 14, 3) := by decide +kernel
theorem dX6_addPassage_42 : decode cX6_addPassage 42 = .ok (.iload 4, 2) := by decide +kernel
theorem dX6_addPassage_44 : decode cX6_addPassage 44 = .ok (.iconst 0, 1) := by decide +kernel
theorem dX6_addPassage_45 : decode cX6_addPassage 45 = .ok (.bipush 9, 2) := by decide +kernel
theorem dX6_addPassage_47 : decode cX6_addPassage 47 = .ok (.invokestatic 38, 3) := by decide +kernel
theorem dX6_addPassage_50 : decode cX6_addPassage 50 = .ok (.ifCond .ne 9, 3) := by decide +kernel
theorem dX6_addPassage_53 : decode cX6_addPassage 53 = .ok (.aload_n 0, 1) := by decide +kernel
theorem dX6_addPassage_54 : decode cX6_addPassage 54 = .ok (.iconst 2, 1) := by decide +kernel
theorem dX6_addPassage_55 : decode cX6_addPassage 55 = .ok (.invokevirtual 43, 3) := by decide +kernel
theorem dX6_addPassage_58 : decode cX6_addPassage 58 = .ok (.ireturn, 1) := by decide +kernel
theorem dX6_addPassage_59 : decode cX6_addPassage 59 = .ok (.aload_n 0, 1) := by decide +kernel
theorem dX6_addPassage_60 : decode cX6_addPassage 60 = .ok (.getfield 57, 3) := by decide +kernel
theorem dX6_addPassage_63 : decode cX6_addPassage 63 = .ok (.bipush 18, 2) := by decide +kernel
theorem dX6_addPassage_65 : decode cX6_addPassage 65 = .ok (.if_icmp .ne 9, 3) := by decide +kernel
theorem dX6_addPassage_68 : decode cX6_addPassage 68 = .ok (.aload_n 0, 1) := by decide +kernel
theorem dX6_addPassage_69 : decode cX6_addPassage 69 = .ok (.iconst 3, 1) := by decide +kernel
theorem dX6_addPassage_70 : decode cX6_addPassage 70 = .ok (.invokevirtual 43, 3) := by decide +kernel
theorem dX6_addPassage_73 : decode cX6_addPassage 73 = .ok (.ireturn, 1) := by decide +kernel
theorem dX6_addPassage_74 : decode cX6_addPassage 74 = .ok (.iconst 4, 1) := by decide +kernel
theorem dX6_addPassage_75 : decode cX6_addPassage 75 = .ok (.newarray .int, 2) := by decide +kernel
theorem dX6_addPassage_77 : decode cX6_addPassage 77 = .ok (.dup, 1) := by decide +kernel
theorem dX6_addPassage_78 : decode cX6_addPassage 78 = .ok (.iconst 0, 1) := by decide +kernel
theorem dX6_addPassage_79 : decode cX6_addPassage 79 = .ok (.iload_n 1, 1) := by decide +kernel
theorem dX6_addPassage_80 : decode cX6_addPassage 80 = .ok (.iastore, 1) := by decide +kernel
theorem dX6_addPassage_81 : decode cX6_addPassage 81 = .ok (.dup, 1) := by decide +kernel
theorem dX6_addPassage_82 : decode cX6_addPassage 82 = .ok (.iconst 1, 1) := by decide +kernel
theorem dX6_addPassage_83 : decode cX6_addPassage 83 = .ok (.iload_n 2, 1) := by decide +kernel
theorem dX6_addPassage_84 : decode cX6_addPassage 84 = .ok (.iastore, 1) := by decide +kernel
theorem dX6_addPassage_85 : decode cX6_addPassage 85 = .ok (.dup, 1) := by decide +kernel
theorem dX6_addPassage_86 : decode cX6_addPassage 86 = .ok (.iconst 2, 1) := by decide +kernel
theorem dX6_addPassage_87 : decode cX6_addPassage 87 = .ok (.iload_n 3, 1) := by decide +kernel
theorem dX6_addPassage_88 : decode cX6_addPassage 88 = .ok (.iastore, 1) := by decide +kernel
theorem dX6_addPassage_89 : decode cX6_addPassage 89 = .ok (.dup, 1) := by decide +kernel
theorem dX6_addPassage_90 : decode cX6_addPassage 90 = .ok (.iconst 3, 1) := by decide +kernel
theorem dX6_addPassage_91 : decode cX6_addPassage 91 = .ok (.iload 4, 2) := by decide +kernel
theorem dX6_addPassage_93 : decode cX6_addPassage 93 = .ok (.iastore, 1) := by decide +kernel
theorem dX6_addPassage_94 : decode cX6_addPassage 94 = .ok (.astore 5, 2) := by decide +kernel
theorem dX6_addPassage_96 : decode cX6_addPassage 96 = .ok (.aload 5, 2) := by decide +kernel
theorem dX6_addPassage_98 : decode cX6_addPassage 98 = .ok (.iconst 0, 1) := by decide +kernel
theorem dX6_addPassage_99 : decode cX6_addPassage 99 = .ok (.aload_n 0, 1) := by decide +kernel
theorem dX6_addPassage_100 : decode cX6_addPassage 100 = .ok (.getfield 20, 3) := by decide +kernel
theorem dX6_addPassage_103 : decode cX6_addPassage 103 = .ok (.iconst 4, 1) := by decide +kernel
theorem dX6_addPassage_104 : decode cX6_addPassage 104 = .ok (.aload_n 0, 1) := by decide +kernel
theorem dX6_addPassage_105 : decode cX6_addPassage 105 = .ok (.getfield 57, 3) := by decide +kernel
theorem dX6_addPassage_108 : decode cX6_addPassage 108 = .ok (.imul, 1) := by decide +kernel
theorem dX6_addPassage_109 : decode cX6_addPassage 109 = .ok (.iconst 4, 1) := by decide +kernel
theorem dX6_addPassage_110 : decode cX6_addPassage 110 = .ok (.invokestatic 47, 3) := by decide +kernel
theorem dX6_addPassage_113 : decode cX6_addPassage 113 = .ok (.aload_n 0, 1) := by decide +kernel
theorem dX6_addPassage_114 : decode cX6_addPassage 114 = .ok (.dup, 1) := by decide +kernel
theorem dX6_addPassage_115 : decode cX6_addPassage 115 = .ok (.getfield 57, 3) := by decide +kernel
theorem dX6_addPassage_118 : decode cX6_addPassage 118 = .ok (.iconst 1, 1) := by decide +kernel
theorem dX6_addPassage_119 : decode cX6_addPassage 119 = .ok (.iadd, 1) := by decide +kernel
theorem dX6_addPassage_120 : decode cX6_addPassage 120 = .ok (.putfield 57, 3) := by decide +kernel
theorem dX6_addPassage_123 : decode cX6_addPassage 123 = .ok (.aload_n 0, 1) := by decide +kernel
theorem dX6_addPassage_124 : decode cX6_addPassage 124 = .ok (.getfield 57, 3) := by decide +kernel
theorem dX6_addPassage_127 : decode cX6_addPassage 127 = .ok (.iconst 1, 1) := by decide +kernel
theorem dX6_addPassage_128 : decode cX6_addPassage 128 = .ok (.isub, 1) := by decide +kernel
theorem dX6_addPassage_129 : decode cX6_addPassage 129 = .ok (.ireturn, 1) := by decide +kernel
set_option maxRecDepth 20000 in
theorem ggX6_setWater_X6_isIn : GoodIn wsX6_setWater wsX6_isIn := goodIn_r _ [6] (by decide +kernel) (by decide +kernel)
set_option maxRecDepth 20000 in
theorem gX6_setWater_X6_isIn : GoodIn wsX6_setWater (va_wsS RX6 38 yX6_isIn wsX6_isIn) := goodIn_app (goodIn_of _ (by decide +kernel)) ggX6_setWater_X6_isIn
set_option maxRecDepth 20000 in
theorem ggX6_setWater_X6_no : GoodIn wsX6_setWater wsX6_no := goodIn_r _ [10, 1, 11, 12, 13, 14, 15, 16, 17, 18, 19, 20] (by decide +kernel) (by decide +kernel)
set_option maxRecDepth 20000 in
theorem gX6_setWater_X6_no : GoodIn wsX6_setWater (wsV RX6 43 RX6 yX6_no wsX6_no) := goodIn_app (goodIn_of _ (by decide +kernel)) ggX6_setWater_X6_no
theorem dX6_setWater_0 : decode cX6_setWater 0 = .ok (.aload_n 0, 1) := by decide +kernel
theorem dX6_setWater_1 : decode cX6_setWater 1 = .ok (.iconst 0, 1) := by decide +kernel
theorem dX6_setWater_2 : decode cX6_setWater 2 = .ok (.putfield 35, 3) := by decide +kernel
theorem dX6_setWater_5 : decode cX6_setWater 5 = .ok (.iload_n 1, 1) := by decide +kernel
theorem dX6_setWater_6 : decode cX6_setWater 6 = .ok (.iconst 0, 1) := by decide +kernel
theorem dX6_setWater_7 : decode cX6_setWater 7 = .ok (.bipush 30, 2) := by decide +kernel
theorem dX6_setWater_9 : decode cX6_setWater 9 = .ok (.invokestatic 38, 3) := by decide +kernel
theorem dX6_setWater_12 : decode cX6_setWater 12 = .ok (.ifCond .ne 9, 3) := by decide +kernel
theorem dX6_setWater_15 : decode cX6_setWater 15 = .ok (.aload_n 0, 1) := by decide +kernel
theorem dX6_setWater_16 : decode cX6_setWater 16 = .ok (.iconst 1, 1) := by decide +kernel
theorem dX6_setWater_17 : decode cX6_setWater 17 = .ok (.invokevirtual 43, 3) := by decide +kernel
theorem dX6_setWater_20 : decode cX6_setWater 20 = .ok (.ireturn, 1) := by decide +kernel
theorem dX6_setWater_21 : decode cX6_setWater 21 = .ok (.aload_n 0, 1) := by decide +kernel
theorem dX6_setWater_22 : decode cX6_setWater 22 = .ok (.getfield 60, 3) := by decide +kernel
theorem dX6_setWater_25 : decode cX6_setWater 25 = .ok (.istore_n 2, 1) := by decide +kernel
theorem dX6_setWater_26 : decode cX6_setWater 26 = .ok (.aload_n 0, 1) := by decide +kernel
theorem dX6_setWater_27 : decode cX6_setWater 27 = .ok (.iload_n 1, 1) := by decide +kernel
theorem dX6_setWater_28 : decode cX6_setWater 28 = .ok (.putfield 60, 3) := by decide +kernel
theorem dX6_setWater_31 : decode cX6_setWater 31 = .ok (.iload_n 2, 1) := by decide +kernel
theorem dX6_setWater_32 : decode cX6_setWater 32 = .ok (.ireturn, 1) := by decide +kernel
set_option maxRecDepth 20000 in
theorem ggX6_setBats_X6_isChamber : GoodIn wsX6_setBats wsX6_isChamber := goodIn_r _ [7, 8, 9, 10, 6, 11, 16, 17, 18, 19, 20, 21, 22, 23, 24, 25] (by decide +kernel) (by decide +kernel)
set_option maxRecDepth 20000 in
theorem gX6_setBats_X6_isChamber : GoodIn wsX6_setBats (wsV RX6 53 RX6 yX6_isChamber wsX6_isChamber) := goodIn_app (goodIn_of _ (by decide +kernel)) ggX6_setBats_X6_isChamber
set_option maxRecDepth 20000 in
theorem ggX6_setBats_X6_no : GoodIn wsX6_setBats wsX6_no := goodIn_r _ [15, 1, 16, 17, 18, 19, 20, 21, 22, 23, 24, 25] (by decide +kernel) (by decide +kernel)
set_option maxRecDepth 20000 in
theorem gX6_setBats_X6_no : GoodIn wsX6_setBats (wsV RX6 43 RX6 yX6_no wsX6_no) := goodIn_app (goodIn_of _ (by decide +kernel)) ggX6_setBats_X6_no
set_option maxRecDepth 20000 in
theorem ggX6_setBats_X6_isIn : GoodIn wsX6_setBats wsX6_isIn := goodIn_r _ [11] (by decide +kernel) (by decide +kernel)
set_option maxRecDepth 20000 in
theorem gX6_setBats_X6_isIn : GoodIn wsX6_setBats (va_wsS RX6 38 yX6_isIn wsX6_isIn) := goodIn_app (goodIn_of _ (by decide +kernel)) ggX6_setBats_X6_isIn
theorem dX6_setBats_0 : decode cX6_setBats 0 = .ok (.aload_n 0, 1) := by decide +kernel
theorem dX6_setBats_1 : decode cX6_setBats 1 = .ok (.iconst 0, 1) := by decide +kernel
theorem dX6_setBats_2 : decode cX6_setBats 2 = .ok (.putfield 35, 3) := by decide +kernel
theorem dX6_setBats_5 : decode cX6_setBats 5 = .ok (.aload_n 0, 1) := by decide +kernel
theorem dX6_setBats_6 : decode cX6_setBats 6 = .ok (.iload_n 1, 1) := by decide +kernel
theorem dX6_setBats_7 : decode cX6_setBats 7 = .ok (.invokevirtual 53, 3) := by decide +kernel
theorem dX6_setBats_10 : decode cX6_setBats 10 = .ok (.ifCond .ne 9, 3) := by decide +kernel
theorem dX6_setBats_13 : decode cX6_setBats 13 = .ok (.aload_n 0, 1) := by decide +kernel
theorem dX6_setBats_14 : decode cX6_setBats 14 = .ok (.iconst 1, 1) := by decide +kernel
theorem dX6_setBats_15 : decode cX6_setBats 15 = .ok (.invokevirtual 43, 3) := by decide +kernel
theorem dX6_setBats_18 : decode cX6_setBats 18 = .ok (.ireturn, 1) := by decide +kernel
theorem dX6_setBats_19 : decode cX6_setBats 19 = .ok (.iload_n 2, 1) := by decide +kernel
theorem dX6_setBats_20 : decode cX6_setBats 20 = .ok (.iconst 0, 1) := by decide +kernel
theorem dX6_setBats_21 : decode cX6_setBats 21 = .ok (.bipush 20, 2) := by decide +kernel
theorem dX6_setBats_23 : decode cX6_setBats 23 = .ok (.invokestatic 38, 3) := by decide +kernel
theorem dX6_setBats_26 : decode cX6_setBats 26 = .ok (.ifCond .ne 9, 3) := by decide +kernel
theorem dX6_setBats_29 : decode cX6_setBats 29 = .ok (.aload_n 0, 1) := by decide +kernel
theorem dX6_setBats_30 : decode cX6_setBats 30 = .ok (.iconst 2, 1) := by decide +kernel
theorem dX6_setBats_31 : decode cX6_setBats 31 = .ok (.invokevirtual 43, 3) := by decide +kernel
theorem dX6_setBats_34 : decode cX6_setBats 34 = .ok (.ireturn, 1) := by decide +kernel
theorem dX6_setBats_35 : decode cX6_setBats 35 = .ok (.aload_n 0, 1) := by decide +kernel
theorem dX6_setBats_36 : decode cX6_setBats 36 = .ok (.getfield 16, 3) := by decide +kernel
theorem dX6_setBats_39 : decode cX6_setBats 39 = .ok (.iconst 5, 1) := by decide +kernel
theorem dX6_setBats_40 : decode cX6_setBats 40 = .ok (.iload_n 1, 1) := by decide +kernel
theorem dX6_setBats_41 : decode cX6_setBats 41 = .ok (.imul, 1) := by decide +kernel
theorem dX6_setBats_42 : decode cX6_setBats 42 = .ok (.iconst 2, 1) := by decide +kernel
theorem dX6_setBats_43 : decode cX6_setBats 43 = .ok (.iadd, 1) := by decide +kernel
theorem dX6_setBats_44 : decode cX6_setBats 44 = .ok (.iaload, 1) := by decide +kernel
theorem dX6_setBats_45 : decode cX6_setBats 45 = .ok (.istore_n 3, 1) := by decide +kernel
theorem dX6_setBats_46 : decode cX6_setBats 46 = .ok (.aload_n 0, 1) := by decide +kernel
theorem dX6_setBats_47 : decode cX6_setBats 47 = .ok (.getfield 16, 3) := by decide +kernel
theorem dX6_setBats_50 : decode cX6_setBats 50 = .ok (.iconst 5, 1) := by decide +kernel
theorem dX6_setBats_51 : decode cX6_setBats 51 = .ok (.iload_n 1, 1) := by decide +kernel
theorem dX6_setBats_52 : decode cX6_setBats 52 = .ok (.imul, 1) := by decide +kernel
theorem dX6_setBats_53 : decode cX6_setBats 53 = .ok (.iconst 2, 1) := by decide +kernel
theorem dX6_setBats_54 : decode cX6_setBats 54 = .ok (.iadd, 1) := by decide +kernel
theorem dX6_setBats_55 : decode cX6_setBats 55 = .ok (.iload_n 2, 1) := by decide +kernel
theorem dX6_setBats_56 : decode cX6_setBats 56 = .ok (.iastore, 1) := by decide +kernel
theorem dX6_setBats_57 : decode cX6_setBats 57 = .ok (.iload_n 3, 1) := by decide +kernel
theorem dX6_setBats_58 : decode cX6_setBats 58 = .ok (.ireturn, 1) := by decide +kernel
set_option maxRecDepth 20000 in
theorem ggX6_setClapper_X6_isChamber : GoodIn wsX6_setClapper wsX6_isChamber := goodIn_r _ [7, 8, 9, 10, 6, 11, 16, 17, 18, 19, 20, 21, 22, 23, 24, 25] (by decide +kernel) (by decide +kernel)
set_option maxRecDepth 20000 in
theorem gX6_setClapper_X6_isChamber : GoodIn wsX6_setClapper (wsV RX6 53 RX6 yX6_isChamber wsX6_isChamber) := goodIn_app (goodIn_of _ (by decide +kernel)) ggX6_setClapper_X6_isChamber
set_option maxRecDepth 20000 in
theorem ggX6_setClapper_X6_no : GoodIn wsX6_setClapper wsX6_no := goodIn_r _ [15, 1, 16, 17, 18, 19, 20, 21, 22, 23, 24, 25] (by decide +kernel) (by decide +kernel)
set_option maxRecDepth 20000 in
theorem gX6_setClapper_X6_no : GoodIn wsX6_setClapper (wsV RX6 43 RX6 yX6_no wsX6_no) := goodIn_app (goodIn_of _ (by decide +kernel)) ggX6_setClapper_X6_no
set_option maxRecDepth 20000 in
theorem ggX6_setClapper_X6_isIn : GoodIn wsX6_setClapper wsX6_isIn := goodIn_r _ [11] (by decide +kernel) (by decide +kernel)
set_option maxRecDepth 20000 in
theorem gX6_setClapper_X6_isIn : GoodIn wsX6_setClapper (va_wsS RX6 38 yX6_isIn wsX6_isIn) := goodIn_app (goodIn_of _ (by decide +kernel)) ggX6_setClapper_X6_isIn
theorem dX6_setClapper_0 : decode cX6_setClapper 0 = .ok (.aload_n 0, 1) := by decide +kernel
theorem dX6_setClapper_1 : decode cX6_setClapper 1 = .ok (.iconst 0, 1) := by decide +kernel
theorem dX6_setClapper_2 : decode cX6_setClapper 2 = .ok (.putfield 35, 3) := by decide +kernel
theorem dX6_setClapper_5 : decode cX6_setClapper 5 = .ok (.aload_n 0, 1) := by decide +kernel
theorem dX6_setClapper_6 : decode cX6_setClapper 6 = .ok (.iload_n 1, 1) := by decide +kernel
theorem dX6_setClapper_7 : decode cX6_setClapper 7 = .ok (.invokevirtual 53, 3) := by decide +kernel
theorem dX6_setClapper_10 : decode cX6_setClapper 10 = .ok (.ifCond .ne 9, 3) := by decide +kernel
theorem dX6_setClapper_13 : decode cX6_setClapper 13 = .ok (.aload_n 0, 1) := by decide +kernel
theorem dX6_setClapper_14 : decode cX6_setClapper 14 = .ok (.iconst 1, 1) := by decide +kernel
theorem dX6_setClapper_15 : decode cX6_setClapper 15 = .ok (.invokevirtual 43, 3) := by decide +kernel
theorem dX6_setClapper_18 : decode cX6_setClapper 18 = .ok (.ireturn, 1) := by decide +kernel
theorem dX6_setClapper_19 : decode cX6_setClapper 19 = .ok (.iload_n 1, 1) := by decide +kernel
theorem dX6_setClapper_20 : decode cX6_setClapper 20 = .ok (.ifCond .eq 23, 3) := by decide +kernel
theorem dX6_setClapper_23 : decode cX6_setClapper 23 = .ok (.iload_n 2, 1) := by decide +kernel
theorem dX6_setClapper_24 : decode cX6_setClapper 24 = .ok (.iconst 0, 1) := by decide +kernel
theorem dX6_setClapper_25 : decode cX6_setClapper 25 = .ok (.bipush 9, 2) := by decide +kernel
theorem dX6_setClapper_27 : decode cX6_setClapper 27 = .ok (.invokestatic 38, 3) := by decide +kernel
theorem dX6_setClapper_30 : decode cX6_setClapper 30 = .ok (.ifCond .eq 13, 3) := by decide +kernel
theorem dX6_setClapper_33 : decode cX6_setClapper 33 = .ok (.iload_n 3, 1) := by decide +kernel
theorem dX6_setClapper_34 : decode cX6_setClapper 34 = .ok (.iconst 0, 1) := by decide +kernel
theorem dX6_setClapper_35 : decode cX6_setClapper 35 = .ok (.bipush 20, 2) := by decide +kernel
theorem dX6_setClapper_37 : decode cX6_setClapper 37 = .ok (.invokestatic 38, 3) := by decide +kernel
theorem dX6_setClapper_40 : decode cX6_setClapper 40 = .ok (.ifCond .ne 9, 3) := by decide +kernel
theorem dX6_setClapper_43 : decode cX6_setClapper 43 = .ok (.aload_n 0, 1) := by decide +kernel
theorem dX6_setClapper_44 : decode cX6_setClapper 44 = .ok (.iconst 2, 1) := by decide +kernel
theorem dX6_setClapper_45 : decode cX6_setClapper 45 = .ok (.invokevirtual 43, 3) := by decide +kernel
theorem dX6_setClapper_48 : decode cX6_setClapper 48 = .ok (.ireturn, 1) := by decide +kernel
theorem dX6_setClapper_49 : decode cX6_setClapper 49 = .ok (.aload_n 0, 1) := by decide +kernel
theorem dX6_setClapper_50 : decode cX6_setClapper 50 = .ok (.getfield 16, 3) := by decide +kernel
theorem dX6_setClapper_53 : decode cX6_setClapper 53 = .ok (.iconst 5, 1) := by decide +kernel
theorem dX6_setClapper_54 : decode cX6_setClapper 54 = .ok (.iload_n 1, 1) := by decide +kernel
theorem dX6_setClapper_55 : decode cX6_setClapper 55 = .ok (.imul, 1) := by decide +kernel
theorem dX6_setClapper_56 : decode cX6_setClapper 56 = .ok (.iconst 3, 1) := by decide +kernel
theorem dX6_setClapper_57 : decode cX6_setClapper 57 = .ok (.iadd, 1) := by decide +kernel
theorem dX6_setClapper_58 : decode cX6_setClapper 58 = .ok (.iaload, 1) := by decide +kernel
theorem dX6_setClapper_59 : decode cX6_setClapper 59 = .ok (.istore 4, 2) := by decide +kernel
theorem dX6_setClapper_61 : decode cX6_setClapper 61 = .ok (.aload_n 0, 1) := by decide +kernel
theorem dX6_setClapper_62 : decode cX6_setClapper 62 = .ok (.getfield 16, 3) := by decide +kernel
theorem dX6_setClapper_65 : decode cX6_setClapper 65 = .ok (.iconst 5, 1) := by decide +kernel
theorem dX6_setClapper_66 : decode cX6_setClapper 66 = .ok (.iload_n 1, 1) := by decide +kernel
theorem dX6_setClapper_67 : decode cX6_setClapper 67 = .ok (.imul, 1) := by decide +kernel
theorem dX6_setClapper_68 : decode cX6_setClapper 68 = .ok (.iconst 3, 1) := by decide +kernel
theorem dX6_setClapper_69 : decode cX6_setClapper 69 = .ok (.iadd, 1) := by decide +kernel
theorem dX6_setClapper_70 : decode cX6_setClapper 70 = .ok (.iload_n 2, 1) := by decide +kernel
theorem dX6_setClapper_71 : decode cX6_setClapper 71 = .ok (.iastore, 1) := by decide +kernel
theorem dX6_setClapper_72 : decode cX6_setClapper 72 = .ok (.aload_n 0, 1) := by decide +kernel
theorem dX6_setClapper_73 : decode cX6_setClapper 73 = .ok (.getfield 16, 3) := by decide +kernel
theorem dX6_setClapper_76 : decode cX6_setClapper 76 = .ok (.iconst 5, 1) := by decide +kernel
theorem dX6_setClapper_77 : decode cX6_setClapper 77 = .ok (.iload_n 1, 1) := by decide +kernel
theorem dX6_setClapper_78 : decode cX6_setClapper 78 = .ok (.imul, 1) := by decide +kernel
theorem dX6_setClapper_79 : decode cX6_setClapper 79 = .ok (.iconst 4, 1) := by decide +kernel
theorem dX6_setClapper_80 : decode cX6_setClapper 80 = .ok (.iadd, 1) := by decide +kernel
theorem dX6_setClapper_81 : decode cX6_setClapper 81 = .ok (.iload_n 2, 1) := by decide +kernel
theorem dX6_setClapper_82 : decode cX6_setClapper 82 = .ok (.ifCond .ne 7, 3) := by decide +kernel
theorem dX6_setClapper_85 : decode cX6_setClapper 85 = .ok (.iconst 0, 1) := by decide +kernel
theorem dX6_setClapper_86 : decode cX6_setClapper 86 = .ok (.goto 4, 3) := by decide +kernel
theorem dX6_setClapper_89 : decode cX6_setClapper 89 = .ok (.iload_n 3, 1) := by decide +kernel
theorem dX6_setClapper_90 : decode cX6_setClapper 90 = .ok (.iastore, 1) := by decide +kernel
theorem dX6_setClapper_91 : decode cX6_setClapper 91 = .ok (.iload 4, 2) := by decide +kernel
theorem dX6_setClapper_93 : decode cX6_setClapper 93 = .ok (.ireturn, 1) := by decide +kernel
set_option maxRecDepth 20000 in
theorem ggX6_setEar_X6_isIn : GoodIn wsX6_setEar wsX6_isIn := goodIn_r _ [6] (by decide +kernel) (by decide +kernel)
set_option maxRecDepth 20000 in
theorem gX6_setEar_X6_isIn : GoodIn wsX6_setEar (va_wsS RX6 38 yX6_isIn wsX6_isIn) := goodIn_app (goodIn_of _ (by decide +kernel)) ggX6_setEar_X6_isIn
set_option maxRecDepth 20000 in
theorem ggX6_setEar_X6_no : GoodIn wsX6_setEar wsX6_no := goodIn_r _ [10, 1, 11, 12, 13, 14, 15, 16, 17, 18, 19, 20] (by decide +kernel) (by decide +kernel)
set_option maxRecDepth 20000 in
theorem gX6_setEar_X6_no : GoodIn wsX6_setEar (wsV RX6 43 RX6 yX6_no wsX6_no) := goodIn_app (goodIn_of _ (by decide +kernel)) ggX6_setEar_X6_no
theorem dX6_setEar_0 : decode cX6_setEar 0 = .ok (.aload_n 0, 1) := by decide +kernel
theorem dX6_setEar_1 : decode cX6_setEar 1 = .ok (.iconst 0, 1) := by decide +kernel
theorem dX6_setEar_2 : decode cX6_setEar 2 = .ok (.putfield 35, 3) := by decide +kernel
theorem dX6_setEar_5 : decode cX6_setEar 5 = .ok (.iload_n 1, 1) := by decide +kernel
theorem dX6_setEar_6 : decode cX6_setEar 6 = .ok (.iconst 1, 1) := by decide +kernel
theorem dX6_setEar_7 : decode cX6_setEar 7 = .ok (.bipush 50, 2) := by decide +kernel
theorem dX6_setEar_9 : decode cX6_setEar 9 = .ok (.invokestatic 38, 3) := by decide +kernel
theorem dX6_setEar_12 : decode cX6_setEar 12 = .ok (.ifCond .ne 9, 3) := by decide +kernel
theorem dX6_setEar_15 : decode cX6_setEar 15 = .ok (.aload_n 0, 1) := by decide +kernel
theorem dX6_setEar_16 : decode cX6_setEar 16 = .ok (.iconst 1, 1) := by decide +kernel
theorem dX6_setEar_17 : decode cX6_setEar 17 = .ok (.invokevirtual 43, 3) := by decide +kernel
theorem dX6_setEar_20 : decode cX6_setEar 20 = .ok (.ireturn, 1) := by decide +kernel
theorem dX6_setEar_21 : decode cX6_setEar 21 = .ok (.aload_n 0, 1) := by decide +kernel
theorem dX6_setEar_22 : decode cX6_setEar 22 = .ok (.getfield 13, 3) := by decide +kernel
theorem dX6_setEar_25 : decode cX6_setEar 25 = .ok (.istore_n 2, 1) := by decide +kernel
theorem dX6_setEar_26 : decode cX6_setEar 26 = .ok (.aload_n 0, 1) := by decide +kernel
theorem dX6_setEar_27 : decode cX6_setEar 27 = .ok (.iload_n 1, 1) := by decide +kernel
theorem dX6_setEar_28 : decode cX6_setEar 28 = .ok (.putfield 13, 3) := by decide +kernel
theorem dX6_setEar_31 : decode cX6_setEar 31 = .ok (.iload_n 2, 1) := by decide +kernel
theorem dX6_setEar_32 : decode cX6_setEar 32 = .ok (.ireturn, 1) := by decide +kernel
set_option maxRecDepth 20000 in
theorem ggX6_chamberTold_X6_touches : GoodIn wsX6_chamberTold wsX6_touches := goodIn_r _ [8, 9, 14, 15, 16, 17, 18, 19, 20, 21, 22, 23] (by decide +kernel) (by decide +kernel)
set_option maxRecDepth 20000 in
theorem gX6_chamberTold_X6_touches : GoodIn wsX6_chamberTold (wsV RX6 63 RX6 yX6_touches wsX6_touches) := goodIn_app (goodIn_of _ (by decide +kernel)) ggX6_chamberTold_X6_touches
set_option maxRecDepth 20000 in
theorem ggX6_chamberTold_X6_isOpen : GoodIn wsX6_chamberTold wsX6_isOpen := goodIn_r _ [13, 1, 9, 14, 15, 16, 17, 18, 19, 20, 21, 22, 23] (by decide +kernel) (by decide +kernel)
set_option maxRecDepth 20000 in
theorem gX6_chamberTold_X6_isOpen : GoodIn wsX6_chamberTold (wsV RX6 67 RX6 yX6_isOpen wsX6_isOpen) := goodIn_app (goodIn_of _ (by decide +kernel)) ggX6_chamberTold_X6_isOpen
theorem dX6_chamberTold_0 : decode cX6_chamberTold 0 = .ok (.iload_n 2, 1) := by decide +kernel
theorem dX6_chamberTold_1 : decode cX6_chamberTold 1 = .ok (.iconst 5, 1) := by decide +kernel
theorem dX6_chamberTold_2 : decode cX6_chamberTold 2 = .ok (.if_icmp .ge 14, 3) := by decide +kernel
theorem dX6_chamberTold_5 : decode cX6_chamberTold 5 = .ok (.aload_n 0, 1) := by decide +kernel
theorem dX6_chamberTold_6 : decode cX6_chamberTold 6 = .ok (.getfield 16, 3) := by decide +kernel
theorem dX6_chamberTold_9 : decode cX6_chamberTold 9 = .ok (.iconst 5, 1) := by decide +kernel
theorem dX6_chamberTold_10 : decode cX6_chamberTold 10 = .ok (.iload_n 1, 1) := by decide +kernel
theorem dX6_chamberTold_11 : decode cX6_chamberTold 11 = .ok (.imul, 1) := by decide +kernel
theorem dX6_chamberTold_12 : decode cX6_chamberTold 12 = .ok (.iload_n 2, 1) := by decide +kernel
theorem dX6_chamberTold_13 : decode cX6_chamberTold 13 = .ok (.iadd, 1) := by decide +kernel
theorem dX6_chamberTold_14 : decode cX6_chamberTold 14 = .ok (.iaload, 1) := by decide +kernel
theorem dX6_chamberTold_15 : decode cX6_chamberTold 15 = .ok (.ireturn, 1) := by decide +kernel
theorem dX6_chamberTold_16 : decode cX6_chamberTold 16 = .ok (.iconst 0, 1) := by decide +kernel
theorem dX6_chamberTold_17 : decode cX6_chamberTold 17 = .ok (.istore_n 3, 1) := by decide +kernel
theorem dX6_chamberTold_18 : decode cX6_chamberTold 18 = .ok (.iconst 0, 1) := by decide +kernel
theorem dX6_chamberTold_19 : decode cX6_chamberTold 19 = .ok (.istore 4, 2) := by decide +kernel
theorem dX6_chamberTold_21 : decode cX6_chamberTold 21 = .ok (.iload 4, 2) := by decide +kernel
theorem dX6_chamberTold_23 : decode cX6_chamberTold 23 = .ok (.aload_n 0, 1) := by decide +kernel
theorem dX6_chamberTold_24 : decode cX6_chamberTold 24 = .ok (.getfield 57, 3) := by decide +kernel
theorem dX6_chamberTold_27 : decode cX6_chamberTold 27 = .ok (.if_icmp .ge 45, 3) := by decide +kernel
theorem dX6_chamberTold_30 : decode cX6_chamberTold 30 = .ok (.iload_n 3, 1) := by decide +kernel
theorem dX6_chamberTold_31 : decode cX6_chamberTold 31 = .ok (.aload_n 0, 1) := by decide +kernel
theorem dX6_chamberTold_32 : decode cX6_chamberTold 32 = .ok (.iload 4, 2) := by decide +kernel
theorem dX6_chamberTold_34 : decode cX6_chamberTold 34 = .ok (.iload_n 1, 1) := by decide +kernel
theorem dX6_chamberTold_35 : decode cX6_chamberTold 35 = .ok (.invokevirtual 63, 3) := by decide +kernel
theorem dX6_chamberTold_38 : decode cX6_chamberTold 38 = .ok (.ifCond .eq 25, 3) := by decide +kernel
theorem dX6_chamberTold_41 : decode cX6_chamberTold 41 = .ok (.iload_n 2, 1) := by decide +kernel
theorem dX6_chamberTold_42 : decode cX6_chamberTold 42 = .ok (.iconst 5, 1) := by decide +kernel
theorem dX6_chamberTold_43 : decode cX6_chamberTold 43 = .ok (.if_icmp .eq 16, 3) := by decide +kernel
theorem dX6_chamberTold_46 : decode cX6_chamberTold 46 = .ok (.aload_n 0, 1) := by decide +kernel
theorem dX6_chamberTold_47 : decode cX6_chamberTold 47 = .ok (.iload 4, 2) := by decide +kernel
theorem dX6_chamberTold_49 : decode cX6_chamberTold 49 = .ok (.aload_n 0, 1) := by decide +kernel
theorem dX6_chamberTold_50 : decode cX6_chamberTold 50 = .ok (.getfield 60, 3) := by decide +kernel
theorem dX6_chamberTold_53 : decode cX6_chamberTold 53 = .ok (.invokevirtual 67, 3) := by decide +kernel
theorem dX6_chamberTold_56 : decode cX6_chamberTold 56 = .ok (.ifCond .eq 7, 3) := by decide +kernel
theorem dX6_chamberTold_59 : decode cX6_chamberTold 59 = .ok (.iconst 1, 1) := by decide +kernel
theorem dX6_chamberTold_60 : decode cX6_chamberTold 60 = .ok (.goto 4, 3) := by decide +kernel
theorem dX6_chamberTold_63 : decode cX6_chamberTold 63 = .ok (.iconst 0, 1) := by decide +kernel
theorem dX6_chamberTold_64 : decode cX6_chamberTold 64 = .ok (.iadd, 1) := by decide +kernel
theorem dX6_chamberTold_65 : decode cX6_chamberTold 65 = .ok (.istore_n 3, 1) := by decide +kernel
theorem dX6_chamberTold_66 : decode cX6_chamberTold 66 = .ok (.iinc 4 1, 3) := by decide +kernel
theorem dX6_chamberTold_69 : decode cX6_chamberTold 69 = .ok (.goto (-48), 3) := by decide +kernel
theorem dX6_chamberTold_72 : decode cX6_chamberTold 72 = .ok (.iload_n 3, 1) := by decide +kernel
theorem dX6_chamberTold_73 : decode cX6_chamberTold 73 = .ok (.ireturn, 1) := by decide +kernel
set_option maxRecDepth 20000 in
theorem ggX6_chamber_X6_isChamber : GoodIn wsX6_chamber wsX6_isChamber := goodIn_r _ [6, 7, 8, 9, 5, 10, 31, 32, 33, 34, 35, 36, 37, 38, 39, 40] (by decide +kernel) (by decide +kernel)
set_option maxRecDepth 20000 in
theorem gX6_chamber_X6_isChamber : GoodIn wsX6_chamber (wsV RX6 53 RX6 yX6_isChamber wsX6_isChamber) := goodIn_app (goodIn_of _ (by decide +kernel)) ggX6_chamber_X6_isChamber
set_option maxRecDepth 20000 in
theorem ggX6_chamber_X6_isIn : GoodIn wsX6_chamber wsX6_isIn := goodIn_r _ [10] (by decide +kernel) (by decide +kernel)
set_option maxRecDepth 20000 in
theorem gX6_chamber_X6_isIn : GoodIn wsX6_chamber (va_wsS RX6 38 yX6_isIn wsX6_isIn) := goodIn_app (goodIn_of _ (by decide +kernel)) ggX6_chamber_X6_isIn
set_option maxRecDepth 20000 in
theorem ggX6_chamber_X6_chamberTold : GoodIn wsX6_chamber wsX6_chamberTold := goodIn_r _ [14, 15, 16, 17, 18, 19, 20, 5, 21, 22, 23, 24, 25, 26, 31, 32, 33, 34, 35, 36, 37, 38, 39, 40] (by decide +kernel) (by decide +kernel)
set_option maxRecDepth 20000 in
theorem gX6_chamber_X6_chamberTold : GoodIn wsX6_chamber (wsV RX6 70 RX6 yX6_chamberTold wsX6_chamberTold) := goodIn_app (goodIn_of _ (by decide +kernel)) ggX6_chamber_X6_chamberTold
set_option maxRecDepth 20000 in
theorem ggX6_chamber_X6_no : GoodIn wsX6_chamber wsX6_no := goodIn_r _ [30, 1, 31, 32, 33, 34, 35, 36, 37, 38, 39, 40] (by decide +kernel) (by decide +kernel)
set_option maxRecDepth 20000 in
theorem gX6_chamber_X6_no : GoodIn wsX6_chamber (wsV RX6 43 RX6 yX6_no wsX6_no) := goodIn_app (goodIn_of _ (by decide +kernel)) ggX6_chamber_X6_no
theorem dX6_chamber_0 : decode cX6_chamber 0 = .ok (.aload_n 0, 1) := by decide +kernel
theorem dX6_chamber_1 : decode cX6_chamber 1 = .ok (.iconst 0, 1) := by decide +kernel
theorem dX6_chamber_2 : decode cX6_chamber 2 = .ok (.putfield 35, 3) := by decide +kernel
theorem dX6_chamber_5 : decode cX6_chamber 5 = .ok (.aload_n 0, 1) := by decide +kernel
theorem dX6_chamber_6 : decode cX6_chamber 6 = .ok (.iload_n 1, 1) := by decide +kernel
theorem dX6_chamber_7 : decode cX6_chamber 7 = .ok (.invokevirtual 53, 3) := by decide +kernel
theorem dX6_chamber_10 : decode cX6_chamber 10 = .ok (.ifCond .eq 22, 3) := by decide +kernel
theorem dX6_chamber_13 : decode cX6_chamber 13 = .ok (.iload_n 2, 1) := by decide +kernel
theorem dX6_chamber_14 : decode cX6_chamber 14 = .ok (.iconst 0, 1) := by decide +kernel
theorem dX6_chamber_15 : decode cX6_chamber 15 = .ok (.bipush 6, 2) := by decide +kernel
theorem dX6_chamber_17 : decode cX6_chamber 17 = .ok (.invokestatic 38, 3) := by decide +kernel
theorem dX6_chamber_20 : decode cX6_chamber 20 = .ok (.ifCond .eq 12, 3) := by decide +kernel
theorem dX6_chamber_23 : decode cX6_chamber 23 = .ok (.aload_n 0, 1) := by decide +kernel
theorem dX6_chamber_24 : decode cX6_chamber 24 = .ok (.iload_n 1, 1) := by decide +kernel
theorem dX6_chamber_25 : decode cX6_chamber 25 = .ok (.iload_n 2, 1) := by decide +kernel
theorem dX6_chamber_26 : decode cX6_chamber 26 = .ok (.invokevirtual 70, 3) := by decide +kernel
theorem dX6_chamber_29 : decode cX6_chamber 29 = .ok (.goto 8, 3) := by decide +kernel
theorem dX6_chamber_32 : decode cX6_chamber 32 = .ok (.aload_n 0, 1) := by decide +kernel
theorem dX6_chamber_33 : decode cX6_chamber 33 = .ok (.iconst 1, 1) := by decide +kernel
theorem dX6_chamber_34 : decode cX6_chamber 34 = .ok (.invokevirtual 43, 3) := by decide +kernel
theorem dX6_chamber_37 : decode cX6_chamber 37 = .ok (.ireturn, 1) := by decide +kernel
set_option maxRecDepth 20000 in
theorem ggX6_passageTold_X6_isOpen : GoodIn wsX6_passageTold wsX6_isOpen := goodIn_r _ [7, 8, 1, 9, 10, 11, 12, 13, 14, 15, 16, 17, 18] (by decide +kernel) (by decide +kernel)
set_option maxRecDepth 20000 in
theorem gX6_passageTold_X6_isOpen : GoodIn wsX6_passageTold (wsV RX6 67 RX6 yX6_isOpen wsX6_isOpen) := goodIn_app (goodIn_of _ (by decide +kernel)) ggX6_passageTold_X6_isOpen
theorem dX6_passageTold_0 : decode cX6_passageTold 0 = .ok (.iload_n 2, 1) := by decide +kernel
theorem dX6_passageTold_1 : decode cX6_passageTold 1 = .ok (.iconst 4, 1) := by decide +kernel
theorem dX6_passageTold_2 : decode cX6_passageTold 2 = .ok (.if_icmp .ge 14, 3) := by decide +kernel
theorem dX6_passageTold_5 : decode cX6_passageTold 5 = .ok (.aload_n 0, 1) := by decide +kernel
theorem dX6_passageTold_6 : decode cX6_passageTold 6 = .ok (.getfield 20, 3) := by decide +kernel
theorem dX6_passageTold_9 : decode cX6_passageTold 9 = .ok (.iconst 4, 1) := by decide +kernel
theorem dX6_passageTold_10 : decode cX6_passageTold 10 = .ok (.iload_n 1, 1) := by decide +kernel
theorem dX6_passageTold_11 : decode cX6_passageTold 11 = .ok (.imul, 1) := by decide +kernel
theorem dX6_passageTold_12 : decode cX6_passageTold 12 = .ok (.iload_n 2, 1) := by decide +kernel
theorem dX6_passageTold_13 : decode cX6_passageTold 13 = .ok (.iadd, 1) := by decide +kernel
theorem dX6_passageTold_14 : decode cX6_passageTold 14 = .ok (.iaload, 1) := by decide +kernel
theorem dX6_passageTold_15 : decode cX6_passageTold 15 = .ok (.ireturn, 1) := by decide +kernel
theorem dX6_passageTold_16 : decode cX6_passageTold 16 = .ok (.aload_n 0, 1) := by decide +kernel
theorem dX6_passageTold_17 : decode cX6_passageTold 17 = .ok (.iload_n 1, 1) := by decide +kernel
theorem dX6_passageTold_18 : decode cX6_passageTold 18 = .ok (.aload_n 0, 1) := by decide +kernel
theorem dX6_passageTold_19 : decode cX6_passageTold 19 = .ok (.getfield 60, 3) := by decide +kernel
theorem dX6_passageTold_22 : decode cX6_passageTold 22 = .ok (.invokevirtual 67, 3) := by decide +kernel
theorem dX6_passageTold_25 : decode cX6_passageTold 25 = .ok (.ifCond .eq 7, 3) := by decide +kernel
theorem dX6_passageTold_28 : decode cX6_passageTold 28 = .ok (.iconst 1, 1) := by decide +kernel
theorem dX6_passageTold_29 : decode cX6_passageTold 29 = .ok (.goto 4, 3) := by decide +kernel
theorem dX6_passageTold_32 : decode cX6_passageTold 32 = .ok (.iconst 0, 1) := by decide +kernel
theorem dX6_passageTold_33 : decode cX6_passageTold 33 = .ok (.ireturn, 1) := by decide +kernel
set_option maxRecDepth 20000 in
theorem ggX6_passage_X6_isIn : GoodIn wsX6_passage wsX6_isIn := goodIn_r _ [6] (by decide +kernel) (by decide +kernel)
set_option maxRecDepth 20000 in
theorem gX6_passage_X6_isIn : GoodIn wsX6_passage (va_wsS RX6 38 yX6_isIn wsX6_isIn) := goodIn_app (goodIn_of _ (by decide +kernel)) ggX6_passage_X6_isIn
set_option maxRecDepth 20000 in
theorem ggX6_passage_X6_passageTold : GoodIn wsX6_passage wsX6_passageTold := goodIn_r _ [10, 11, 12, 13, 14, 15, 5, 16, 17, 22, 23, 24, 25, 26, 27, 28, 29, 30, 31] (by decide +kernel) (by decide +kernel)
set_option maxRecDepth 20000 in
theorem gX6_passage_X6_passageTold : GoodIn wsX6_passage (wsV RX6 74 RX6 yX6_passageTold wsX6_passageTold) := goodIn_app (goodIn_of _ (by decide +kernel)) ggX6_passage_X6_passageTold
set_option maxRecDepth 20000 in
theorem ggX6_passage_X6_no : GoodIn wsX6_passage wsX6_no := goodIn_r _ [21, 1, 22, 23, 24, 25, 26, 27, 28, 29, 30, 31] (by decide +kernel) (by decide +kernel)
set_option maxRecDepth 20000 in
theorem gX6_passage_X6_no : GoodIn wsX6_passage (wsV RX6 43 RX6 yX6_no wsX6_no) := goodIn_app (goodIn_of _ (by decide +kernel)) ggX6_passage_X6_no
theorem dX6_passage_0 : decode cX6_passage 0 = .ok (.aload_n 0, 1) := by decide +kernel
theorem dX6_passage_1 : decode cX6_passage 1 = .ok (.iconst 0, 1) := by decide +kernel
theorem dX6_passage_2 : decode cX6_passage 2 = .ok (.putfield 35, 3) := by decide +kernel
theorem dX6_passage_5 : decode cX6_passage 5 = .ok (.iload_n 1, 1) := by decide +kernel
theorem dX6_passage_6 : decode cX6_passage 6 = .ok (.iconst 0, 1) := by decide +kernel
theorem dX6_passage_7 : decode cX6_passage 7 = .ok (.aload_n 0, 1) := by decide +kernel
theorem dX6_passage_8 : decode cX6_passage 8 = .ok (.getfield 57, 3) := by decide +kernel
theorem dX6_passage_11 : decode cX6_passage 11 = .ok (.iconst 1, 1) := by decide +kernel
theorem dX6_passage_12 : decode cX6_passage 12 = .ok (.isub, 1) := by decide +kernel
theorem dX6_passage_13 : decode cX6_passage 13 = .ok (.invokestatic 38, 3) := by decide +kernel
theorem dX6_passage_16 : decode cX6_passage 16 = .ok (.ifCond .eq 21, 3) := by decide +kernel
theorem dX6_passage_19 : decode cX6_passage 19 = .ok (.iload_n 2, 1) := by decide +kernel
theorem dX6_passage_20 : decode cX6_passage 20 = .ok (.iconst 0, 1) := by decide +kernel
theorem dX6_passage_21 : decode cX6_passage 21 = .ok (.iconst 4, 1) := by decide +kernel
theorem dX6_passage_22 : decode cX6_passage 22 = .ok (.invokestatic 38, 3) := by decide +kernel
theorem dX6_passage_25 : decode cX6_passage 25 = .ok (.ifCond .eq 12, 3) := by decide +kernel
theorem dX6_passage_28 : decode cX6_passage 28 = .ok (.aload_n 0, 1) := by decide +kernel
theorem dX6_passage_29 : decode cX6_passage 29 = .ok (.iload_n 1, 1) := by decide +kernel
theorem dX6_passage_30 : decode cX6_passage 30 = .ok (.iload_n 2, 1) := by decide +kernel
theorem dX6_passage_31 : decode cX6_passage 31 = .ok (.invokevirtual 74, 3) := by decide +kernel
theorem dX6_passage_34 : decode cX6_passage 34 = .ok (.goto 8, 3) := by decide +kernel
theorem dX6_passage_37 : decode cX6_passage 37 = .ok (.aload_n 0, 1) := by decide +kernel
theorem dX6_passage_38 : decode cX6_passage 38 = .ok (.iconst 1, 1) := by decide +kernel
theorem dX6_passage_39 : decode cX6_passage 39 = .ok (.invokevirtual 43, 3) := by decide +kernel
theorem dX6_passage_42 : decode cX6_passage 42 = .ok (.ireturn, 1) := by decide +kernel
set_option maxRecDepth 20000 in
theorem ggX6_say_X6_isWord : GoodIn wsX6_say wsX6_isWord := goodIn_r _ [7, 8, 9, 10, 6, 11] (by decide +kernel) (by decide +kernel)
set_option maxRecDepth 20000 in
theorem gX6_say_X6_isWord : GoodIn wsX6_say (va_wsS RX6 77 yX6_isWord wsX6_isWord) := goodIn_app (goodIn_of _ (by decide +kernel)) ggX6_say_X6_isWord
set_option maxRecDepth 20000 in
theorem ggX6_say_X6_isIn : GoodIn wsX6_say wsX6_isIn := goodIn_r _ [11] (by decide +kernel) (by decide +kernel)
set_option maxRecDepth 20000 in
theorem gX6_say_X6_isIn : GoodIn wsX6_say (va_wsS RX6 38 yX6_isIn wsX6_isIn) := goodIn_app (goodIn_of _ (by decide +kernel)) ggX6_say_X6_isIn
set_option maxRecDepth 20000 in
theorem ggX6_say_X6_no : GoodIn wsX6_say wsX6_no := goodIn_r _ [15, 1, 78, 79, 80, 81, 82, 83, 84, 85, 86, 87] (by decide +kernel) (by decide +kernel)
set_option maxRecDepth 20000 in
theorem gX6_say_X6_no : GoodIn wsX6_say (wsV RX6 43 RX6 yX6_no wsX6_no) := goodIn_app (goodIn_of _ (by decide +kernel)) ggX6_say_X6_no
set_option maxRecDepth 20000 in
theorem ggX6_say_X5_say : GoodIn wsX6_say wsX5_say := goodIn_r _ [20, 21, 22, 23, 24, 25, 26, 27, 28, 29, 30, 31, 32, 33, 34, 35, 36, 37, 38, 39, 19, 40, 41, 42, 43, 44, 45, 46, 47, 48, 49, 50, 51, 52, 53, 54, 55, 56, 57, 58, 59, 60, 61, 62, 63, 64, 65, 66, 6, 67, 68, 69, 70, 71, 72, 73, 74, 75, 76, 77, 88, 89, 90, 91, 92, 93, 94, 95, 96, 97, 98, 99, 100, 101, 102, 103, 104, 105, 106, 107, 108, 78, 79, 80, 81, 82, 83, 84, 85, 86, 87] (by decide +kernel) (by decide +kernel)
set_option maxRecDepth 20000 in
theorem gX6_say_X5_say : GoodIn wsX6_say (wsV RX6 80 RX5 yX5_say wsX5_say) := goodIn_app (goodIn_of _ (by decide +kernel)) ggX6_say_X5_say
theorem dX6_say_0 : decode cX6_say 0 = .ok (.aload_n 0, 1) := by decide +kernel
theorem dX6_say_1 : decode cX6_say 1 = .ok (.iconst 0, 1) := by decide +kernel
theorem dX6_say_2 : decode cX6_say 2 = .ok (.putfield 35, 3) := by decide +kernel
theorem dX6_say_5 : decode cX6_say 5 = .ok (.iload_n 1, 1) := by decide +kernel
theorem dX6_say_6 : decode cX6_say 6 = .ok (.invokestatic 77, 3) := by decide +kernel
theorem dX6_say_9 : decode cX6_say 9 = .ok (.ifCond .eq 13, 3) := by decide +kernel
theorem dX6_say_12 : decode cX6_say 12 = .ok (.iload_n 2, 1) := by decide +kernel
theorem dX6_say_13 : decode cX6_say 13 = .ok (.iconst 1, 1) := by decide +kernel
theorem dX6_say_14 : decode cX6_say 14 = .ok (.bipush 20, 2) := by decide +kernel
theorem dX6_say_16 : decode cX6_say 16 = .ok (.invokestatic 38, 3) := by decide +kernel
theorem dX6_say_19 : decode cX6_say 19 = .ok (.ifCond .ne 9, 3) := by decide +kernel
theorem dX6_say_22 : decode cX6_say 22 = .ok (.aload_n 0, 1) := by decide +kernel
theorem dX6_say_23 : decode cX6_say 23 = .ok (.iconst 1, 1) := by decide +kernel
theorem dX6_say_24 : decode cX6_say 24 = .ok (.invokevirtual 43, 3) := by decide +kernel
theorem dX6_say_27 : decode cX6_say 27 = .ok (.ireturn, 1) := by decide +kernel
theorem dX6_say_28 : decode cX6_say 28 = .ok (.aload_n 0, 1) := by decide +kernel
theorem dX6_say_29 : decode cX6_say 29 = .ok (.getfield 28, 3) := by decide +kernel
theorem dX6_say_32 : decode cX6_say 32 = .ok (.iload_n 1, 1) := by decide +kernel
theorem dX6_say_33 : decode cX6_say 33 = .ok (.iload_n 2, 1) := by decide +kernel
theorem dX6_say_34 : decode cX6_say 34 = .ok (.invokevirtual 80, 3) := by decide +kernel
theorem dX6_say_37 : decode cX6_say 37 = .ok (.aload_n 0, 1) := by decide +kernel
theorem dX6_say_38 : decode cX6_say 38 = .ok (.dup, 1) := by decide +kernel
theorem dX6_say_39 : decode cX6_say 39 = .ok (.getfield 84, 3) := by decide +kernel
theorem dX6_say_42 : decode cX6_say 42 = .ok (.iconst 1, 1) := by decide +kernel
theorem dX6_say_43 : decode cX6_say 43 = .ok (.iadd, 1) := by decide +kernel
theorem dX6_say_44 : decode cX6_say 44 = .ok (.putfield 84, 3) := by decide +kernel
theorem dX6_say_47 : decode cX6_say 47 = .ok (.aload_n 0, 1) := by decide +kernel
theorem dX6_say_48 : decode cX6_say 48 = .ok (.getfield 28, 3) := by decide +kernel
theorem dX6_say_51 : decode cX6_say 51 = .ok (.getfield 87, 3) := by decide +kernel
theorem dX6_say_54 : decode cX6_say 54 = .ok (.ireturn, 1) := by decide +kernel
set_option maxRecDepth 20000 in
theorem ggX6_heard_X6_isIn : GoodIn wsX6_heard wsX6_isIn := goodIn_r _ [6] (by decide +kernel) (by decide +kernel)
set_option maxRecDepth 20000 in
theorem gX6_heard_X6_isIn : GoodIn wsX6_heard (va_wsS RX6 38 yX6_isIn wsX6_isIn) := goodIn_app (goodIn_of _ (by decide +kernel)) ggX6_heard_X6_isIn
set_option maxRecDepth 20000 in
theorem ggX6_heard_X6_no : GoodIn wsX6_heard wsX6_no := goodIn_r _ [10, 1, 11, 12, 13, 14, 15, 16, 17, 18, 19, 20] (by decide +kernel) (by decide +kernel)
set_option maxRecDepth 20000 in
theorem gX6_heard_X6_no : GoodIn wsX6_heard (wsV RX6 43 RX6 yX6_no wsX6_no) := goodIn_app (goodIn_of _ (by decide +kernel)) ggX6_heard_X6_no
theorem dX6_heard_0 : decode cX6_heard 0 = .ok (.aload_n 0, 1) := by decide +kernel
theorem dX6_heard_1 : decode cX6_heard 1 = .ok (.iconst 0, 1) := by decide +kernel
theorem dX6_heard_2 : decode cX6_heard 2 = .ok (.putfield 35, 3) := by decide +kernel
theorem dX6_heard_5 : decode cX6_heard 5 = .ok (.iload_n 1, 1) := by decide +kernel
theorem dX6_heard_6 : decode cX6_heard 6 = .ok (.iconst 0, 1) := by decide +kernel
theorem dX6_heard_7 : decode cX6_heard 7 = .ok (.aload_n 0, 1) := by decide +kernel
theorem dX6_heard_8 : decode cX6_heard 8 = .ok (.getfield 28, 3) := by decide +kernel
theorem dX6_heard_11 : decode cX6_heard 11 = .ok (.getfield 90, 3) := by decide +kernel
theorem dX6_heard_14 : decode cX6_heard 14 = .ok (.iconst 1, 1) := by decide +kernel
theorem dX6_heard_15 : decode cX6_heard 15 = .ok (.isub, 1) := by decide +kernel
theorem dX6_heard_16 : decode cX6_heard 16 = .ok (.invokestatic 38, 3) := by decide +kernel
theorem dX6_heard_19 : decode cX6_heard 19 = .ok (.ifCond .eq 28, 3) := by decide +kernel
theorem dX6_heard_22 : decode cX6_heard 22 = .ok (.iload_n 2, 1) := by decide +kernel
theorem dX6_heard_23 : decode cX6_heard 23 = .ok (.iconst 0, 1) := by decide +kernel
theorem dX6_heard_24 : decode cX6_heard 24 = .ok (.iconst 4, 1) := by decide +kernel
theorem dX6_heard_25 : decode cX6_heard 25 = .ok (.invokestatic 38, 3) := by decide +kernel
theorem dX6_heard_28 : decode cX6_heard 28 = .ok (.ifCond .eq 19, 3) := by decide +kernel
theorem dX6_heard_31 : decode cX6_heard 31 = .ok (.aload_n 0, 1) := by decide +kernel
theorem dX6_heard_32 : decode cX6_heard 32 = .ok (.getfield 28, 3) := by decide +kernel
theorem dX6_heard_35 : decode cX6_heard 35 = .ok (.getfield 93, 3) := by decide +kernel
theorem dX6_heard_38 : decode cX6_heard 38 = .ok (.iconst 5, 1) := by decide +kernel
theorem dX6_heard_39 : decode cX6_heard 39 = .ok (.iload_n 1, 1) := by decide +kernel
theorem dX6_heard_40 : decode cX6_heard 40 = .ok (.imul, 1) := by decide +kernel
theorem dX6_heard_41 : decode cX6_heard 41 = .ok (.iload_n 2, 1) := by decide +kernel
theorem dX6_heard_42 : decode cX6_heard 42 = .ok (.iadd, 1) := by decide +kernel
theorem dX6_heard_43 : decode cX6_heard 43 = .ok (.iaload, 1) := by decide +kernel
theorem dX6_heard_44 : decode cX6_heard 44 = .ok (.goto 8, 3) := by decide +kernel
theorem dX6_heard_47 : decode cX6_heard 47 = .ok (.aload_n 0, 1) := by decide +kernel
theorem dX6_heard_48 : decode cX6_heard 48 = .ok (.iconst 1, 1) := by decide +kernel
theorem dX6_heard_49 : decode cX6_heard 49 = .ok (.invokevirtual 43, 3) := by decide +kernel
theorem dX6_heard_52 : decode cX6_heard 52 = .ok (.ireturn, 1) := by decide +kernel
set_option maxRecDepth 20000 in
theorem ggX6_inOrder_X5_isInOrder : GoodIn wsX6_inOrder wsX5_isInOrder := goodIn_r _ [7, 8, 9, 20, 21, 22, 23, 24, 25, 26, 27, 28, 29, 30, 31, 32, 33, 34, 35, 36, 37, 38, 39, 40] (by decide +kernel) (by decide +kernel)
set_option maxRecDepth 20000 in
theorem gX6_inOrder_X5_isInOrder : GoodIn wsX6_inOrder (wsV RX6 96 RX5 yX5_isInOrder wsX5_isInOrder) := goodIn_app (goodIn_of _ (by decide +kernel)) ggX6_inOrder_X5_isInOrder
theorem dX6_inOrder_0 : decode cX6_inOrder 0 = .ok (.aload_n 0, 1) := by decide +kernel
theorem dX6_inOrder_1 : decode cX6_inOrder 1 = .ok (.iconst 0, 1) := by decide +kernel
theorem dX6_inOrder_2 : decode cX6_inOrder 2 = .ok (.putfield 35, 3) := by decide +kernel
theorem dX6_inOrder_5 : decode cX6_inOrder 5 = .ok (.aload_n 0, 1) := by decide +kernel
theorem dX6_inOrder_6 : decode cX6_inOrder 6 = .ok (.getfield 28, 3) := by decide +kernel
theorem dX6_inOrder_9 : decode cX6_inOrder 9 = .ok (.invokevirtual 96, 3) := by decide +kernel
theorem dX6_inOrder_12 : decode cX6_inOrder 12 = .ok (.ireturn, 1) := by decide +kernel
set_option maxRecDepth 20000 in
theorem ggX6_first_X6_isIn : GoodIn wsX6_first wsX6_isIn := goodIn_r _ [6] (by decide +kernel) (by decide +kernel)
set_option maxRecDepth 20000 in
theorem gX6_first_X6_isIn : GoodIn wsX6_first (va_wsS RX6 38 yX6_isIn wsX6_isIn) := goodIn_app (goodIn_of _ (by decide +kernel)) ggX6_first_X6_isIn
set_option maxRecDepth 20000 in
theorem ggX6_first_X6_no : GoodIn wsX6_first wsX6_no := goodIn_r _ [10, 1, 11, 12, 13, 14, 15, 16, 17, 18, 19, 20] (by decide +kernel) (by decide +kernel)
set_option maxRecDepth 20000 in
theorem gX6_first_X6_no : GoodIn wsX6_first (wsV RX6 43 RX6 yX6_no wsX6_no) := goodIn_app (goodIn_of _ (by decide +kernel)) ggX6_first_X6_no
theorem dX6_first_0 : decode cX6_first 0 = .ok (.aload_n 0, 1) := by decide +kernel
theorem dX6_first_1 : decode cX6_first 1 = .ok (.iconst 0, 1) := by decide +kernel
theorem dX6_first_2 : decode cX6_first 2 = .ok (.putfield 35, 3) := by decide +kernel
theorem dX6_first_5 : decode cX6_first 5 = .ok (.iload_n 1, 1) := by decide +kernel
theorem dX6_first_6 : decode cX6_first 6 = .ok (.iconst 0, 1) := by decide +kernel
theorem dX6_first_7 : decode cX6_first 7 = .ok (.aload_n 0, 1) := by decide +kernel
theorem dX6_first_8 : decode cX6_first 8 = .ok (.getfield 28, 3) := by decide +kernel
theorem dX6_first_11 : decode cX6_first 11 = .ok (.getfield 100, 3) := by decide +kernel
theorem dX6_first_14 : decode cX6_first 14 = .ok (.iconst 1, 1) := by decide +kernel
theorem dX6_first_15 : decode cX6_first 15 = .ok (.isub, 1) := by decide +kernel
theorem dX6_first_16 : decode cX6_first 16 = .ok (.invokestatic 38, 3) := by decide +kernel
theorem dX6_first_19 : decode cX6_first 19 = .ok (.ifCond .eq 15, 3) := by decide +kernel
theorem dX6_first_22 : decode cX6_first 22 = .ok (.aload_n 0, 1) := by decide +kernel
theorem dX6_first_23 : decode cX6_first 23 = .ok (.getfield 28, 3) := by decide +kernel
theorem dX6_first_26 : decode cX6_first 26 = .ok (.getfield 103, 3) := by decide +kernel
theorem dX6_first_29 : decode cX6_first 29 = .ok (.iload_n 1, 1) := by decide +kernel
theorem dX6_first_30 : decode cX6_first 30 = .ok (.iaload, 1) := by decide +kernel
theorem dX6_first_31 : decode cX6_first 31 = .ok (.goto 8, 3) := by decide +kernel
theorem dX6_first_34 : decode cX6_first 34 = .ok (.aload_n 0, 1) := by decide +kernel
theorem dX6_first_35 : decode cX6_first 35 = .ok (.iconst 1, 1) := by decide +kernel
theorem dX6_first_36 : decode cX6_first 36 = .ok (.invokevirtual 43, 3) := by decide +kernel
theorem dX6_first_39 : decode cX6_first 39 = .ok (.ireturn, 1) := by decide +kernel
set_option maxRecDepth 20000 in
theorem ggX6_counted_X6_isOpen : GoodIn wsX6_counted wsX6_isOpen := goodIn_r _ [12, 4, 13, 14, 15, 16, 17, 18, 19, 20, 21, 22, 23] (by decide +kernel) (by decide +kernel)
set_option maxRecDepth 20000 in
theorem gX6_counted_X6_isOpen : GoodIn wsX6_counted (wsV RX6 67 RX6 yX6_isOpen wsX6_isOpen) := goodIn_app (goodIn_of _ (by decide +kernel)) ggX6_counted_X6_isOpen
theorem dX6_counted_0 : decode cX6_counted 0 = .ok (.iconst 0, 1) := by decide +kernel
theorem dX6_counted_1 : decode cX6_counted 1 = .ok (.istore_n 2, 1) := by decide +kernel
theorem dX6_counted_2 : decode cX6_counted 2 = .ok (.iload_n 1, 1) := by decide +kernel
theorem dX6_counted_3 : decode cX6_counted 3 = .ok (.tableswitch 167 0 8 #[49, 54, 59, 97, 136, 141, 146, 151, 159], 49) := by decide +kernel
theorem dX6_counted_52 : decode cX6_counted 52 = .ok (.aload_n 0, 1) := by decide +kernel
theorem dX6_counted_53 : decode cX6_counted 53 = .ok (.getfield 9, 3) := by decide +kernel
theorem dX6_counted_56 : decode cX6_counted 56 = .ok (.ireturn, 1) := by decide +kernel
theorem dX6_counted_57 : decode cX6_counted 57 = .ok (.aload_n 0, 1) := by decide +kernel
theorem dX6_counted_58 : decode cX6_counted 58 = .ok (.getfield 57, 3) := by decide +kernel
theorem dX6_counted_61 : decode cX6_counted 61 = .ok (.ireturn, 1) := by decide +kernel
theorem dX6_counted_62 : decode cX6_counted 62 = .ok (.iconst 0, 1) := by decide +kernel
theorem dX6_counted_63 : decode cX6_counted 63 = .ok (.istore_n 3, 1) := by decide +kernel
theorem dX6_counted_64 : decode cX6_counted 64 = .ok (.iload_n 3, 1) := by decide +kernel
theorem dX6_counted_65 : decode cX6_counted 65 = .ok (.aload_n 0, 1) := by decide +kernel
theorem dX6_counted_66 : decode cX6_counted 66 = .ok (.getfield 57, 3) := by decide +kernel
theorem dX6_counted_69 : decode cX6_counted 69 = .ok (.if_icmp .ge 29, 3) := by decide +kernel
theorem dX6_counted_72 : decode cX6_counted 72 = .ok (.iload_n 2, 1) := by decide +kernel
theorem dX6_counted_73 : decode cX6_counted 73 = .ok (.aload_n 0, 1) := by decide +kernel
theorem dX6_counted_74 : decode cX6_counted 74 = .ok (.iload_n 3, 1) := by decide +kernel
theorem dX6_counted_75 : decode cX6_counted 75 = .ok (.aload_n 0, 1) := by decide +kernel
theorem dX6_counted_76 : decode cX6_counted 76 = .ok (.getfield 60, 3) := by decide +kernel
theorem dX6_counted_79 : decode cX6_counted 79 = .ok (.invokevirtual 67, 3) := by decide +kernel
theorem dX6_counted_82 : decode cX6_counted 82 = .ok (.ifCond .eq 7, 3) := by decide +kernel
theorem dX6_counted_85 : decode cX6_counted 85 = .ok (.iconst 1, 1) := by decide +kernel
theorem dX6_counted_86 : decode cX6_counted 86 = .ok (.goto 4, 3) := by decide +kernel
theorem dX6_counted_89 : decode cX6_counted 89 = .ok (.iconst 0, 1) := by decide +kernel
theorem dX6_counted_90 : decode cX6_counted 90 = .ok (.iadd, 1) := by decide +kernel
theorem dX6_counted_91 : decode cX6_counted 91 = .ok (.istore_n 2, 1) := by decide +kernel
theorem dX6_counted_92 : decode cX6_counted 92 = .ok (.iinc 3 1, 3) := by decide +kernel
theorem dX6_counted_95 : decode cX6_counted 95 = .ok (.goto (-31), 3) := by decide +kernel
theorem dX6_counted_98 : decode cX6_counted 98 = .ok (.iload_n 2, 1) := by decide +kernel
theorem dX6_counted_99 : decode cX6_counted 99 = .ok (.ireturn, 1) := by decide +kernel
theorem dX6_counted_100 : decode cX6_counted 100 = .ok (.iconst 0, 1) := by decide +kernel
theorem dX6_counted_101 : decode cX6_counted 101 = .ok (.istore_n 3, 1) := by decide +kernel
theorem dX6_counted_102 : decode cX6_counted 102 = .ok (.iload_n 3, 1) := by decide +kernel
theorem dX6_counted_103 : decode cX6_counted 103 = .ok (.aload_n 0, 1) := by decide +kernel
theorem dX6_counted_104 : decode cX6_counted 104 = .ok (.getfield 9, 3) := by decide +kernel
theorem dX6_counted_107 : decode cX6_counted 107 = .ok (.if_icmp .ge 30, 3) := by decide +kernel
theorem dX6_counted_110 : decode cX6_counted 110 = .ok (.iload_n 2, 1) := by decide +kernel
theorem dX6_counted_111 : decode cX6_counted 111 = .ok (.aload_n 0, 1) := by decide +kernel
theorem dX6_counted_112 : decode cX6_counted 112 = .ok (.getfield 16, 3) := by decide +kernel
theorem dX6_counted_115 : decode cX6_counted 115 = .ok (.iconst 5, 1) := by decide +kernel
theorem dX6_counted_116 : decode cX6_counted 116 = .ok (.iload_n 3, 1) := by decide +kernel
theorem dX6_counted_117 : decode cX6_counted 117 = .ok (.imul, 1) := by decide +kernel
theorem dX6_counted_118 : decode cX6_counted 118 = .ok (.iconst 3, 1) := by decide +kernel
theorem dX6_counted_119 : decode cX6_counted 119 = .ok (.iadd, 1) := by decide +kernel
theorem dX6_counted_120 : decode cX6_counted 120 = .ok (.iaload, 1) := by decide +kernel
theorem dX6_counted_121 : decode cX6_counted 121 = .ok (.ifCond .le 7, 3) := by decide +kernel
theorem dX6_counted_124 : decode cX6_counted 124 = .ok (.iconst 1, 1) := by decide +kernel
theorem dX6_counted_125 : decode cX6_counted 125 = .ok (.goto 4, 3) := by decide +kernel
theorem dX6_counted_128 : decode cX6_counted 128 = .ok (.iconst 0, 1) := by decide +kernel
theorem dX6_counted_129 : decode cX6_counted 129 = .ok (.iadd, 1) := by decide +kernel
theorem dX6_counted_130 : decode cX6_counted 130 = .ok (.istore_n 2, 1) := by decide +kernel
theorem dX6_counted_131 : decode cX6_counted 131 = .ok (.iinc 3 1, 3) := by decide +kernel
theorem dX6_counted_134 : decode cX6_counted 134 = .ok (.goto (-32), 3) := by decide +kernel
theorem dX6_counted_137 : decode cX6_counted 137 = .ok (.iload_n 2, 1) := by decide +kernel
theorem dX6_counted_138 : decode cX6_counted 138 = .ok (.ireturn, 1) := by decide +kernel
theorem dX6_counted_139 : decode cX6_counted 139 = .ok (.aload_n 0, 1) := by decide +kernel
theorem dX6_counted_140 : decode cX6_counted 140 = .ok (.getfield 60, 3) := by decide +kernel
theorem dX6_counted_143 : decode cX6_counted 143 = .ok (.ireturn, 1) := by decide +kernel
theorem dX6_counted_144 : decode cX6_counted 144 = .ok (.aload_n 0, 1) := by decide +kernel
theorem dX6_counted_145 : decode cX6_counted 145 = .ok (.getfield 13, 3) := by decide +kernel
theorem dX6_counted_148 : decode cX6_counted 148 = .ok (.ireturn, 1) := by decide +kernel
theorem dX6_counted_149 : decode cX6_counted 149 = .ok (.aload_n 0, 1) := by decide +kernel
theorem dX6_counted_150 : decode cX6_counted 150 = .ok (.getfield 84, 3) := by decide +kernel
theorem dX6_counted_153 : decode cX6_counted 153 = .ok (.ireturn, 1) := by decide +kernel
theorem dX6_counted_154 : decode cX6_counted 154 = .ok (.aload_n 0, 1) := by decide +kernel
theorem dX6_counted_155 : decode cX6_counted 155 = .ok (.getfield 28, 3) := by decide +kernel
theorem dX6_counted_158 : decode cX6_counted 158 = .ok (.getfield 106, 3) := by decide +kernel
theorem dX6_counted_161 : decode cX6_counted 161 = .ok (.ireturn, 1) := by decide +kernel
theorem dX6_counted_162 : decode cX6_counted 162 = .ok (.aload_n 0, 1) := by decide +kernel
theorem dX6_counted_163 : decode cX6_counted 163 = .ok (.getfield 28, 3) := by decide +kernel
theorem dX6_counted_166 : decode cX6_counted 166 = .ok (.getfield 90, 3) := by decide +kernel
theorem dX6_counted_169 : decode cX6_counted 169 = .ok (.ireturn, 1) := by decide +kernel
theorem dX6_counted_170 : decode cX6_counted 170 = .ok (.aload_n 0, 1) := by decide +kernel
theorem dX6_counted_171 : decode cX6_counted 171 = .ok (.getfield 28, 3) := by decide +kernel
theorem dX6_counted_174 : decode cX6_counted 174 = .ok (.getfield 87, 3) := by decide +kernel
theorem dX6_counted_177 : decode cX6_counted 177 = .ok (.ireturn, 1) := by decide +kernel
set_option maxRecDepth 20000 in
theorem ggX6_count_X6_isIn : GoodIn wsX6_count wsX6_isIn := goodIn_r _ [5] (by decide +kernel) (by decide +kernel)
set_option maxRecDepth 20000 in
theorem gX6_count_X6_isIn : GoodIn wsX6_count (va_wsS RX6 38 yX6_isIn wsX6_isIn) := goodIn_app (goodIn_of _ (by decide +kernel)) ggX6_count_X6_isIn
set_option maxRecDepth 20000 in
theorem ggX6_count_X6_counted : GoodIn wsX6_count wsX6_counted := goodIn_r _ [9, 10, 11, 12, 13, 14, 15, 16, 17, 18, 19, 4, 20, 21, 26, 27, 28, 29, 30, 31, 32, 33, 34, 35, 36, 37, 38, 39, 40, 41, 42, 43, 44, 45, 46, 47, 48, 49, 50, 51, 52, 53, 54, 55, 56] (by decide +kernel) (by decide +kernel)
set_option maxRecDepth 20000 in
theorem gX6_count_X6_counted : GoodIn wsX6_count (wsV RX6 109 RX6 yX6_counted wsX6_counted) := goodIn_app (goodIn_of _ (by decide +kernel)) ggX6_count_X6_counted
set_option maxRecDepth 20000 in
theorem ggX6_count_X6_no : GoodIn wsX6_count wsX6_no := goodIn_r _ [25, 1, 26, 27, 28, 29, 30, 31, 32, 33, 34, 35] (by decide +kernel) (by decide +kernel)
set_option maxRecDepth 20000 in
theorem gX6_count_X6_no : GoodIn wsX6_count (wsV RX6 43 RX6 yX6_no wsX6_no) := goodIn_app (goodIn_of _ (by decide +kernel)) ggX6_count_X6_no
theorem dX6_count_0 : decode cX6_count 0 = .ok (.aload_n 0, 1) := by decide +kernel
theorem dX6_count_1 : decode cX6_count 1 = .ok (.iconst 0, 1) := by decide +kernel
theorem dX6_count_2 : decode cX6_count 2 = .ok (.putfield 35, 3) := by decide +kernel
theorem dX6_count_5 : decode cX6_count 5 = .ok (.iload_n 1, 1) := by decide +kernel
theorem dX6_count_6 : decode cX6_count 6 = .ok (.iconst 0, 1) := by decide +kernel
theorem dX6_count_7 : decode cX6_count 7 = .ok (.bipush 9, 2) := by decide +kernel
theorem dX6_count_9 : decode cX6_count 9 = .ok (.invokestatic 38, 3) := by decide +kernel
theorem dX6_count_12 : decode cX6_count 12 = .ok (.ifCond .eq 11, 3) := by decide +kernel
theorem dX6_count_15 : decode cX6_count 15 = .ok (.aload_n 0, 1) := by decide +kernel
theorem dX6_count_16 : decode cX6_count 16 = .ok (.iload_n 1, 1) := by decide +kernel
theorem dX6_count_17 : decode cX6_count 17 = .ok (.invokevirtual 109, 3) := by decide +kernel
theorem dX6_count_20 : decode cX6_count 20 = .ok (.goto 8, 3) := by decide +kernel
theorem dX6_count_23 : decode cX6_count 23 = .ok (.aload_n 0, 1) := by decide +kernel
theorem dX6_count_24 : decode cX6_count 24 = .ok (.iconst 1, 1) := by decide +kernel
theorem dX6_count_25 : decode cX6_count 25 = .ok (.invokevirtual 43, 3) := by decide +kernel
theorem dX6_count_28 : decode cX6_count 28 = .ok (.ireturn, 1) := by decide +kernel
set_option maxRecDepth 20000 in
theorem ggX6_comes_X5_say : GoodIn wsX6_comes wsX5_say := goodIn_r _ [6, 7, 8, 9, 10, 11, 12, 13, 14, 15, 16, 17, 18, 19, 20, 21, 22, 23, 24, 25, 5, 26, 27, 28, 29, 30, 31, 32, 33, 34, 35, 36, 37, 38, 39, 40, 41, 42, 43, 44, 45, 46, 47, 48, 49, 50, 51, 52, 53, 54, 55, 56, 57, 58, 59, 60, 61, 62, 63, 64, 79, 80, 81, 82, 83, 84, 85, 86, 87, 88, 89, 90, 91, 92, 93, 94, 95, 96, 97, 98, 99, 69, 70, 71, 72, 73, 74, 75, 76, 77, 78] (by decide +kernel) (by decide +kernel)
set_option maxRecDepth 20000 in
theorem gX6_comes_X5_say : GoodIn wsX6_comes (wsV RX6 80 RX5 yX5_say wsX5_say) := goodIn_app (goodIn_of _ (by decide +kernel)) ggX6_comes_X5_say
set_option maxRecDepth 20000 in
theorem ggX6_comes_X5_isInOrder : GoodIn wsX6_comes wsX5_isInOrder := goodIn_r _ [68, 8, 12, 79, 80, 81, 82, 83, 84, 85, 86, 87, 88, 89, 90, 91, 92, 93, 94, 95, 96, 97, 98, 99] (by decide +kernel) (by decide +kernel)
set_option maxRecDepth 20000 in
theorem gX6_comes_X5_isInOrder : GoodIn wsX6_comes (wsV RX6 96 RX5 yX5_isInOrder wsX5_isInOrder) := goodIn_app (goodIn_of _ (by decide +kernel)) ggX6_comes_X5_isInOrder
theorem dX6_comes_0 : decode cX6_comes 0 = .ok (.aload_n 0, 1) := by decide +kernel
theorem dX6_comes_1 : decode cX6_comes 1 = .ok (.getfield 32, 3) := by decide +kernel
theorem dX6_comes_4 : decode cX6_comes 4 = .ok (.iload_n 1, 1) := by decide +kernel
theorem dX6_comes_5 : decode cX6_comes 5 = .ok (.iload_n 2, 1) := by decide +kernel
theorem dX6_comes_6 : decode cX6_comes 6 = .ok (.invokevirtual 80, 3) := by decide +kernel
theorem dX6_comes_9 : decode cX6_comes 9 = .ok (.aload_n 0, 1) := by decide +kernel
theorem dX6_comes_10 : decode cX6_comes 10 = .ok (.getfield 32, 3) := by decide +kernel
theorem dX6_comes_13 : decode cX6_comes 13 = .ok (.invokevirtual 96, 3) := by decide +kernel
theorem dX6_comes_16 : decode cX6_comes 16 = .ok (.ireturn, 1) := by decide +kernel
set_option maxRecDepth 20000 in
theorem ggX6_would_X6_isWord : GoodIn wsX6_would wsX6_isWord := goodIn_r _ [6, 7, 8, 9, 5, 10] (by decide +kernel) (by decide +kernel)
set_option maxRecDepth 20000 in
theorem gX6_would_X6_isWord : GoodIn wsX6_would (va_wsS RX6 77 yX6_isWord wsX6_isWord) := goodIn_app (goodIn_of _ (by decide +kernel)) ggX6_would_X6_isWord
set_option maxRecDepth 20000 in
theorem ggX6_would_X6_isIn : GoodIn wsX6_would wsX6_isIn := goodIn_r _ [10] (by decide +kernel) (by decide +kernel)
set_option maxRecDepth 20000 in
theorem gX6_would_X6_isIn : GoodIn wsX6_would (va_wsS RX6 38 yX6_isIn wsX6_isIn) := goodIn_app (goodIn_of _ (by decide +kernel)) ggX6_would_X6_isIn
set_option maxRecDepth 20000 in
theorem ggX6_would_X6_no : GoodIn wsX6_would wsX6_no := goodIn_r _ [14, 1, 85, 86, 87, 88, 89, 90, 91, 92, 93, 94] (by decide +kernel) (by decide +kernel)
set_option maxRecDepth 20000 in
theorem gX6_would_X6_no : GoodIn wsX6_would (wsV RX6 43 RX6 yX6_no wsX6_no) := goodIn_app (goodIn_of _ (by decide +kernel)) ggX6_would_X6_no
set_option maxRecDepth 20000 in
theorem ggX6_would_X6_comes : GoodIn wsX6_would wsX6_comes := goodIn_r _ [18, 2, 19, 20, 21, 22, 23, 24, 25, 26, 27, 28, 29, 30, 31, 32, 33, 34, 35, 36, 37, 38, 39, 40, 41, 42, 43, 44, 45, 46, 47, 48, 49, 50, 51, 52, 53, 54, 55, 56, 57, 58, 59, 60, 61, 62, 63, 64, 65, 66, 67, 68, 69, 5, 70, 71, 72, 73, 74, 75, 76, 77, 78, 79, 80, 81, 82, 83, 84, 85, 86, 87, 88, 89, 90, 91, 92, 93, 94, 95, 96, 97, 98, 99, 100, 101, 102, 103, 104, 105, 106, 107, 108, 109, 110, 111, 112, 113, 114, 115] (by decide +kernel) (by decide +kernel)
set_option maxRecDepth 20000 in
theorem gX6_would_X6_comes : GoodIn wsX6_would (wsV RX6 111 RX6 yX6_comes wsX6_comes) := goodIn_app (goodIn_of _ (by decide +kernel)) ggX6_would_X6_comes
theorem dX6_would_0 : decode cX6_would 0 = .ok (.aload_n 0, 1) := by decide +kernel
theorem dX6_would_1 : decode cX6_would 1 = .ok (.iconst 0, 1) := by decide +kernel
theorem dX6_would_2 : decode cX6_would 2 = .ok (.putfield 35, 3) := by decide +kernel
theorem dX6_would_5 : decode cX6_would 5 = .ok (.iload_n 1, 1) := by decide +kernel
theorem dX6_would_6 : decode cX6_would 6 = .ok (.invokestatic 77, 3) := by decide +kernel
theorem dX6_would_9 : decode cX6_would 9 = .ok (.ifCond .eq 13, 3) := by decide +kernel
theorem dX6_would_12 : decode cX6_would 12 = .ok (.iload_n 2, 1) := by decide +kernel
theorem dX6_would_13 : decode cX6_would 13 = .ok (.iconst 1, 1) := by decide +kernel
theorem dX6_would_14 : decode cX6_would 14 = .ok (.bipush 20, 2) := by decide +kernel
theorem dX6_would_16 : decode cX6_would 16 = .ok (.invokestatic 38, 3) := by decide +kernel
theorem dX6_would_19 : decode cX6_would 19 = .ok (.ifCond .ne 9, 3) := by decide +kernel
theorem dX6_would_22 : decode cX6_would 22 = .ok (.aload_n 0, 1) := by decide +kernel
theorem dX6_would_23 : decode cX6_would 23 = .ok (.iconst 1, 1) := by decide +kernel
theorem dX6_would_24 : decode cX6_would 24 = .ok (.invokevirtual 43, 3) := by decide +kernel
theorem dX6_would_27 : decode cX6_would 27 = .ok (.ireturn, 1) := by decide +kernel
theorem dX6_would_28 : decode cX6_would 28 = .ok (.iload_n 3, 1) := by decide +kernel
theorem dX6_would_29 : decode cX6_would 29 = .ok (.iconst 0, 1) := by decide +kernel
theorem dX6_would_30 : decode cX6_would 30 = .ok (.iconst 3, 1) := by decide +kernel
theorem dX6_would_31 : decode cX6_would 31 = .ok (.invokestatic 38, 3) := by decide +kernel
theorem dX6_would_34 : decode cX6_would 34 = .ok (.ifCond .ne 9, 3) := by decide +kernel
theorem dX6_would_37 : decode cX6_would 37 = .ok (.aload_n 0, 1) := by decide +kernel
theorem dX6_would_38 : decode cX6_would 38 = .ok (.iconst 2, 1) := by decide +kernel
theorem dX6_would_39 : decode cX6_would 39 = .ok (.invokevirtual 43, 3) := by decide +kernel
theorem dX6_would_42 : decode cX6_would 42 = .ok (.ireturn, 1) := by decide +kernel
theorem dX6_would_43 : decode cX6_would 43 = .ok (.aload_n 0, 1) := by decide +kernel
theorem dX6_would_44 : decode cX6_would 44 = .ok (.iload_n 1, 1) := by decide +kernel
theorem dX6_would_45 : decode cX6_would 45 = .ok (.iload_n 2, 1) := by decide +kernel
theorem dX6_would_46 : decode cX6_would 46 = .ok (.invokevirtual 111, 3) := by decide +kernel
theorem dX6_would_49 : decode cX6_would 49 = .ok (.istore 4, 2) := by decide +kernel
theorem dX6_would_51 : decode cX6_would 51 = .ok (.iload_n 3, 1) := by decide +kernel
theorem dX6_would_52 : decode cX6_would 52 = .ok (.tableswitch 55 0 2 #[28, 36, 47], 28) := by decide +kernel
theorem dX6_would_80 : decode cX6_would 80 = .ok (.aload_n 0, 1) := by decide +kernel
theorem dX6_would_81 : decode cX6_would 81 = .ok (.getfield 32, 3) := by decide +kernel
theorem dX6_would_84 : decode cX6_would 84 = .ok (.getfield 87, 3) := by decide +kernel
theorem dX6_would_87 : decode cX6_would 87 = .ok (.ireturn, 1) := by decide +kernel
theorem dX6_would_88 : decode cX6_would 88 = .ok (.iload 4, 2) := by decide +kernel
theorem dX6_would_90 : decode cX6_would 90 = .ok (.ifCond .eq 7, 3) := by decide +kernel
theorem dX6_would_93 : decode cX6_would 93 = .ok (.iconst 1, 1) := by decide +kernel
theorem dX6_would_94 : decode cX6_would 94 = .ok (.goto 4, 3) := by decide +kernel
theorem dX6_would_97 : decode cX6_would 97 = .ok (.iconst 0, 1) := by decide +kernel
theorem dX6_would_98 : decode cX6_would 98 = .ok (.ireturn, 1) := by decide +kernel
theorem dX6_would_99 : decode cX6_would 99 = .ok (.aload_n 0, 1) := by decide +kernel
theorem dX6_would_100 : decode cX6_would 100 = .ok (.getfield 32, 3) := by decide +kernel
theorem dX6_would_103 : decode cX6_would 103 = .ok (.getfield 114, 3) := by decide +kernel
theorem dX6_would_106 : decode cX6_would 106 = .ok (.ireturn, 1) := by decide +kernel
theorem dX6_would_107 : decode cX6_would 107 = .ok (.aload_n 0, 1) := by decide +kernel
theorem dX6_would_108 : decode cX6_would 108 = .ok (.getfield 32, 3) := by decide +kernel
theorem dX6_would_111 : decode cX6_would 111 = .ok (.getfield 117, 3) := by decide +kernel
theorem dX6_would_114 : decode cX6_would 114 = .ok (.ireturn, 1) := by decide +kernel
set_option maxRecDepth 20000 in
theorem ggX6_advise_X6_isWord : GoodIn wsX6_advise wsX6_isWord := goodIn_r _ [7, 8, 9, 10, 6, 11] (by decide +kernel) (by decide +kernel)
set_option maxRecDepth 20000 in
theorem gX6_advise_X6_isWord : GoodIn wsX6_advise (va_wsS RX6 77 yX6_isWord wsX6_isWord) := goodIn_app (goodIn_of _ (by decide +kernel)) ggX6_advise_X6_isWord
set_option maxRecDepth 20000 in
theorem ggX6_advise_X6_isIn : GoodIn wsX6_advise wsX6_isIn := goodIn_r _ [11] (by decide +kernel) (by decide +kernel)
set_option maxRecDepth 20000 in
theorem gX6_advise_X6_isIn : GoodIn wsX6_advise (va_wsS RX6 38 yX6_isIn wsX6_isIn) := goodIn_app (goodIn_of _ (by decide +kernel)) ggX6_advise_X6_isIn
set_option maxRecDepth 20000 in
theorem ggX6_advise_X6_no : GoodIn wsX6_advise wsX6_no := goodIn_r _ [15, 1, 90, 91, 92, 93, 94, 95, 96, 97, 98, 99] (by decide +kernel) (by decide +kernel)
set_option maxRecDepth 20000 in
theorem gX6_advise_X6_no : GoodIn wsX6_advise (wsV RX6 43 RX6 yX6_no wsX6_no) := goodIn_app (goodIn_of _ (by decide +kernel)) ggX6_advise_X6_no
set_option maxRecDepth 20000 in
theorem ggX6_advise_X5_instead : GoodIn wsX6_advise wsX5_instead := goodIn_r _ [20, 21, 22, 23, 100, 101, 102, 103, 104, 105, 106, 107, 108, 109, 110, 111, 112, 113, 114, 115, 116, 117, 118, 119, 120] (by decide +kernel) (by decide +kernel)
set_option maxRecDepth 20000 in
theorem gX6_advise_X5_instead : GoodIn wsX6_advise (wsV RX6 120 RX5 yX5_instead wsX5_instead) := goodIn_app (goodIn_of _ (by decide +kernel)) ggX6_advise_X5_instead
set_option maxRecDepth 20000 in
theorem ggX6_advise_X6_comes : GoodIn wsX6_advise wsX6_comes := goodIn_r _ [27, 3, 28, 29, 30, 19, 31, 32, 33, 34, 35, 36, 37, 38, 39, 40, 41, 42, 43, 44, 45, 46, 47, 48, 49, 50, 51, 52, 53, 54, 55, 56, 57, 58, 59, 60, 61, 62, 63, 64, 65, 66, 67, 68, 69, 70, 71, 72, 73, 21, 22, 23, 74, 6, 75, 76, 77, 78, 79, 80, 81, 82, 83, 84, 85, 86, 87, 88, 89, 90, 91, 92, 93, 94, 95, 96, 97, 98, 99, 100, 101, 102, 103, 104, 105, 106, 107, 108, 109, 110, 111, 112, 113, 114, 115, 116, 117, 118, 119, 120] (by decide +kernel) (by decide +kernel)
set_option maxRecDepth 20000 in
theorem gX6_advise_X6_comes : GoodIn wsX6_advise (wsV RX6 111 RX6 yX6_comes wsX6_comes) := goodIn_app (goodIn_of _ (by decide +kernel)) ggX6_advise_X6_comes
theorem dX6_advise_0 : decode cX6_advise 0 = .ok (.aload_n 0, 1) := by decide +kernel
theorem dX6_advise_1 : decode cX6_advise 1 = .ok (.iconst 0, 1) := by decide +kernel
theorem dX6_advise_2 : decode cX6_advise 2 = .ok (.putfield 35, 3) := by decide +kernel
theorem dX6_advise_5 : decode cX6_advise 5 = .ok (.iload_n 1, 1) := by decide +kernel
theorem dX6_advise_6 : decode cX6_advise 6 = .ok (.invokestatic 77, 3) := by decide +kernel
theorem dX6_advise_9 : decode cX6_advise 9 = .ok (.ifCond .eq 34, 3) := by decide +kernel
theorem dX6_advise_12 : decode cX6_advise 12 = .ok (.iload_n 2, 1) := by decide +kernel
theorem dX6_advise_13 : decode cX6_advise 13 = .ok (.iconst 1, 1) := by decide +kernel
theorem dX6_advise_14 : decode cX6_advise 14 = .ok (.bipush 20, 2) := by decide +kernel
theorem dX6_advise_16 : decode cX6_advise 16 = .ok (.invokestatic 38, 3) := by decide +kernel
theorem dX6_advise_19 : decode cX6_advise 19 = .ok (.ifCond .eq 24, 3) := by decide +kernel
theorem dX6_advise_22 : decode cX6_advise 22 = .ok (.iload_n 3, 1) := by decide +kernel
theorem dX6_advise_23 : decode cX6_advise 23 = .ok (.iconst 1, 1) := by decide +kernel
theorem dX6_advise_24 : decode cX6_advise 24 = .ok (.bipush 9, 2) := by decide +kernel
theorem dX6_advise_26 : decode cX6_advise 26 = .ok (.invokestatic 38, 3) := by decide +kernel
theorem dX6_advise_29 : decode cX6_advise 29 = .ok (.ifCond .eq 14, 3) := by decide +kernel
theorem dX6_advise_32 : decode cX6_advise 32 = .ok (.iload 4, 2) := by decide +kernel
theorem dX6_advise_34 : decode cX6_advise 34 = .ok (.iconst 0, 1) := by decide +kernel
theorem dX6_advise_35 : decode cX6_advise 35 = .ok (.bipush 20, 2) := by decide +kernel
theorem dX6_advise_37 : decode cX6_advise 37 = .ok (.invokestatic 38, 3) := by decide +kernel
theorem dX6_advise_40 : decode cX6_advise 40 = .ok (.ifCond .ne 9, 3) := by decide +kernel
theorem dX6_advise_43 : decode cX6_advise 43 = .ok (.aload_n 0, 1) := by decide +kernel
theorem dX6_advise_44 : decode cX6_advise 44 = .ok (.iconst 1, 1) := by decide +kernel
theorem dX6_advise_45 : decode cX6_advise 45 = .ok (.invokevirtual 43, 3) := by decide +kernel
theorem dX6_advise_48 : decode cX6_advise 48 = .ok (.ireturn, 1) := by decide +kernel
theorem dX6_advise_49 : decode cX6_advise 49 = .ok (.iconst (-1), 1) := by decide +kernel
theorem dX6_advise_50 : decode cX6_advise 50 = .ok (.istore 5, 2) := by decide +kernel
theorem dX6_advise_52 : decode cX6_advise 52 = .ok (.aload_n 0, 1) := by decide +kernel
theorem dX6_advise_53 : decode cX6_advise 53 = .ok (.getfield 9, 3) := by decide +kernel
theorem dX6_advise_56 : decode cX6_advise 56 = .ok (.iconst 1, 1) := by decide +kernel
theorem dX6_advise_57 : decode cX6_advise 57 = .ok (.isub, 1) := by decide +kernel
theorem dX6_advise_58 : decode cX6_advise 58 = .ok (.istore 6, 2) := by decide +kernel
theorem dX6_advise_60 : decode cX6_advise 60 = .ok (.iload 6, 2) := by decide +kernel
theorem dX6_advise_62 : decode cX6_advise 62 = .ok (.ifCond .le 34, 3) := by decide +kernel
theorem dX6_advise_65 : decode cX6_advise 65 = .ok (.aload_n 0, 1) := by decide +kernel
theorem dX6_advise_66 : decode cX6_advise 66 = .ok (.getfield 32, 3) := by decide +kernel
theorem dX6_advise_69 : decode cX6_advise 69 = .ok (.iload 6, 2) := by decide +kernel
theorem dX6_advise_71 : decode cX6_advise 71 = .ok (.iload_n 3, 1) := by decide +kernel
theorem dX6_advise_72 : decode cX6_advise 72 = .ok (.iload 4, 2) := by decide +kernel
theorem dX6_advise_74 : decode cX6_advise 74 = .ok (.invokevirtual 120, 3) := by decide +kernel
theorem dX6_advise_77 : decode cX6_advise 77 = .ok (.aload_n 0, 1) := by decide +kernel
theorem dX6_advise_78 : decode cX6_advise 78 = .ok (.iload_n 1, 1) := by decide +kernel
theorem dX6_advise_79 : decode cX6_advise 79 = .ok (.iload_n 2, 1) := by decide +kernel
theorem dX6_advise_80 : decode cX6_advise 80 = .ok (.invokevirtual 111, 3) := by decide +kernel
theorem dX6_advise_83 : decode cX6_advise 83 = .ok (.ifCond .eq 7, 3) := by decide +kernel
theorem dX6_advise_86 : decode cX6_advise 86 = .ok (.iload 6, 2) := by decide +kernel
theorem dX6_advise_88 : decode cX6_advise 88 = .ok (.istore 5, 2) := by decide +kernel
theorem dX6_advise_90 : decode cX6_advise 90 = .ok (.iinc 6 (-1), 3) := by decide +kernel
theorem dX6_advise_93 : decode cX6_advise 93 = .ok (.goto (-33), 3) := by decide +kernel
theorem dX6_advise_96 : decode cX6_advise 96 = .ok (.aload_n 0, 1) := by decide +kernel
theorem dX6_advise_97 : decode cX6_advise 97 = .ok (.getfield 32, 3) := by decide +kernel
theorem dX6_advise_100 : decode cX6_advise 100 = .ok (.iconst (-1), 1) := by decide +kernel
theorem dX6_advise_101 : decode cX6_advise 101 = .ok (.iconst 0, 1) := by decide +kernel
theorem dX6_advise_102 : decode cX6_advise 102 = .ok (.iconst 0, 1) := by decide +kernel
theorem dX6_advise_103 : decode cX6_advise 103 = .ok (.invokevirtual 120, 3) := by decide +kernel
theorem dX6_advise_106 : decode cX6_advise 106 = .ok (.iload 5, 2) := by decide +kernel
theorem dX6_advise_108 : decode cX6_advise 108 = .ok (.ireturn, 1) := by decide +kernel
set_option maxRecDepth 20000 in
theorem ggX6_longest_X6_isIn : GoodIn wsX6_longest wsX6_isIn := goodIn_r _ [5] (by decide +kernel) (by decide +kernel)
set_option maxRecDepth 20000 in
theorem gX6_longest_X6_isIn : GoodIn wsX6_longest (va_wsS RX6 38 yX6_isIn wsX6_isIn) := goodIn_app (goodIn_of _ (by decide +kernel)) ggX6_longest_X6_isIn
set_option maxRecDepth 20000 in
theorem ggX6_longest_X6_no : GoodIn wsX6_longest wsX6_no := goodIn_r _ [9, 1, 81, 82, 83, 84, 85, 86, 87, 88, 89, 90] (by decide +kernel) (by decide +kernel)
set_option maxRecDepth 20000 in
theorem gX6_longest_X6_no : GoodIn wsX6_longest (wsV RX6 43 RX6 yX6_no wsX6_no) := goodIn_app (goodIn_of _ (by decide +kernel)) ggX6_longest_X6_no
set_option maxRecDepth 20000 in
theorem ggX6_longest_X6_comes : GoodIn wsX6_longest wsX6_comes := goodIn_r _ [13, 14, 15, 16, 17, 18, 19, 20, 21, 22, 23, 24, 25, 26, 27, 28, 29, 30, 31, 32, 33, 34, 35, 36, 37, 38, 39, 40, 41, 42, 43, 44, 45, 46, 47, 48, 49, 50, 51, 52, 53, 54, 55, 56, 57, 58, 59, 60, 61, 62, 63, 64, 65, 4, 66, 67, 68, 69, 70, 71, 72, 73, 74, 75, 76, 77, 78, 79, 80, 81, 82, 83, 84, 85, 86, 87, 88, 89, 90, 91, 92, 93, 94, 95, 96, 97, 98, 99, 100, 101, 102, 103, 104, 105, 106, 107, 108, 109, 110, 111] (by decide +kernel) (by decide +kernel)
set_option maxRecDepth 20000 in
theorem gX6_longest_X6_comes : GoodIn wsX6_longest (wsV RX6 111 RX6 yX6_comes wsX6_comes) := goodIn_app (goodIn_of _ (by decide +kernel)) ggX6_longest_X6_comes
theorem dX6_longest_0 : decode cX6_longest 0 = .ok (.aload_n 0, 1) := by decide +kernel
theorem dX6_longest_1 : decode cX6_longest 1 = .ok (.iconst 0, 1) := by decide +kernel
theorem dX6_longest_2 : decode cX6_longest 2 = .ok (.putfield 35, 3) := by decide +kernel
theorem dX6_longest_5 : decode cX6_longest 5 = .ok (.iload_n 1, 1) := by decide +kernel
theorem dX6_longest_6 : decode cX6_longest 6 = .ok (.iconst 1, 1) := by decide +kernel
theorem dX6_longest_7 : decode cX6_longest 7 = .ok (.bipush 9, 2) := by decide +kernel
theorem dX6_longest_9 : decode cX6_longest 9 = .ok (.invokestatic 38, 3) := by decide +kernel
theorem dX6_longest_12 : decode cX6_longest 12 = .ok (.ifCond .eq 13, 3) := by decide +kernel
theorem dX6_longest_15 : decode cX6_longest 15 = .ok (.iload_n 2, 1) := by decide +kernel
theorem dX6_longest_16 : decode cX6_longest 16 = .ok (.iconst 1, 1) := by decide +kernel
theorem dX6_longest_17 : decode cX6_longest 17 = .ok (.bipush 20, 2) := by decide +kernel
theorem dX6_longest_19 : decode cX6_longest 19 = .ok (.invokestatic 38, 3) := by decide +kernel
theorem dX6_longest_22 : decode cX6_longest 22 = .ok (.ifCond .ne 9, 3) := by decide +kernel
theorem dX6_longest_25 : decode cX6_longest 25 = .ok (.aload_n 0, 1) := by decide +kernel
theorem dX6_longest_26 : decode cX6_longest 26 = .ok (.iconst 1, 1) := by decide +kernel
theorem dX6_longest_27 : decode cX6_longest 27 = .ok (.invokevirtual 43, 3) := by decide +kernel
theorem dX6_longest_30 : decode cX6_longest 30 = .ok (.ireturn, 1) := by decide +kernel
theorem dX6_longest_31 : decode cX6_longest 31 = .ok (.iconst 0, 1) := by decide +kernel
theorem dX6_longest_32 : decode cX6_longest 32 = .ok (.istore_n 3, 1) := by decide +kernel
theorem dX6_longest_33 : decode cX6_longest 33 = .ok (.iconst 0, 1) := by decide +kernel
theorem dX6_longest_34 : decode cX6_longest 34 = .ok (.istore 4, 2) := by decide +kernel
theorem dX6_longest_36 : decode cX6_longest 36 = .ok (.iconst 1, 1) := by decide +kernel
theorem dX6_longest_37 : decode cX6_longest 37 = .ok (.istore 5, 2) := by decide +kernel
theorem dX6_longest_39 : decode cX6_longest 39 = .ok (.iload 5, 2) := by decide +kernel
theorem dX6_longest_41 : decode cX6_longest 41 = .ok (.bipush 6, 2) := by decide +kernel
theorem dX6_longest_43 : decode cX6_longest 43 = .ok (.if_icmp .gt 31, 3) := by decide +kernel
theorem dX6_longest_46 : decode cX6_longest 46 = .ok (.bipush 10, 2) := by decide +kernel
theorem dX6_longest_48 : decode cX6_longest 48 = .ok (.iload 4, 2) := by decide +kernel
theorem dX6_longest_50 : decode cX6_longest 50 = .ok (.imul, 1) := by decide +kernel
theorem dX6_longest_51 : decode cX6_longest 51 = .ok (.iload_n 1, 1) := by decide +kernel
theorem dX6_longest_52 : decode cX6_longest 52 = .ok (.iadd, 1) := by decide +kernel
theorem dX6_longest_53 : decode cX6_longest 53 = .ok (.istore 4, 2) := by decide +kernel
theorem dX6_longest_55 : decode cX6_longest 55 = .ok (.aload_n 0, 1) := by decide +kernel
theorem dX6_longest_56 : decode cX6_longest 56 = .ok (.iload 4, 2) := by decide +kernel
theorem dX6_longest_58 : decode cX6_longest 58 = .ok (.iload_n 2, 1) := by decide +kernel
theorem dX6_longest_59 : decode cX6_longest 59 = .ok (.invokevirtual 111, 3) := by decide +kernel
theorem dX6_longest_62 : decode cX6_longest 62 = .ok (.ifCond .eq 6, 3) := by decide +kernel
theorem dX6_longest_65 : decode cX6_longest 65 = .ok (.iload 5, 2) := by decide +kernel
theorem dX6_longest_67 : decode cX6_longest 67 = .ok (.istore_n 3, 1) := by decide +kernel
theorem dX6_longest_68 : decode cX6_longest 68 = .ok (.iinc 5 1, 3) := by decide +kernel
theorem dX6_longest_71 : decode cX6_longest 71 = .ok (.goto (-32), 3) := by decide +kernel
theorem dX6_longest_74 : decode cX6_longest 74 = .ok (.iload_n 3, 1) := by decide +kernel
theorem dX6_longest_75 : decode cX6_longest 75 = .ok (.ireturn, 1) := by decide +kernel
set_option maxRecDepth 20000 in
theorem ggX6_quickest_X6_isWord : GoodIn wsX6_quickest wsX6_isWord := goodIn_r _ [5, 6, 7, 8, 4, 9] (by decide +kernel) (by decide +kernel)
set_option maxRecDepth 20000 in
theorem gX6_quickest_X6_isWord : GoodIn wsX6_quickest (va_wsS RX6 77 yX6_isWord wsX6_isWord) := goodIn_app (goodIn_of _ (by decide +kernel)) ggX6_quickest_X6_isWord
set_option maxRecDepth 20000 in
theorem ggX6_quickest_X6_no : GoodIn wsX6_quickest wsX6_no := goodIn_r _ [13, 1, 85, 86, 87, 88, 89, 90, 91, 92, 93, 94] (by decide +kernel) (by decide +kernel)
set_option maxRecDepth 20000 in
theorem gX6_quickest_X6_no : GoodIn wsX6_quickest (wsV RX6 43 RX6 yX6_no wsX6_no) := goodIn_app (goodIn_of _ (by decide +kernel)) ggX6_quickest_X6_no
set_option maxRecDepth 20000 in
theorem ggX6_quickest_X6_comes : GoodIn wsX6_quickest wsX6_comes := goodIn_r _ [17, 18, 19, 20, 21, 22, 23, 24, 25, 26, 27, 28, 29, 30, 31, 32, 33, 34, 35, 36, 37, 38, 39, 40, 41, 42, 43, 44, 45, 46, 47, 48, 49, 50, 51, 52, 53, 54, 55, 56, 57, 58, 59, 60, 61, 62, 63, 64, 65, 66, 67, 68, 69, 4, 70, 71, 72, 73, 74, 75, 76, 77, 78, 79, 80, 81, 82, 83, 84, 85, 86, 87, 88, 89, 90, 91, 92, 93, 94, 95, 96, 97, 98, 99, 100, 101, 102, 103, 104, 105, 106, 107, 108, 109, 110, 111, 112, 113, 114, 115] (by decide +kernel) (by decide +kernel)
set_option maxRecDepth 20000 in
theorem gX6_quickest_X6_comes : GoodIn wsX6_quickest (wsV RX6 111 RX6 yX6_comes wsX6_comes) := goodIn_app (goodIn_of _ (by decide +kernel)) ggX6_quickest_X6_comes
theorem dX6_quickest_0 : decode cX6_quickest 0 = .ok (.aload_n 0, 1) := by decide +kernel
theorem dX6_quickest_1 : decode cX6_quickest 1 = .ok (.iconst 0, 1) := by decide +kernel
theorem dX6_quickest_2 : decode cX6_quickest 2 = .ok (.putfield 35, 3) := by decide +kernel
theorem dX6_quickest_5 : decode cX6_quickest 5 = .ok (.iload_n 1, 1) := by decide +kernel
theorem dX6_quickest_6 : decode cX6_quickest 6 = .ok (.invokestatic 77, 3) := by decide +kernel
theorem dX6_quickest_9 : decode cX6_quickest 9 = .ok (.ifCond .ne 9, 3) := by decide +kernel
theorem dX6_quickest_12 : decode cX6_quickest 12 = .ok (.aload_n 0, 1) := by decide +kernel
theorem dX6_quickest_13 : decode cX6_quickest 13 = .ok (.iconst 1, 1) := by decide +kernel
theorem dX6_quickest_14 : decode cX6_quickest 14 = .ok (.invokevirtual 43, 3) := by decide +kernel
theorem dX6_quickest_17 : decode cX6_quickest 17 = .ok (.ireturn, 1) := by decide +kernel
theorem dX6_quickest_18 : decode cX6_quickest 18 = .ok (.iconst 1, 1) := by decide +kernel
theorem dX6_quickest_19 : decode cX6_quickest 19 = .ok (.istore_n 2, 1) := by decide +kernel
theorem dX6_quickest_20 : decode cX6_quickest 20 = .ok (.iload_n 2, 1) := by decide +kernel
theorem dX6_quickest_21 : decode cX6_quickest 21 = .ok (.bipush 20, 2) := by decide +kernel
theorem dX6_quickest_23 : decode cX6_quickest 23 = .ok (.if_icmp .gt 20, 3) := by decide +kernel
theorem dX6_quickest_26 : decode cX6_quickest 26 = .ok (.aload_n 0, 1) := by decide +kernel
theorem dX6_quickest_27 : decode cX6_quickest 27 = .ok (.iload_n 1, 1) := by decide +kernel
theorem dX6_quickest_28 : decode cX6_quickest 28 = .ok (.iload_n 2, 1) := by decide +kernel
theorem dX6_quickest_29 : decode cX6_quickest 29 = .ok (.invokevirtual 111, 3) := by decide +kernel
theorem dX6_quickest_32 : decode cX6_quickest 32 = .ok (.ifCond .eq 5, 3) := by decide +kernel
theorem dX6_quickest_35 : decode cX6_quickest 35 = .ok (.iload_n 2, 1) := by decide +kernel
theorem dX6_quickest_36 : decode cX6_quickest 36 = .ok (.ireturn, 1) := by decide +kernel
theorem dX6_quickest_37 : decode cX6_quickest 37 = .ok (.iinc 2 1, 3) := by decide +kernel
theorem dX6_quickest_40 : decode cX6_quickest 40 = .ok (.goto (-20), 3) := by decide +kernel
theorem dX6_quickest_43 : decode cX6_quickest 43 = .ok (.iconst (-1), 1) := by decide +kernel
theorem dX6_quickest_44 : decode cX6_quickest 44 = .ok (.ireturn, 1) := by decide +kernel
set_option maxRecDepth 20000 in
theorem ggX6_shortest_X6_isOpen : GoodIn wsX6_shortest wsX6_isOpen := goodIn_r _ [13, 14, 4, 15, 16, 17, 18, 19, 20, 21, 22, 23, 24] (by decide +kernel) (by decide +kernel)
set_option maxRecDepth 20000 in
theorem gX6_shortest_X6_isOpen : GoodIn wsX6_shortest (wsV RX6 67 RX6 yX6_isOpen wsX6_isOpen) := goodIn_app (goodIn_of _ (by decide +kernel)) ggX6_shortest_X6_isOpen
theorem dX6_shortest_0 : decode cX6_shortest 0 = .ok (.bipush 120, 2) := by decide +kernel
theorem dX6_shortest_2 : decode cX6_shortest 2 = .ok (.istore 4, 2) := by decide +kernel
theorem dX6_shortest_4 : decode cX6_shortest 4 = .ok (.bipush 12, 2) := by decide +kernel
theorem dX6_shortest_6 : decode cX6_shortest 6 = .ok (.newarray .int, 2) := by decide +kernel
theorem dX6_shortest_8 : decode cX6_shortest 8 = .ok (.astore 5, 2) := by decide +kernel
theorem dX6_shortest_10 : decode cX6_shortest 10 = .ok (.iconst 0, 1) := by decide +kernel
theorem dX6_shortest_11 : decode cX6_shortest 11 = .ok (.istore 6, 2) := by decide +kernel
theorem dX6_shortest_13 : decode cX6_shortest 13 = .ok (.iload 6, 2) := by decide +kernel
theorem dX6_shortest_15 : decode cX6_shortest 15 = .ok (.bipush 12, 2) := by decide +kernel
theorem dX6_shortest_17 : decode cX6_shortest 17 = .ok (.if_icmp .ge 26, 3) := by decide +kernel
theorem dX6_shortest_20 : decode cX6_shortest 20 = .ok (.aload 5, 2) := by decide +kernel
theorem dX6_shortest_22 : decode cX6_shortest 22 = .ok (.iload 6, 2) := by decide +kernel
theorem dX6_shortest_24 : decode cX6_shortest 24 = .ok (.iload 6, 2) := by decide +kernel
theorem dX6_shortest_26 : decode cX6_shortest 26 = .ok (.iload_n 1, 1) := by decide +kernel
theorem dX6_shortest_27 : decode cX6_shortest 27 = .ok (.if_icmp .ne 7, 3) := by decide +kernel
theorem dX6_shortest_30 : decode cX6_shortest 30 = .ok (.iconst 0, 1) := by decide +kernel
theorem dX6_shortest_31 : decode cX6_shortest 31 = .ok (.goto 5, 3) := by decide +kernel
theorem dX6_shortest_34 : decode cX6_shortest 34 = .ok (.iload 4, 2) := by decide +kernel
theorem dX6_shortest_36 : decode cX6_shortest 36 = .ok (.iastore, 1) := by decide +kernel
theorem dX6_shortest_37 : decode cX6_shortest 37 = .ok (.iinc 6 1, 3) := by decide +kernel
theorem dX6_shortest_40 : decode cX6_shortest 40 = .ok (.goto (-27), 3) := by decide +kernel
theorem dX6_shortest_43 : decode cX6_shortest 43 = .ok (.iconst 1, 1) := by decide +kernel
theorem dX6_shortest_44 : decode cX6_shortest 44 = .ok (.istore 6, 2) := by decide +kernel
theorem dX6_shortest_46 : decode cX6_shortest 46 = .ok (.iload 6, 2) := by decide +kernel
theorem dX6_shortest_48 : decode cX6_shortest 48 = .ok (.aload_n 0, 1) := by decide +kernel
theorem dX6_shortest_49 : decode cX6_shortest 49 = .ok (.getfield 9, 3) := by decide +kernel
theorem dX6_shortest_52 : decode cX6_shortest 52 = .ok (.if_icmp .ge 124, 3) := by decide +kernel
theorem dX6_shortest_55 : decode cX6_shortest 55 = .ok (.iconst 0, 1) := by decide +kernel
theorem dX6_shortest_56 : decode cX6_shortest 56 = .ok (.istore 7, 2) := by decide +kernel
theorem dX6_shortest_58 : decode cX6_shortest 58 = .ok (.iload 7, 2) := by decide +kernel
theorem dX6_shortest_60 : decode cX6_shortest 60 = .ok (.aload_n 0, 1) := by decide +kernel
theorem dX6_shortest_61 : decode cX6_shortest 61 = .ok (.getfield 57, 3) := by decide +kernel
theorem dX6_shortest_64 : decode cX6_shortest 64 = .ok (.if_icmp .ge 106, 3) := by decide +kernel
theorem dX6_shortest_67 : decode cX6_shortest 67 = .ok (.aload_n 0, 1) := by decide +kernel
theorem dX6_shortest_68 : decode cX6_shortest 68 = .ok (.iload 7, 2) := by decide +kernel
theorem dX6_shortest_70 : decode cX6_shortest 70 = .ok (.iload_n 3, 1) := by decide +kernel
theorem dX6_shortest_71 : decode cX6_shortest 71 = .ok (.invokevirtual 67, 3) := by decide +kernel
theorem dX6_shortest_74 : decode cX6_shortest 74 = .ok (.ifCond .ne 6, 3) := by decide +kernel
theorem dX6_shortest_77 : decode cX6_shortest 77 = .ok (.goto 87, 3) := by decide +kernel
theorem dX6_shortest_80 : decode cX6_shortest 80 = .ok (.aload_n 0, 1) := by decide +kernel
theorem dX6_shortest_81 : decode cX6_shortest 81 = .ok (.getfield 20, 3) := by decide +kernel
theorem dX6_shortest_84 : decode cX6_shortest 84 = .ok (.iconst 4, 1) := by decide +kernel
theorem dX6_shortest_85 : decode cX6_shortest 85 = .ok (.iload 7, 2) := by decide +kernel
theorem dX6_shortest_87 : decode cX6_shortest 87 = .ok (.imul, 1) := by decide +kernel
theorem dX6_shortest_88 : decode cX6_shortest 88 = .ok (.iaload, 1) := by decide +kernel
theorem dX6_shortest_89 : decode cX6_shortest 89 = .ok (.istore 8, 2) := by decide +kernel
theorem dX6_shortest_91 : decode cX6_shortest 91 = .ok (.aload_n 0, 1) := by decide +kernel
theorem dX6_shortest_92 : decode cX6_shortest 92 = .ok (.getfield 20, 3) := by decide +kernel
theorem dX6_shortest_95 : decode cX6_shortest 95 = .ok (.iconst 4, 1) := by decide +kernel
theorem dX6_shortest_96 : decode cX6_shortest 96 = .ok (.iload 7, 2) := by decide +kernel
theorem dX6_shortest_98 : decode cX6_shortest 98 = .ok (.imul, 1) := by decide +kernel
theorem dX6_shortest_99 : decode cX6_shortest 99 = .ok (.iconst 1, 1) := by decide +kernel
theorem dX6_shortest_100 : decode cX6_shortest 100 = .ok (.iadd, 1) := by decide +kernel
theorem dX6_shortest_101 : decode cX6_shortest 101 = .ok (.iaload, 1) := by decide +kernel
theorem dX6_shortest_102 : decode cX6_shortest 102 = .ok (.istore 9, 2) := by decide +kernel
theorem dX6_shortest_104 : decode cX6_shortest 104 = .ok (.aload 5, 2) := by decide +kernel
theorem dX6_shortest_106 : decode cX6_shortest 106 = .ok (.iload 8, 2) := by decide +kernel
theorem dX6_shortest_108 : decode cX6_shortest 108 = .ok (.aload 5, 2) := by decide +kernel
theorem dX6_shortest_110 : decode cX6_shortest 110 = .ok (.iload 8, 2) := by decide +kernel
theorem dX6_shortest_112 : decode cX6_shortest 112 = .ok (.iaload, 1) := by decide +kernel
theorem dX6_shortest_113 : decode cX6_shortest 113 = .ok (.aload 5, 2) := by decide +kernel
theorem dX6_shortest_115 : decode cX6_shortest 115 = .ok (.iload 9, 2) := by decide +kernel
theorem dX6_shortest_117 : decode cX6_shortest 117 = .ok (.iaload, 1) := by decide +kernel
theorem dX6_shortest_118 : decode cX6_shortest 118 = .ok (.aload_n 0, 1) := by decide +kernel
theorem dX6_shortest_119 : decode cX6_shortest 119 = .ok (.getfield 20, 3) := by decide +kernel
theorem dX6_shortest_122 : decode cX6_shortest 122 = .ok (.iconst 4, 1) := by decide +kernel
theorem dX6_shortest_123 : decode cX6_shortest 123 = .ok (.iload 7, 2) := by decide +kernel
theorem dX6_shortest_125 : decode cX6_shortest 125 = .ok (.imul, 1) := by decide +kernel
theorem dX6_shortest_126 : decode cX6_shortest 126 = .ok (.iconst 2, 1) := by decide +kernel
theorem dX6_shortest_127 : decode cX6_shortest 127 = .ok (.iadd, 1) := by decide +kernel
theorem dX6_shortest_128 : decode cX6_shortest 128 = .ok (.iaload, 1) := by decide +kernel
theorem dX6_shortest_129 : decode cX6_shortest 129 = .ok (.iadd, 1) := by decide +kernel
theorem dX6_shortest_130 : decode cX6_shortest 130 = .ok (.invokestatic 124, 3) := by decide +kernel
theorem dX6_shortest_133 : decode cX6_shortest 133 = .ok (.iastore, 1) := by decide +kernel
theorem dX6_shortest_134 : decode cX6_shortest 134 = .ok (.aload 5, 2) := by decide +kernel
theorem dX6_shortest_136 : decode cX6_shortest 136 = .ok (.iload 9, 2) := by decide +kernel
theorem dX6_shortest_138 : decode cX6_shortest 138 = .ok (.aload 5, 2) := by decide +kernel
theorem dX6_shortest_140 : decode cX6_shortest 140 = .ok (.iload 9, 2) := by decide +kernel
theorem dX6_shortest_142 : decode cX6_shortest 142 = .ok (.iaload, 1) := by decide +kernel
theorem dX6_shortest_143 : decode cX6_shortest 143 = .ok (.aload 5, 2) := by decide +kernel
theorem dX6_shortest_145 : decode cX6_shortest 145 = .ok (.iload 8, 2) := by decide +kernel
theorem dX6_shortest_147 : decode cX6_shortest 147 = .ok (.iaload, 1) := by decide +kernel
theorem dX6_shortest_148 : decode cX6_shortest 148 = .ok (.aload_n 0, 1) := by decide +kernel
theorem dX6_shortest_149 : decode cX6_shortest 149 = .ok (.getfield 20, 3) := by decide +kernel
theorem dX6_shortest_152 : decode cX6_shortest 152 = .ok (.iconst 4, 1) := by decide +kernel
theorem dX6_shortest_153 : decode cX6_shortest 153 = .ok (.iload 7, 2) := by decide +kernel
theorem dX6_shortest_155 : decode cX6_shortest 155 = .ok (.imul, 1) := by decide +kernel
theorem dX6_shortest_156 : decode cX6_shortest 156 = .ok (.iconst 2, 1) := by decide +kernel
theorem dX6_shortest_157 : decode cX6_shortest 157 = .ok (.iadd, 1) := by decide +kernel
theorem dX6_shortest_158 : decode cX6_shortest 158 = .ok (.iaload, 1) := by decide +kernel
theorem dX6_shortest_159 : decode cX6_shortest 159 = .ok (.iadd, 1) := by decide +kernel
theorem dX6_shortest_160 : decode cX6_shortest 160 = .ok (.invokestatic 124, 3) := by decide +kernel
theorem dX6_shortest_163 : decode cX6_shortest 163 = .ok (.iastore, 1) := by decide +kernel
theorem dX6_shortest_164 : decode cX6_shortest 164 = .ok (.iinc 7 1, 3) := by decide +kernel
theorem dX6_shortest_167 : decode cX6_shortest 167 = .ok (.goto (-109), 3) := by decide +kernel
theorem dX6_shortest_170 : decode cX6_shortest 170 = .ok (.iinc 6 1, 3) := by decide +kernel
theorem dX6_shortest_173 : decode cX6_shortest 173 = .ok (.goto (-127), 3) := by decide +kernel
theorem dX6_shortest_176 : decode cX6_shortest 176 = .ok (.aload 5, 2) := by decide +kernel
theorem dX6_shortest_178 : decode cX6_shortest 178 = .ok (.iload_n 2, 1) := by decide +kernel
theorem dX6_shortest_179 : decode cX6_shortest 179 = .ok (.iaload, 1) := by decide +kernel
theorem dX6_shortest_180 : decode cX6_shortest 180 = .ok (.iload 4, 2) := by decide +kernel
theorem dX6_shortest_182 : decode cX6_shortest 182 = .ok (.if_icmp .ge 10, 3) := by decide +kernel
theorem dX6_shortest_185 : decode cX6_shortest 185 = .ok (.aload 5, 2) := by decide +kernel
theorem dX6_shortest_187 : decode cX6_shortest 187 = .ok (.iload_n 2, 1) := by decide +kernel
theorem dX6_shortest_188 : decode cX6_shortest 188 = .ok (.iaload, 1) := by decide +kernel
theorem dX6_shortest_189 : decode cX6_shortest 189 = .ok (.goto 4, 3) := by decide +kernel
theorem dX6_shortest_192 : decode cX6_shortest 192 = .ok (.iconst (-1), 1) := by decide +kernel
theorem dX6_shortest_193 : decode cX6_shortest 193 = .ok (.ireturn, 1) := by decide +kernel
set_option maxRecDepth 20000 in
theorem ggX6_way_X6_isChamber : GoodIn wsX6_way wsX6_isChamber := goodIn_r _ [7, 8, 9, 10, 6, 11, 32, 33, 34, 35, 36, 37, 38, 39, 40, 41] (by decide +kernel) (by decide +kernel)
set_option maxRecDepth 20000 in
theorem gX6_way_X6_isChamber : GoodIn wsX6_way (wsV RX6 53 RX6 yX6_isChamber wsX6_isChamber) := goodIn_app (goodIn_of _ (by decide +kernel)) ggX6_way_X6_isChamber
set_option maxRecDepth 20000 in
theorem ggX6_way_X6_shortest : GoodIn wsX6_way wsX6_shortest := goodIn_r _ [15, 16, 8, 17, 18, 19, 20, 21, 22, 23, 24, 25, 6, 26, 27, 32, 33, 34, 35, 36, 37, 38, 39, 40, 41] (by decide +kernel) (by decide +kernel)
set_option maxRecDepth 20000 in
theorem gX6_way_X6_shortest : GoodIn wsX6_way (wsV RX6 129 RX6 yX6_shortest wsX6_shortest) := goodIn_app (goodIn_of _ (by decide +kernel)) ggX6_way_X6_shortest
set_option maxRecDepth 20000 in
theorem ggX6_way_X6_no : GoodIn wsX6_way wsX6_no := goodIn_r _ [31, 1, 32, 33, 34, 35, 36, 37, 38, 39, 40, 41] (by decide +kernel) (by decide +kernel)
set_option maxRecDepth 20000 in
theorem gX6_way_X6_no : GoodIn wsX6_way (wsV RX6 43 RX6 yX6_no wsX6_no) := goodIn_app (goodIn_of _ (by decide +kernel)) ggX6_way_X6_no
theorem dX6_way_0 : decode cX6_way 0 = .ok (.aload_n 0, 1) := by decide +kernel
theorem dX6_way_1 : decode cX6_way 1 = .ok (.iconst 0, 1) := by decide +kernel
theorem dX6_way_2 : decode cX6_way 2 = .ok (.putfield 35, 3) := by decide +kernel
theorem dX6_way_5 : decode cX6_way 5 = .ok (.aload_n 0, 1) := by decide +kernel
theorem dX6_way_6 : decode cX6_way 6 = .ok (.iload_n 1, 1) := by decide +kernel
theorem dX6_way_7 : decode cX6_way 7 = .ok (.invokevirtual 53, 3) := by decide +kernel
theorem dX6_way_10 : decode cX6_way 10 = .ok (.ifCond .eq 24, 3) := by decide +kernel
theorem dX6_way_13 : decode cX6_way 13 = .ok (.aload_n 0, 1) := by decide +kernel
theorem dX6_way_14 : decode cX6_way 14 = .ok (.iload_n 2, 1) := by decide +kernel
theorem dX6_way_15 : decode cX6_way 15 = .ok (.invokevirtual 53, 3) := by decide +kernel
theorem dX6_way_18 : decode cX6_way 18 = .ok (.ifCond .eq 16, 3) := by decide +kernel
theorem dX6_way_21 : decode cX6_way 21 = .ok (.aload_n 0, 1) := by decide +kernel
theorem dX6_way_22 : decode cX6_way 22 = .ok (.iload_n 1, 1) := by decide +kernel
theorem dX6_way_23 : decode cX6_way 23 = .ok (.iload_n 2, 1) := by decide +kernel
theorem dX6_way_24 : decode cX6_way 24 = .ok (.aload_n 0, 1) := by decide +kernel
theorem dX6_way_25 : decode cX6_way 25 = .ok (.getfield 60, 3) := by decide +kernel
theorem dX6_way_28 : decode cX6_way 28 = .ok (.invokevirtual 129, 3) := by decide +kernel
theorem dX6_way_31 : decode cX6_way 31 = .ok (.goto 8, 3) := by decide +kernel
theorem dX6_way_34 : decode cX6_way 34 = .ok (.aload_n 0, 1) := by decide +kernel
theorem dX6_way_35 : decode cX6_way 35 = .ok (.iconst 1, 1) := by decide +kernel
theorem dX6_way_36 : decode cX6_way 36 = .ok (.invokevirtual 43, 3) := by decide +kernel
theorem dX6_way_39 : decode cX6_way 39 = .ok (.ireturn, 1) := by decide +kernel
set_option maxRecDepth 20000 in
theorem ggX6_highest_X6_isChamber : GoodIn wsX6_highest wsX6_isChamber := goodIn_r _ [6, 7, 8, 9, 5, 10, 31, 32, 33, 34, 35, 36, 37, 38, 39, 40] (by decide +kernel) (by decide +kernel)
set_option maxRecDepth 20000 in
theorem gX6_highest_X6_isChamber : GoodIn wsX6_highest (wsV RX6 53 RX6 yX6_isChamber wsX6_isChamber) := goodIn_app (goodIn_of _ (by decide +kernel)) ggX6_highest_X6_isChamber
set_option maxRecDepth 20000 in
theorem ggX6_highest_X6_no : GoodIn wsX6_highest wsX6_no := goodIn_r _ [14, 1, 31, 32, 33, 34, 35, 36, 37, 38, 39, 40] (by decide +kernel) (by decide +kernel)
set_option maxRecDepth 20000 in
theorem gX6_highest_X6_no : GoodIn wsX6_highest (wsV RX6 43 RX6 yX6_no wsX6_no) := goodIn_app (goodIn_of _ (by decide +kernel)) ggX6_highest_X6_no
set_option maxRecDepth 20000 in
theorem ggX6_highest_X6_shortest : GoodIn wsX6_highest wsX6_shortest := goodIn_r _ [18, 19, 7, 20, 21, 22, 23, 24, 25, 26, 27, 28, 5, 29, 30, 31, 32, 33, 34, 35, 36, 37, 38, 39, 40] (by decide +kernel) (by decide +kernel)
set_option maxRecDepth 20000 in
theorem gX6_highest_X6_shortest : GoodIn wsX6_highest (wsV RX6 129 RX6 yX6_shortest wsX6_shortest) := goodIn_app (goodIn_of _ (by decide +kernel)) ggX6_highest_X6_shortest
theorem dX6_highest_0 : decode cX6_highest 0 = .ok (.aload_n 0, 1) := by decide +kernel
theorem dX6_highest_1 : decode cX6_highest 1 = .ok (.iconst 0, 1) := by decide +kernel
theorem dX6_highest_2 : decode cX6_highest 2 = .ok (.putfield 35, 3) := by decide +kernel
theorem dX6_highest_5 : decode cX6_highest 5 = .ok (.aload_n 0, 1) := by decide +kernel
theorem dX6_highest_6 : decode cX6_highest 6 = .ok (.iload_n 1, 1) := by decide +kernel
theorem dX6_highest_7 : decode cX6_highest 7 = .ok (.invokevirtual 53, 3) := by decide +kernel
theorem dX6_highest_10 : decode cX6_highest 10 = .ok (.ifCond .ne 9, 3) := by decide +kernel
theorem dX6_highest_13 : decode cX6_highest 13 = .ok (.aload_n 0, 1) := by decide +kernel
theorem dX6_highest_14 : decode cX6_highest 14 = .ok (.iconst 1, 1) := by decide +kernel
theorem dX6_highest_15 : decode cX6_highest 15 = .ok (.invokevirtual 43, 3) := by decide +kernel
theorem dX6_highest_18 : decode cX6_highest 18 = .ok (.ireturn, 1) := by decide +kernel
theorem dX6_highest_19 : decode cX6_highest 19 = .ok (.bipush 30, 2) := by decide +kernel
theorem dX6_highest_21 : decode cX6_highest 21 = .ok (.istore_n 2, 1) := by decide +kernel
theorem dX6_highest_22 : decode cX6_highest 22 = .ok (.iload_n 2, 1) := by decide +kernel
theorem dX6_highest_23 : decode cX6_highest 23 = .ok (.ifCond .lt 20, 3) := by decide +kernel
theorem dX6_highest_26 : decode cX6_highest 26 = .ok (.aload_n 0, 1) := by decide +kernel
theorem dX6_highest_27 : decode cX6_highest 27 = .ok (.iconst 0, 1) := by decide +kernel
theorem dX6_highest_28 : decode cX6_highest 28 = .ok (.iload_n 1, 1) := by decide +kernel
theorem dX6_highest_29 : decode cX6_highest 29 = .ok (.iload_n 2, 1) := by decide +kernel
theorem dX6_highest_30 : decode cX6_highest 30 = .ok (.invokevirtual 129, 3) := by decide +kernel
theorem dX6_highest_33 : decode cX6_highest 33 = .ok (.iconst (-1), 1) := by decide +kernel
theorem dX6_highest_34 : decode cX6_highest 34 = .ok (.if_icmp .ne 9, 3) := by decide +kernel
theorem dX6_highest_37 : decode cX6_highest 37 = .ok (.iinc 2 (-1), 3) := by decide +kernel
theorem dX6_highest_40 : decode cX6_highest 40 = .ok (.goto (-18), 3) := by decide +kernel
theorem dX6_highest_43 : decode cX6_highest 43 = .ok (.iload_n 2, 1) := by decide +kernel
theorem dX6_highest_44 : decode cX6_highest 44 = .ok (.ireturn, 1) := by decide +kernel
theorem dX6_mean_0 : decode cX6_mean 0 = .ok (.aload_n 0, 1) := by decide +kernel
theorem dX6_mean_1 : decode cX6_mean 1 = .ok (.iconst 0, 1) := by decide +kernel
theorem dX6_mean_2 : decode cX6_mean 2 = .ok (.putfield 35, 3) := by decide +kernel
theorem dX6_mean_5 : decode cX6_mean 5 = .ok (.iconst 0, 1) := by decide +kernel
theorem dX6_mean_6 : decode cX6_mean 6 = .ok (.istore_n 1, 1) := by decide +kernel
theorem dX6_mean_7 : decode cX6_mean 7 = .ok (.iconst 0, 1) := by decide +kernel
theorem dX6_mean_8 : decode cX6_mean 8 = .ok (.istore_n 2, 1) := by decide +kernel
theorem dX6_mean_9 : decode cX6_mean 9 = .ok (.iload_n 2, 1) := by decide +kernel
theorem dX6_mean_10 : decode cX6_mean 10 = .ok (.aload_n 0, 1) := by decide +kernel
theorem dX6_mean_11 : decode cX6_mean 11 = .ok (.getfield 28, 3) := by decide +kernel
theorem dX6_mean_14 : decode cX6_mean 14 = .ok (.getfield 90, 3) := by decide +kernel
theorem dX6_mean_17 : decode cX6_mean 17 = .ok (.if_icmp .ge 25, 3) := by decide +kernel
theorem dX6_mean_20 : decode cX6_mean 20 = .ok (.iload_n 1, 1) := by decide +kernel
theorem dX6_mean_21 : decode cX6_mean 21 = .ok (.aload_n 0, 1) := by decide +kernel
theorem dX6_mean_22 : decode cX6_mean 22 = .ok (.getfield 28, 3) := by decide +kernel
theorem dX6_mean_25 : decode cX6_mean 25 = .ok (.getfield 93, 3) := by decide +kernel
theorem dX6_mean_28 : decode cX6_mean 28 = .ok (.iconst 5, 1) := by decide +kernel
theorem dX6_mean_29 : decode cX6_mean 29 = .ok (.iload_n 2, 1) := by decide +kernel
theorem dX6_mean_30 : decode cX6_mean 30 = .ok (.imul, 1) := by decide +kernel
theorem dX6_mean_31 : decode cX6_mean 31 = .ok (.iconst 3, 1) := by decide +kernel
theorem dX6_mean_32 : decode cX6_mean 32 = .ok (.iadd, 1) := by decide +kernel
theorem dX6_mean_33 : decode cX6_mean 33 = .ok (.iaload, 1) := by decide +kernel
theorem dX6_mean_34 : decode cX6_mean 34 = .ok (.iadd, 1) := by decide +kernel
theorem dX6_mean_35 : decode cX6_mean 35 = .ok (.istore_n 1, 1) := by decide +kernel
theorem dX6_mean_36 : decode cX6_mean 36 = .ok (.iinc 2 1, 3) := by decide +kernel
theorem dX6_mean_39 : decode cX6_mean 39 = .ok (.goto (-30), 3) := by decide +kernel
theorem dX6_mean_42 : decode cX6_mean 42 = .ok (.aload_n 0, 1) := by decide +kernel
theorem dX6_mean_43 : decode cX6_mean 43 = .ok (.getfield 28, 3) := by decide +kernel
theorem dX6_mean_46 : decode cX6_mean 46 = .ok (.getfield 90, 3) := by decide +kernel
theorem dX6_mean_49 : decode cX6_mean 49 = .ok (.ifCond .ne 7, 3) := by decide +kernel
theorem dX6_mean_52 : decode cX6_mean 52 = .ok (.dconst 0, 1) := by decide +kernel
theorem dX6_mean_53 : decode cX6_mean 53 = .ok (.goto 14, 3) := by decide +kernel
theorem dX6_mean_56 : decode cX6_mean 56 = .ok (.iload_n 1, 1) := by decide +kernel
theorem dX6_mean_57 : decode cX6_mean 57 = .ok (.i2d, 1) := by decide +kernel
theorem dX6_mean_58 : decode cX6_mean 58 = .ok (.aload_n 0, 1) := by decide +kernel
theorem dX6_mean_59 : decode cX6_mean 59 = .ok (.getfield 28, 3) := by decide +kernel
theorem dX6_mean_62 : decode cX6_mean 62 = .ok (.getfield 90, 3) := by decide +kernel
theorem dX6_mean_65 : decode cX6_mean 65 = .ok (.i2d, 1) := by decide +kernel
theorem dX6_mean_66 : decode cX6_mean 66 = .ok (.ddiv, 1) := by decide +kernel
theorem dX6_mean_67 : decode cX6_mean 67 = .ok (.dreturn, 1) := by decide +kernel
set_option maxRecDepth 20000 in
theorem ggX6_digest_X6_counted : GoodIn wsX6_digest wsX6_counted := goodIn_r _ [11, 4, 5, 12, 13, 14, 15, 6, 16, 17, 18, 10, 19, 20, 40, 41, 42, 43, 44, 45, 46, 47, 48, 49, 50, 51, 52, 53, 54, 55, 56, 57, 58, 59, 60, 61, 62, 63, 64, 65, 66, 67, 68, 69, 70] (by decide +kernel) (by decide +kernel)
set_option maxRecDepth 20000 in
theorem gX6_digest_X6_counted : GoodIn wsX6_digest (wsV RX6 109 RX6 yX6_counted wsX6_counted) := goodIn_app (goodIn_of _ (by decide +kernel)) ggX6_digest_X6_counted
set_option maxRecDepth 20000 in
theorem ggX6_digest_X6_chamberTold : GoodIn wsX6_digest wsX6_chamberTold := goodIn_r _ [24, 13, 5, 12, 25, 26, 27, 10, 28, 20, 16, 17, 18, 19, 40, 41, 42, 43, 44, 45, 46, 47, 48, 49] (by decide +kernel) (by decide +kernel)
set_option maxRecDepth 20000 in
theorem gX6_digest_X6_chamberTold : GoodIn wsX6_digest (wsV RX6 70 RX6 yX6_chamberTold wsX6_chamberTold) := goodIn_app (goodIn_of _ (by decide +kernel)) ggX6_digest_X6_chamberTold
set_option maxRecDepth 20000 in
theorem ggX6_digest_X6_passageTold : GoodIn wsX6_digest wsX6_passageTold := goodIn_r _ [32, 20, 12, 16, 17, 18, 10, 19, 13, 40, 41, 42, 43, 44, 45, 46, 47, 48, 49] (by decide +kernel) (by decide +kernel)
set_option maxRecDepth 20000 in
theorem gX6_digest_X6_passageTold : GoodIn wsX6_digest (wsV RX6 74 RX6 yX6_passageTold wsX6_passageTold) := goodIn_app (goodIn_of _ (by decide +kernel)) ggX6_digest_X6_passageTold
set_option maxRecDepth 20000 in
theorem ggX6_digest_X5_isInOrder : GoodIn wsX6_digest wsX5_isInOrder := goodIn_r _ [37, 38, 39, 50, 51, 52, 53, 54, 55, 56, 57, 58, 59, 60, 61, 62, 63, 64, 65, 66, 67, 68, 69, 70] (by decide +kernel) (by decide +kernel)
set_option maxRecDepth 20000 in
theorem gX6_digest_X5_isInOrder : GoodIn wsX6_digest (wsV RX6 96 RX5 yX5_isInOrder wsX5_isInOrder) := goodIn_app (goodIn_of _ (by decide +kernel)) ggX6_digest_X5_isInOrder
theorem dX6_digest_0 : decode cX6_digest 0 = .ok (.aload_n 0, 1) := by decide +kernel
theorem dX6_digest_1 : decode cX6_digest 1 = .ok (.iconst 0, 1) := by decide +kernel
theorem dX6_digest_2 : decode cX6_digest 2 = .ok (.putfield 35, 3) := by decide +kernel
theorem dX6_digest_5 : decode cX6_digest 5 = .ok (.ldc2_w 133, 3) := by decide +kernel
theorem dX6_digest_8 : decode cX6_digest 8 = .ok (.lstore_n 1, 1) := by decide +kernel
theorem dX6_digest_9 : decode cX6_digest 9 = .ok (.iconst 0, 1) := by decide +kernel
theorem dX6_digest_10 : decode cX6_digest 10 = .ok (.istore_n 3, 1) := by decide +kernel
theorem dX6_digest_11 : decode cX6_digest 11 = .ok (.iload_n 3, 1) := by decide +kernel
theorem dX6_digest_12 : decode cX6_digest 12 = .ok (.bipush 10, 2) := by decide +kernel
theorem dX6_digest_14 : decode cX6_digest 14 = .ok (.if_icmp .ge 22, 3) := by decide +kernel
theorem dX6_digest_17 : decode cX6_digest 17 = .ok (.lload_n 1, 1) := by decide +kernel
theorem dX6_digest_18 : decode cX6_digest 18 = .ok (.ldc2_w 135, 3) := by decide +kernel
theorem dX6_digest_21 : decode cX6_digest 21 = .ok (.lmul, 1) := by decide +kernel
theorem dX6_digest_22 : decode cX6_digest 22 = .ok (.aload_n 0, 1) := by decide +kernel
theorem dX6_digest_23 : decode cX6_digest 23 = .ok (.iload_n 3, 1) := by decide +kernel
theorem dX6_digest_24 : decode cX6_digest 24 = .ok (.invokevirtual 109, 3) := by decide +kernel
theorem dX6_digest_27 : decode cX6_digest 27 = .ok (.i2l, 1) := by decide +kernel
theorem dX6_digest_28 : decode cX6_digest 28 = .ok (.ladd, 1) := by decide +kernel
theorem dX6_digest_29 : decode cX6_digest 29 = .ok (.lstore_n 1, 1) := by decide +kernel
theorem dX6_digest_30 : decode cX6_digest 30 = .ok (.iinc 3 1, 3) := by decide +kernel
theorem dX6_digest_33 : decode cX6_digest 33 = .ok (.goto (-22), 3) := by decide +kernel
theorem dX6_digest_36 : decode cX6_digest 36 = .ok (.iconst 0, 1) := by decide +kernel
theorem dX6_digest_37 : decode cX6_digest 37 = .ok (.istore_n 3, 1) := by decide +kernel
theorem dX6_digest_38 : decode cX6_digest 38 = .ok (.iload_n 3, 1) := by decide +kernel
theorem dX6_digest_39 : decode cX6_digest 39 = .ok (.aload_n 0, 1) := by decide +kernel
theorem dX6_digest_40 : decode cX6_digest 40 = .ok (.getfield 9, 3) := by decide +kernel
theorem dX6_digest_43 : decode cX6_digest 43 = .ok (.if_icmp .ge 40, 3) := by decide +kernel
theorem dX6_digest_46 : decode cX6_digest 46 = .ok (.iconst 0, 1) := by decide +kernel
theorem dX6_digest_47 : decode cX6_digest 47 = .ok (.istore 4, 2) := by decide +kernel
theorem dX6_digest_49 : decode cX6_digest 49 = .ok (.iload 4, 2) := by decide +kernel
theorem dX6_digest_51 : decode cX6_digest 51 = .ok (.bipush 7, 2) := by decide +kernel
theorem dX6_digest_53 : decode cX6_digest 53 = .ok (.if_icmp .ge 24, 3) := by decide +kernel
theorem dX6_digest_56 : decode cX6_digest 56 = .ok (.lload_n 1, 1) := by decide +kernel
theorem dX6_digest_57 : decode cX6_digest 57 = .ok (.ldc2_w 135, 3) := by decide +kernel
theorem dX6_digest_60 : decode cX6_digest 60 = .ok (.lmul, 1) := by decide +kernel
theorem dX6_digest_61 : decode cX6_digest 61 = .ok (.aload_n 0, 1) := by decide +kernel
theorem dX6_digest_62 : decode cX6_digest 62 = .ok (.iload_n 3, 1) := by decide +kernel
theorem dX6_digest_63 : decode cX6_digest 63 = .ok (.iload 4, 2) := by decide +kernel
theorem dX6_digest_65 : decode cX6_digest 65 = .ok (.invokevirtual 70, 3) := by decide +kernel
theorem dX6_digest_68 : decode cX6_digest 68 = .ok (.i2l, 1) := by decide +kernel
theorem dX6_digest_69 : decode cX6_digest 69 = .ok (.ladd, 1) := by decide +kernel
theorem dX6_digest_70 : decode cX6_digest 70 = .ok (.lstore_n 1, 1) := by decide +kernel
theorem dX6_digest_71 : decode cX6_digest 71 = .ok (.iinc 4 1, 3) := by decide +kernel
theorem dX6_digest_74 : decode cX6_digest 74 = .ok (.goto (-25), 3) := by decide +kernel
theorem dX6_digest_77 : decode cX6_digest 77 = .ok (.iinc 3 1, 3) := by decide +kernel
theorem dX6_digest_80 : decode cX6_digest 80 = .ok (.goto (-42), 3) := by decide +kernel
theorem dX6_digest_83 : decode cX6_digest 83 = .ok (.iconst 0, 1) := by decide +kernel
theorem dX6_digest_84 : decode cX6_digest 84 = .ok (.istore_n 3, 1) := by decide +kernel
theorem dX6_digest_85 : decode cX6_digest 85 = .ok (.iload_n 3, 1) := by decide +kernel
theorem dX6_digest_86 : decode cX6_digest 86 = .ok (.aload_n 0, 1) := by decide +kernel
theorem dX6_digest_87 : decode cX6_digest 87 = .ok (.getfield 57, 3) := by decide +kernel
theorem dX6_digest_90 : decode cX6_digest 90 = .ok (.if_icmp .ge 39, 3) := by decide +kernel
theorem dX6_digest_93 : decode cX6_digest 93 = .ok (.iconst 0, 1) := by decide +kernel
theorem dX6_digest_94 : decode cX6_digest 94 = .ok (.istore 4, 2) := by decide +kernel
theorem dX6_digest_96 : decode cX6_digest 96 = .ok (.iload 4, 2) := by decide +kernel
theorem dX6_digest_98 : decode cX6_digest 98 = .ok (.iconst 5, 1) := by decide +kernel
theorem dX6_digest_99 : decode cX6_digest 99 = .ok (.if_icmp .ge 24, 3) := by decide +kernel
theorem dX6_digest_102 : decode cX6_digest 102 = .ok (.lload_n 1, 1) := by decide +kernel
theorem dX6_digest_103 : decode cX6_digest 103 = .ok (.ldc2_w 135, 3) := by decide +kernel
theorem dX6_digest_106 : decode cX6_digest 106 = .ok (.lmul, 1) := by decide +kernel
theorem dX6_digest_107 : decode cX6_digest 107 = .ok (.aload_n 0, 1) := by decide +kernel
theorem dX6_digest_108 : decode cX6_digest 108 = .ok (.iload_n 3, 1) := by decide +kernel
theorem dX6_digest_109 : decode cX6_digest 109 = .ok (.iload 4, 2) := by decide +kernel
theorem dX6_digest_111 : decode cX6_digest 111 = .ok (.invokevirtual 74, 3) := by decide +kernel
theorem dX6_digest_114 : decode cX6_digest 114 = .ok (.i2l, 1) := by decide +kernel
theorem dX6_digest_115 : decode cX6_digest 115 = .ok (.ladd, 1) := by decide +kernel
theorem dX6_digest_116 : decode cX6_digest 116 = .ok (.lstore_n 1, 1) := by decide +kernel
theorem dX6_digest_117 : decode cX6_digest 117 = .ok (.iinc 4 1, 3) := by decide +kernel
theorem dX6_digest_120 : decode cX6_digest 120 = .ok (.goto (-24), 3) := by decide +kernel
theorem dX6_digest_123 : decode cX6_digest 123 = .ok (.iinc 3 1, 3) := by decide +kernel
theorem dX6_digest_126 : decode cX6_digest 126 = .ok (.goto (-41), 3) := by decide +kernel
theorem dX6_digest_129 : decode cX6_digest 129 = .ok (.iconst 0, 1) := by decide +kernel
theorem dX6_digest_130 : decode cX6_digest 130 = .ok (.istore_n 3, 1) := by decide +kernel
theorem dX6_digest_131 : decode cX6_digest 131 = .ok (.iload_n 3, 1) := by decide +kernel
theorem dX6_digest_132 : decode cX6_digest 132 = .ok (.iconst 5, 1) := by decide +kernel
theorem dX6_digest_133 : decode cX6_digest 133 = .ok (.aload_n 0, 1) := by decide +kernel
theorem dX6_digest_134 : decode cX6_digest 134 = .ok (.getfield 28, 3) := by decide +kernel
theorem dX6_digest_137 : decode cX6_digest 137 = .ok (.getfield 90, 3) := by decide +kernel
theorem dX6_digest_140 : decode cX6_digest 140 = .ok (.imul, 1) := by decide +kernel
theorem dX6_digest_141 : decode cX6_digest 141 = .ok (.if_icmp .ge 26, 3) := by decide +kernel
theorem dX6_digest_144 : decode cX6_digest 144 = .ok (.lload_n 1, 1) := by decide +kernel
theorem dX6_digest_145 : decode cX6_digest 145 = .ok (.ldc2_w 135, 3) := by decide +kernel
theorem dX6_digest_148 : decode cX6_digest 148 = .ok (.lmul, 1) := by decide +kernel
theorem dX6_digest_149 : decode cX6_digest 149 = .ok (.aload_n 0, 1) := by decide +kernel
theorem dX6_digest_150 : decode cX6_digest 150 = .ok (.getfield 28, 3) := by decide +kernel
theorem dX6_digest_153 : decode cX6_digest 153 = .ok (.getfield 93, 3) := by decide +kernel
theorem dX6_digest_156 : decode cX6_digest 156 = .ok (.iload_n 3, 1) := by decide +kernel
theorem dX6_digest_157 : decode cX6_digest 157 = .ok (.iaload, 1) := by decide +kernel
theorem dX6_digest_158 : decode cX6_digest 158 = .ok (.i2l, 1) := by decide +kernel
theorem dX6_digest_159 : decode cX6_digest 159 = .ok (.ladd, 1) := by decide +kernel
theorem dX6_digest_160 : decode cX6_digest 160 = .ok (.lstore_n 1, 1) := by decide +kernel
theorem dX6_digest_161 : decode cX6_digest 161 = .ok (.iinc 3 1, 3) := by decide +kernel
theorem dX6_digest_164 : decode cX6_digest 164 = .ok (.goto (-33), 3) := by decide +kernel
theorem dX6_digest_167 : decode cX6_digest 167 = .ok (.lload_n 1, 1) := by decide +kernel
theorem dX6_digest_168 : decode cX6_digest 168 = .ok (.ldc2_w 135, 3) := by decide +kernel
theorem dX6_digest_171 : decode cX6_digest 171 = .ok (.lmul, 1) := by decide +kernel
theorem dX6_digest_172 : decode cX6_digest 172 = .ok (.aload_n 0, 1) := by decide +kernel
theorem dX6_digest_173 : decode cX6_digest 173 = .ok (.getfield 28, 3) := by decide +kernel
theorem dX6_digest_176 : decode cX6_digest 176 = .ok (.invokevirtual 96, 3) := by decide +kernel
theorem dX6_digest_179 : decode cX6_digest 179 = .ok (.ifCond .eq 7, 3) := by decide +kernel
theorem dX6_digest_182 : decode cX6_digest 182 = .ok (.iconst 1, 1) := by decide +kernel
theorem dX6_digest_183 : decode cX6_digest 183 = .ok (.goto 4, 3) := by decide +kernel
theorem dX6_digest_186 : decode cX6_digest 186 = .ok (.iconst 0, 1) := by decide +kernel
theorem dX6_digest_187 : decode cX6_digest 187 = .ok (.i2l, 1) := by decide +kernel
theorem dX6_digest_188 : decode cX6_digest 188 = .ok (.ladd, 1) := by decide +kernel
theorem dX6_digest_189 : decode cX6_digest 189 = .ok (.lreturn, 1) := by decide +kernel
theorem dJ9_max_7cf53_0 : decode cJ9_max_7cf53 0 = .ok (.iload_n 0, 1) := by decide +kernel
theorem dJ9_max_7cf53_1 : decode cJ9_max_7cf53 1 = .ok (.iload_n 1, 1) := by decide +kernel
theorem dJ9_max_7cf53_2 : decode cJ9_max_7cf53 2 = .ok (.if_icmp .lt 7, 3) := by decide +kernel
theorem dJ9_max_7cf53_5 : decode cJ9_max_7cf53 5 = .ok (.iload_n 0, 1) := by decide +kernel
theorem dJ9_max_7cf53_6 : decode cJ9_max_7cf53 6 = .ok (.goto 4, 3) := by decide +kernel
theorem dJ9_max_7cf53_9 : decode cJ9_max_7cf53 9 = .ok (.iload_n 1, 1) := by decide +kernel
theorem dJ9_max_7cf53_10 : decode cJ9_max_7cf53 10 = .ok (.ireturn, 1) := by decide +kernel
theorem dJ9_min_7cf53_0 : decode cJ9_min_7cf53 0 = .ok (.iload_n 0, 1) := by decide +kernel
theorem dJ9_min_7cf53_1 : decode cJ9_min_7cf53 1 = .ok (.iload_n 1, 1) := by decide +kernel
theorem dJ9_min_7cf53_2 : decode cJ9_min_7cf53 2 = .ok (.if_icmp .gt 7, 3) := by decide +kernel
theorem dJ9_min_7cf53_5 : decode cJ9_min_7cf53 5 = .ok (.iload_n 0, 1) := by decide +kernel
theorem dJ9_min_7cf53_6 : decode cJ9_min_7cf53 6 = .ok (.goto 4, 3) := by decide +kernel
theorem dJ9_min_7cf53_9 : decode cJ9_min_7cf53 9 = .ok (.iload_n 1, 1) := by decide +kernel
theorem dJ9_min_7cf53_10 : decode cJ9_min_7cf53 10 = .ok (.ireturn, 1) := by decide +kernel
theorem dJ7_fill_53178_0 : decode cJ7_fill_53178 0 = .ok (.iconst 0, 1) := by decide +kernel
theorem dJ7_fill_53178_1 : decode cJ7_fill_53178 1 = .ok (.istore_n 2, 1) := by decide +kernel
theorem dJ7_fill_53178_2 : decode cJ7_fill_53178 2 = .ok (.aload_n 0, 1) := by decide +kernel
theorem dJ7_fill_53178_3 : decode cJ7_fill_53178 3 = .ok (.arraylength, 1) := by decide +kernel
theorem dJ7_fill_53178_4 : decode cJ7_fill_53178 4 = .ok (.istore_n 3, 1) := by decide +kernel
theorem dJ7_fill_53178_5 : decode cJ7_fill_53178 5 = .ok (.iload_n 2, 1) := by decide +kernel
theorem dJ7_fill_53178_6 : decode cJ7_fill_53178 6 = .ok (.iload_n 3, 1) := by decide +kernel
theorem dJ7_fill_53178_7 : decode cJ7_fill_53178 7 = .ok (.if_icmp .ge 13, 3) := by decide +kernel
theorem dJ7_fill_53178_10 : decode cJ7_fill_53178 10 = .ok (.aload_n 0, 1) := by decide +kernel
theorem dJ7_fill_53178_11 : decode cJ7_fill_53178 11 = .ok (.iload_n 2, 1) := by decide +kernel
theorem dJ7_fill_53178_12 : decode cJ7_fill_53178 12 = .ok (.iload_n 1, 1) := by decide +kernel
theorem dJ7_fill_53178_13 : decode cJ7_fill_53178 13 = .ok (.iastore, 1) := by decide +kernel
theorem dJ7_fill_53178_14 : decode cJ7_fill_53178 14 = .ok (.iinc 2 1, 3) := by decide +kernel
theorem dJ7_fill_53178_17 : decode cJ7_fill_53178 17 = .ok (.goto (-12), 3) := by decide +kernel
theorem dJ7_fill_53178_20 : decode cJ7_fill_53178 20 = .ok (.return_, 1) := by decide +kernel
set_option maxRecDepth 20000 in
theorem ggL_addChamber_X4_addChamber : GoodIn wsL_addChamber wsX4_addChamber := goodIn_ca (goodIn_ca (goodIn_r _ [7, 8, 9, 10, 11, 12, 6, 13, 14, 15, 16, 17, 18, 19, 20, 21, 22, 23, 24, 25, 26, 27, 28, 29, 30, 31, 32, 33, 34, 35, 36, 37, 38, 39, 40, 41, 42, 43, 44, 45, 46, 47, 48, 49] (by decide +kernel) (by decide +kernel)) (goodIn_sub (fun _ h => List.mem_cons_of_mem _ (List.mem_append_left _ (List.mem_append_right _ h))) (by decide +kernel))) (goodIn_sub (fun _ h => List.mem_cons_of_mem _ (List.mem_append_right _ h)) (by decide +kernel))
set_option maxRecDepth 20000 in
theorem gL_addChamber_X4_addChamber : GoodIn wsL_addChamber (wsV RL 7 RX4 yX4_addChamber wsX4_addChamber) := goodIn_app (goodIn_of _ (by decide +kernel)) ggL_addChamber_X4_addChamber
theorem dL_addChamber_0 : decode cL_addChamber 0 = .ok (.aload 4, 2) := by decide +kernel
theorem dL_addChamber_2 : decode cL_addChamber 2 = .ok (.iconst 0, 1) := by decide +kernel
theorem dL_addChamber_3 : decode cL_addChamber 3 = .ok (.aload_n 0, 1) := by decide +kernel
theorem dL_addChamber_4 : decode cL_addChamber 4 = .ok (.iload_n 1, 1) := by decide +kernel
theorem dL_addChamber_5 : decode cL_addChamber 5 = .ok (.iload_n 2, 1) := by decide +kernel
theorem dL_addChamber_6 : decode cL_addChamber 6 = .ok (.iload_n 3, 1) := by decide +kernel
theorem dL_addChamber_7 : decode cL_addChamber 7 = .ok (.invokevirtual 7, 3) := by decide +kernel
theorem dL_addChamber_10 : decode cL_addChamber 10 = .ok (.i2l, 1) := by decide +kernel
theorem dL_addChamber_11 : decode cL_addChamber 11 = .ok (.lastore, 1) := by decide +kernel
theorem dL_addChamber_12 : decode cL_addChamber 12 = .ok (.goto 11, 3) := by decide +kernel
theorem dL_addChamber_15 : decode cL_addChamber 15 = .ok (.astore 5, 2) := by decide +kernel
theorem dL_addChamber_17 : decode cL_addChamber 17 = .ok (.iconst 1, 1) := by decide +kernel
theorem dL_addChamber_18 : decode cL_addChamber 18 = .ok (.ireturn, 1) := by decide +kernel
theorem dL_addChamber_19 : decode cL_addChamber 19 = .ok (.astore 5, 2) := by decide +kernel
theorem dL_addChamber_21 : decode cL_addChamber 21 = .ok (.iconst 2, 1) := by decide +kernel
theorem dL_addChamber_22 : decode cL_addChamber 22 = .ok (.ireturn, 1) := by decide +kernel
theorem dL_addChamber_23 : decode cL_addChamber 23 = .ok (.iconst 0, 1) := by decide +kernel
theorem dL_addChamber_24 : decode cL_addChamber 24 = .ok (.ireturn, 1) := by decide +kernel
set_option maxRecDepth 20000 in
theorem ggL_addPassage_X4_addPassage : GoodIn wsL_addPassage wsX4_addPassage := goodIn_ca (goodIn_ca (goodIn_ca (goodIn_r _ [8, 9, 10, 11, 12, 13, 14, 15, 16, 17, 18, 7, 19, 20, 21, 22, 23, 24, 25, 26, 27, 28, 29, 30, 31, 32, 33, 34, 35, 36, 37, 38, 39, 40, 41, 42, 43, 44, 45, 46, 47, 48, 49, 50, 51, 52, 53, 54, 55, 56, 57, 58, 59, 60, 61, 62, 63, 64, 65, 66, 67] (by decide +kernel) (by decide +kernel)) (goodIn_sub (fun _ h => List.mem_cons_of_mem _ (List.mem_append_left _ (List.mem_append_left _ (List.mem_append_right _ h)))) (by decide +kernel))) (goodIn_sub (fun _ h => List.mem_cons_of_mem _ (List.mem_append_left _ (List.mem_append_right _ h))) (by decide +kernel))) (goodIn_sub (fun _ h => List.mem_cons_of_mem _ (List.mem_append_right _ h)) (by decide +kernel))
set_option maxRecDepth 20000 in
theorem gL_addPassage_X4_addPassage : GoodIn wsL_addPassage (wsV RL 17 RX4 yX4_addPassage wsX4_addPassage) := goodIn_app (goodIn_of _ (by decide +kernel)) ggL_addPassage_X4_addPassage
theorem dL_addPassage_0 : decode cL_addPassage 0 = .ok (.aload 5, 2) := by decide +kernel
theorem dL_addPassage_2 : decode cL_addPassage 2 = .ok (.iconst 0, 1) := by decide +kernel
theorem dL_addPassage_3 : decode cL_addPassage 3 = .ok (.aload_n 0, 1) := by decide +kernel
theorem dL_addPassage_4 : decode cL_addPassage 4 = .ok (.iload_n 1, 1) := by decide +kernel
theorem dL_addPassage_5 : decode cL_addPassage 5 = .ok (.iload_n 2, 1) := by decide +kernel
theorem dL_addPassage_6 : decode cL_addPassage 6 = .ok (.iload_n 3, 1) := by decide +kernel
theorem dL_addPassage_7 : decode cL_addPassage 7 = .ok (.iload 4, 2) := by decide +kernel
theorem dL_addPassage_9 : decode cL_addPassage 9 = .ok (.invokevirtual 17, 3) := by decide +kernel
theorem dL_addPassage_12 : decode cL_addPassage 12 = .ok (.i2l, 1) := by decide +kernel
theorem dL_addPassage_13 : decode cL_addPassage 13 = .ok (.lastore, 1) := by decide +kernel
theorem dL_addPassage_14 : decode cL_addPassage 14 = .ok (.goto 15, 3) := by decide +kernel
theorem dL_addPassage_17 : decode cL_addPassage 17 = .ok (.astore 6, 2) := by decide +kernel
theorem dL_addPassage_19 : decode cL_addPassage 19 = .ok (.iconst 1, 1) := by decide +kernel
theorem dL_addPassage_20 : decode cL_addPassage 20 = .ok (.ireturn, 1) := by decide +kernel
theorem dL_addPassage_21 : decode cL_addPassage 21 = .ok (.astore 6, 2) := by decide +kernel
theorem dL_addPassage_23 : decode cL_addPassage 23 = .ok (.iconst 2, 1) := by decide +kernel
theorem dL_addPassage_24 : decode cL_addPassage 24 = .ok (.ireturn, 1) := by decide +kernel
theorem dL_addPassage_25 : decode cL_addPassage 25 = .ok (.astore 6, 2) := by decide +kernel
theorem dL_addPassage_27 : decode cL_addPassage 27 = .ok (.iconst 3, 1) := by decide +kernel
theorem dL_addPassage_28 : decode cL_addPassage 28 = .ok (.ireturn, 1) := by decide +kernel
theorem dL_addPassage_29 : decode cL_addPassage 29 = .ok (.iconst 0, 1) := by decide +kernel
theorem dL_addPassage_30 : decode cL_addPassage 30 = .ok (.ireturn, 1) := by decide +kernel
set_option maxRecDepth 20000 in
theorem ggL_setWater_X4_setWater : GoodIn wsL_setWater wsX4_setWater := goodIn_ca (goodIn_r _ [6, 7, 8, 9, 5, 10, 11, 12, 13, 14, 15, 16, 17, 18, 19, 20, 21, 22, 23, 24, 25, 26, 27, 28, 29, 30, 31, 32, 33, 34, 35, 36, 37] (by decide +kernel) (by decide +kernel)) (goodIn_sub (fun _ h => List.mem_cons_of_mem _ (List.mem_append_right _ h)) (by decide +kernel))
set_option maxRecDepth 20000 in
theorem gL_setWater_X4_setWater : GoodIn wsL_setWater (wsV RL 23 RX4 yX4_setWater wsX4_setWater) := goodIn_app (goodIn_of _ (by decide +kernel)) ggL_setWater_X4_setWater
theorem dL_setWater_0 : decode cL_setWater 0 = .ok (.aload_n 2, 1) := by decide +kernel
theorem dL_setWater_1 : decode cL_setWater 1 = .ok (.iconst 0, 1) := by decide +kernel
theorem dL_setWater_2 : decode cL_setWater 2 = .ok (.aload_n 0, 1) := by decide +kernel
theorem dL_setWater_3 : decode cL_setWater 3 = .ok (.iload_n 1, 1) := by decide +kernel
theorem dL_setWater_4 : decode cL_setWater 4 = .ok (.invokevirtual 23, 3) := by decide +kernel
theorem dL_setWater_7 : decode cL_setWater 7 = .ok (.i2l, 1) := by decide +kernel
theorem dL_setWater_8 : decode cL_setWater 8 = .ok (.lastore, 1) := by decide +kernel
theorem dL_setWater_9 : decode cL_setWater 9 = .ok (.goto 6, 3) := by decide +kernel
theorem dL_setWater_12 : decode cL_setWater 12 = .ok (.astore_n 3, 1) := by decide +kernel
theorem dL_setWater_13 : decode cL_setWater 13 = .ok (.iconst 1, 1) := by decide +kernel
theorem dL_setWater_14 : decode cL_setWater 14 = .ok (.ireturn, 1) := by decide +kernel
theorem dL_setWater_15 : decode cL_setWater 15 = .ok (.iconst 0, 1) := by decide +kernel
theorem dL_setWater_16 : decode cL_setWater 16 = .ok (.ireturn, 1) := by decide +kernel
set_option maxRecDepth 20000 in
theorem ggL_setBats_X4_setBats : GoodIn wsL_setBats wsX4_setBats := goodIn_ca (goodIn_ca (goodIn_r _ [7, 8, 9, 10, 11, 12, 13, 14, 15, 6, 16, 17, 18, 19, 20, 21, 22, 23, 24, 25, 26, 27, 28, 29, 30, 31, 32, 33, 34, 35, 36, 37, 38, 39, 40, 41, 42, 43, 44, 45, 46, 47, 48, 49] (by decide +kernel) (by decide +kernel)) (goodIn_sub (fun _ h => List.mem_cons_of_mem _ (List.mem_append_left _ (List.mem_append_right _ h))) (by decide +kernel))) (goodIn_sub (fun _ h => List.mem_cons_of_mem _ (List.mem_append_right _ h)) (by decide +kernel))
set_option maxRecDepth 20000 in
theorem gL_setBats_X4_setBats : GoodIn wsL_setBats (wsV RL 27 RX4 yX4_setBats wsX4_setBats) := goodIn_app (goodIn_of _ (by decide +kernel)) ggL_setBats_X4_setBats
theorem dL_setBats_0 : decode cL_setBats 0 = .ok (.aload_n 3, 1) := by decide +kernel
theorem dL_setBats_1 : decode cL_setBats 1 = .ok (.iconst 0, 1) := by decide +kernel
theorem dL_setBats_2 : decode cL_setBats 2 = .ok (.aload_n 0, 1) := by decide +kernel
theorem dL_setBats_3 : decode cL_setBats 3 = .ok (.iload_n 1, 1) := by decide +kernel
theorem dL_setBats_4 : decode cL_setBats 4 = .ok (.iload_n 2, 1) := by decide +kernel
theorem dL_setBats_5 : decode cL_setBats 5 = .ok (.invokevirtual 27, 3) := by decide +kernel
theorem dL_setBats_8 : decode cL_setBats 8 = .ok (.i2l, 1) := by decide +kernel
theorem dL_setBats_9 : decode cL_setBats 9 = .ok (.lastore, 1) := by decide +kernel
theorem dL_setBats_10 : decode cL_setBats 10 = .ok (.goto 11, 3) := by decide +kernel
theorem dL_setBats_13 : decode cL_setBats 13 = .ok (.astore 4, 2) := by decide +kernel
theorem dL_setBats_15 : decode cL_setBats 15 = .ok (.iconst 1, 1) := by decide +kernel
theorem dL_setBats_16 : decode cL_setBats 16 = .ok (.ireturn, 1) := by decide +kernel
theorem dL_setBats_17 : decode cL_setBats 17 = .ok (.astore 4, 2) := by decide +kernel
theorem dL_setBats_19 : decode cL_setBats 19 = .ok (.iconst 2, 1) := by decide +kernel
theorem dL_setBats_20 : decode cL_setBats 20 = .ok (.ireturn, 1) := by decide +kernel
theorem dL_setBats_21 : decode cL_setBats 21 = .ok (.iconst 0, 1) := by decide +kernel
theorem dL_setBats_22 : decode cL_setBats 22 = .ok (.ireturn, 1) := by decide +kernel
set_option maxRecDepth 20000 in
theorem ggL_setClapper_X4_setClapper : GoodIn wsL_setClapper wsX4_setClapper := goodIn_ca (goodIn_ca (goodIn_r _ [7, 8, 9, 10, 11, 12, 13, 14, 15, 6, 16, 17, 18, 19, 20, 21, 22, 23, 24, 25, 26, 27, 28, 29, 30, 31, 32, 33, 34, 35, 36, 37, 38, 39, 40, 41, 42, 43, 44, 45, 46, 47, 48, 49, 50, 51, 52, 53, 54, 55] (by decide +kernel) (by decide +kernel)) (goodIn_sub (fun _ h => List.mem_cons_of_mem _ (List.mem_append_left _ (List.mem_append_right _ h))) (by decide +kernel))) (goodIn_sub (fun _ h => List.mem_cons_of_mem _ (List.mem_append_right _ h)) (by decide +kernel))
set_option maxRecDepth 20000 in
theorem gL_setClapper_X4_setClapper : GoodIn wsL_setClapper (wsV RL 31 RX4 yX4_setClapper wsX4_setClapper) := goodIn_app (goodIn_of _ (by decide +kernel)) ggL_setClapper_X4_setClapper
theorem dL_setClapper_0 : decode cL_setClapper 0 = .ok (.aload 4, 2) := by decide +kernel
theorem dL_setClapper_2 : decode cL_setClapper 2 = .ok (.iconst 0, 1) := by decide +kernel
theorem dL_setClapper_3 : decode cL_setClapper 3 = .ok (.aload_n 0, 1) := by decide +kernel
theorem dL_setClapper_4 : decode cL_setClapper 4 = .ok (.iload_n 1, 1) := by decide +kernel
theorem dL_setClapper_5 : decode cL_setClapper 5 = .ok (.iload_n 2, 1) := by decide +kernel
theorem dL_setClapper_6 : decode cL_setClapper 6 = .ok (.iload_n 3, 1) := by decide +kernel
theorem dL_setClapper_7 : decode cL_setClapper 7 = .ok (.invokevirtual 31, 3) := by decide +kernel
theorem dL_setClapper_10 : decode cL_setClapper 10 = .ok (.i2l, 1) := by decide +kernel
theorem dL_setClapper_11 : decode cL_setClapper 11 = .ok (.lastore, 1) := by decide +kernel
theorem dL_setClapper_12 : decode cL_setClapper 12 = .ok (.goto 11, 3) := by decide +kernel
theorem dL_setClapper_15 : decode cL_setClapper 15 = .ok (.astore 5, 2) := by decide +kernel
theorem dL_setClapper_17 : decode cL_setClapper 17 = .ok (.iconst 1, 1) := by decide +kernel
theorem dL_setClapper_18 : decode cL_setClapper 18 = .ok (.ireturn, 1) := by decide +kernel
theorem dL_setClapper_19 : decode cL_setClapper 19 = .ok (.astore 5, 2) := by decide +kernel
theorem dL_setClapper_21 : decode cL_setClapper 21 = .ok (.iconst 2, 1) := by decide +kernel
theorem dL_setClapper_22 : decode cL_setClapper 22 = .ok (.ireturn, 1) := by decide +kernel
theorem dL_setClapper_23 : decode cL_setClapper 23 = .ok (.iconst 0, 1) := by decide +kernel
theorem dL_setClapper_24 : decode cL_setClapper 24 = .ok (.ireturn, 1) := by decide +kernel
set_option maxRecDepth 20000 in
theorem ggL_setEar_X4_setEar : GoodIn wsL_setEar wsX4_setEar := goodIn_ca (goodIn_r _ [6, 7, 8, 9, 5, 10, 11, 12, 13, 14, 15, 16, 17, 18, 19, 20, 21, 22] (by decide +kernel) (by decide +kernel)) (goodIn_sub (fun _ h => List.mem_cons_of_mem _ (List.mem_append_right _ h)) (by decide +kernel))
set_option maxRecDepth 20000 in
theorem gL_setEar_X4_setEar : GoodIn wsL_setEar (wsV RL 34 RX4 yX4_setEar wsX4_setEar) := goodIn_app (goodIn_of _ (by decide +kernel)) ggL_setEar_X4_setEar
theorem dL_setEar_0 : decode cL_setEar 0 = .ok (.aload_n 2, 1) := by decide +kernel
theorem dL_setEar_1 : decode cL_setEar 1 = .ok (.iconst 0, 1) := by decide +kernel
theorem dL_setEar_2 : decode cL_setEar 2 = .ok (.aload_n 0, 1) := by decide +kernel
theorem dL_setEar_3 : decode cL_setEar 3 = .ok (.iload_n 1, 1) := by decide +kernel
theorem dL_setEar_4 : decode cL_setEar 4 = .ok (.invokevirtual 34, 3) := by decide +kernel
theorem dL_setEar_7 : decode cL_setEar 7 = .ok (.i2l, 1) := by decide +kernel
theorem dL_setEar_8 : decode cL_setEar 8 = .ok (.lastore, 1) := by decide +kernel
theorem dL_setEar_9 : decode cL_setEar 9 = .ok (.goto 6, 3) := by decide +kernel
theorem dL_setEar_12 : decode cL_setEar 12 = .ok (.astore_n 3, 1) := by decide +kernel
theorem dL_setEar_13 : decode cL_setEar 13 = .ok (.iconst 1, 1) := by decide +kernel
theorem dL_setEar_14 : decode cL_setEar 14 = .ok (.ireturn, 1) := by decide +kernel
theorem dL_setEar_15 : decode cL_setEar 15 = .ok (.iconst 0, 1) := by decide +kernel
theorem dL_setEar_16 : decode cL_setEar 16 = .ok (.ireturn, 1) := by decide +kernel
set_option maxRecDepth 20000 in
theorem ggL_chamber_X4_chamber : GoodIn wsL_chamber wsX4_chamber := goodIn_ca (goodIn_r _ [6, 7, 8, 9, 10, 11, 12, 13, 14, 5, 15, 16, 17, 18, 19, 20, 21, 22, 23, 24, 25, 26, 27, 28, 29, 30, 31, 32, 33, 34, 35, 36, 37, 38, 39, 40, 41, 42, 43, 44, 45, 46, 47, 48, 49, 50, 51, 52, 53, 54, 55, 56, 57, 58, 59, 60, 61, 62, 63, 64, 65] (by decide +kernel) (by decide +kernel)) (goodIn_sub (fun _ h => List.mem_cons_of_mem _ (List.mem_append_right _ h)) (by decide +kernel))
set_option maxRecDepth 20000 in
theorem gL_chamber_X4_chamber : GoodIn wsL_chamber (wsV RL 37 RX4 yX4_chamber wsX4_chamber) := goodIn_app (goodIn_of _ (by decide +kernel)) ggL_chamber_X4_chamber
theorem dL_chamber_0 : decode cL_chamber 0 = .ok (.aload_n 3, 1) := by decide +kernel
theorem dL_chamber_1 : decode cL_chamber 1 = .ok (.iconst 0, 1) := by decide +kernel
theorem dL_chamber_2 : decode cL_chamber 2 = .ok (.aload_n 0, 1) := by decide +kernel
theorem dL_chamber_3 : decode cL_chamber 3 = .ok (.iload_n 1, 1) := by decide +kernel
theorem dL_chamber_4 : decode cL_chamber 4 = .ok (.iload_n 2, 1) := by decide +kernel
theorem dL_chamber_5 : decode cL_chamber 5 = .ok (.invokevirtual 37, 3) := by decide +kernel
theorem dL_chamber_8 : decode cL_chamber 8 = .ok (.i2l, 1) := by decide +kernel
theorem dL_chamber_9 : decode cL_chamber 9 = .ok (.lastore, 1) := by decide +kernel
theorem dL_chamber_10 : decode cL_chamber 10 = .ok (.goto 7, 3) := by decide +kernel
theorem dL_chamber_13 : decode cL_chamber 13 = .ok (.astore 4, 2) := by decide +kernel
theorem dL_chamber_15 : decode cL_chamber 15 = .ok (.iconst 1, 1) := by decide +kernel
theorem dL_chamber_16 : decode cL_chamber 16 = .ok (.ireturn, 1) := by decide +kernel
theorem dL_chamber_17 : decode cL_chamber 17 = .ok (.iconst 0, 1) := by decide +kernel
theorem dL_chamber_18 : decode cL_chamber 18 = .ok (.ireturn, 1) := by decide +kernel
set_option maxRecDepth 20000 in
theorem ggL_passage_X4_passage : GoodIn wsL_passage wsX4_passage := goodIn_ca (goodIn_r _ [6, 7, 8, 9, 10, 11, 12, 13, 14, 5, 15, 16, 17, 18, 19, 20, 21, 22, 23, 24, 25, 26, 27, 28, 29, 30, 31, 32, 33, 34, 35, 36, 37, 38, 39, 40, 41, 42, 43, 44, 45, 46, 47, 48, 49, 50, 51, 52, 53, 54, 55, 56, 57] (by decide +kernel) (by decide +kernel)) (goodIn_sub (fun _ h => List.mem_cons_of_mem _ (List.mem_append_right _ h)) (by decide +kernel))
set_option maxRecDepth 20000 in
theorem gL_passage_X4_passage : GoodIn wsL_passage (wsV RL 40 RX4 yX4_passage wsX4_passage) := goodIn_app (goodIn_of _ (by decide +kernel)) ggL_passage_X4_passage
theorem dL_passage_0 : decode cL_passage 0 = .ok (.aload_n 3, 1) := by decide +kernel
theorem dL_passage_1 : decode cL_passage 1 = .ok (.iconst 0, 1) := by decide +kernel
theorem dL_passage_2 : decode cL_passage 2 = .ok (.aload_n 0, 1) := by decide +kernel
theorem dL_passage_3 : decode cL_passage 3 = .ok (.iload_n 1, 1) := by decide +kernel
theorem dL_passage_4 : decode cL_passage 4 = .ok (.iload_n 2, 1) := by decide +kernel
theorem dL_passage_5 : decode cL_passage 5 = .ok (.invokevirtual 40, 3) := by decide +kernel
theorem dL_passage_8 : decode cL_passage 8 = .ok (.i2l, 1) := by decide +kernel
theorem dL_passage_9 : decode cL_passage 9 = .ok (.lastore, 1) := by decide +kernel
theorem dL_passage_10 : decode cL_passage 10 = .ok (.goto 7, 3) := by decide +kernel
theorem dL_passage_13 : decode cL_passage 13 = .ok (.astore 4, 2) := by decide +kernel
theorem dL_passage_15 : decode cL_passage 15 = .ok (.iconst 1, 1) := by decide +kernel
theorem dL_passage_16 : decode cL_passage 16 = .ok (.ireturn, 1) := by decide +kernel
theorem dL_passage_17 : decode cL_passage 17 = .ok (.iconst 0, 1) := by decide +kernel
theorem dL_passage_18 : decode cL_passage 18 = .ok (.ireturn, 1) := by decide +kernel
set_option maxRecDepth 20000 in
theorem ggL_say_X4_say : GoodIn wsL_say wsX4_say := goodIn_ca (goodIn_r _ [6, 7, 8, 9, 10, 11, 12, 13, 5, 14, 15, 16, 17, 18, 19, 20, 21, 22, 23, 24, 25, 26, 27, 28, 29, 30, 31, 32, 33, 34, 35, 36, 37, 38, 39, 40, 41, 42, 43, 44, 45, 46, 47, 48, 49, 50, 51, 52, 53, 54, 55, 56, 57, 58, 59, 60, 61, 62, 63, 64, 65, 66, 67, 68, 69, 70, 71, 72, 73, 74, 75, 76, 77, 78, 79, 80, 81, 82, 83, 84, 85, 86, 87, 88, 89, 90, 91, 92, 93, 94, 95, 96, 97, 98, 99, 100, 101, 102, 103, 104, 105, 106, 107, 108, 109, 110, 111, 112, 113, 114, 115, 116, 117, 118, 119, 120, 121, 122, 123, 124, 125, 126, 127, 128, 129, 130, 131, 132, 133, 134, 135, 136, 137, 138, 139, 140, 141, 142, 143, 144, 145, 146, 147, 148, 149, 150, 151, 152, 153, 154, 155, 156, 157, 158, 159, 160, 161, 162, 163, 164, 165, 166, 167, 168, 169, 170, 171, 172, 173, 174, 175, 176, 177, 178, 179, 180, 181, 182, 183, 184, 185, 186, 187, 188, 189, 190, 191, 192, 193, 194, 195, 196, 197, 198, 199, 200, 201, 202] (by decide +kernel) (by decide +kernel)) (goodIn_sub (fun _ h => List.mem_cons_of_mem _ (List.mem_append_right _ h)) (by decide +kernel))
set_option maxRecDepth 20000 in
theorem gL_say_X4_say : GoodIn wsL_say (wsV RL 43 RX4 yX4_say wsX4_say) := goodIn_app (goodIn_of _ (by decide +kernel)) ggL_say_X4_say
theorem dL_say_0 : decode cL_say 0 = .ok (.aload_n 3, 1) := by decide +kernel
theorem dL_say_1 : decode cL_say 1 = .ok (.iconst 0, 1) := by decide +kernel
theorem dL_say_2 : decode cL_say 2 = .ok (.aload_n 0, 1) := by decide +kernel
theorem dL_say_3 : decode cL_say 3 = .ok (.iload_n 1, 1) := by decide +kernel
theorem dL_say_4 : decode cL_say 4 = .ok (.iload_n 2, 1) := by decide +kernel
theorem dL_say_5 : decode cL_say 5 = .ok (.invokevirtual 43, 3) := by decide +kernel
theorem dL_say_8 : decode cL_say 8 = .ok (.i2l, 1) := by decide +kernel
theorem dL_say_9 : decode cL_say 9 = .ok (.lastore, 1) := by decide +kernel
theorem dL_say_10 : decode cL_say 10 = .ok (.goto 7, 3) := by decide +kernel
theorem dL_say_13 : decode cL_say 13 = .ok (.astore 4, 2) := by decide +kernel
theorem dL_say_15 : decode cL_say 15 = .ok (.iconst 1, 1) := by decide +kernel
theorem dL_say_16 : decode cL_say 16 = .ok (.ireturn, 1) := by decide +kernel
theorem dL_say_17 : decode cL_say 17 = .ok (.iconst 0, 1) := by decide +kernel
theorem dL_say_18 : decode cL_say 18 = .ok (.ireturn, 1) := by decide +kernel
set_option maxRecDepth 20000 in
theorem ggL_heard_X4_heard : GoodIn wsL_heard wsX4_heard := goodIn_ca (goodIn_r _ [6, 7, 8, 9, 5, 10, 11, 12, 13, 14, 15, 16, 17, 18, 19, 20, 21, 22, 23, 24, 25, 26, 27, 28, 29, 30, 31, 32, 33, 34, 35, 36] (by decide +kernel) (by decide +kernel)) (goodIn_sub (fun _ h => List.mem_cons_of_mem _ (List.mem_append_right _ h)) (by decide +kernel))
set_option maxRecDepth 20000 in
theorem gL_heard_X4_heard : GoodIn wsL_heard (wsV RL 46 RX4 yX4_heard wsX4_heard) := goodIn_app (goodIn_of _ (by decide +kernel)) ggL_heard_X4_heard
theorem dL_heard_0 : decode cL_heard 0 = .ok (.aload_n 3, 1) := by decide +kernel
theorem dL_heard_1 : decode cL_heard 1 = .ok (.iconst 0, 1) := by decide +kernel
theorem dL_heard_2 : decode cL_heard 2 = .ok (.aload_n 0, 1) := by decide +kernel
theorem dL_heard_3 : decode cL_heard 3 = .ok (.iload_n 1, 1) := by decide +kernel
theorem dL_heard_4 : decode cL_heard 4 = .ok (.iload_n 2, 1) := by decide +kernel
theorem dL_heard_5 : decode cL_heard 5 = .ok (.invokevirtual 46, 3) := by decide +kernel
theorem dL_heard_8 : decode cL_heard 8 = .ok (.i2l, 1) := by decide +kernel
theorem dL_heard_9 : decode cL_heard 9 = .ok (.lastore, 1) := by decide +kernel
theorem dL_heard_10 : decode cL_heard 10 = .ok (.goto 7, 3) := by decide +kernel
theorem dL_heard_13 : decode cL_heard 13 = .ok (.astore 4, 2) := by decide +kernel
theorem dL_heard_15 : decode cL_heard 15 = .ok (.iconst 1, 1) := by decide +kernel
theorem dL_heard_16 : decode cL_heard 16 = .ok (.ireturn, 1) := by decide +kernel
theorem dL_heard_17 : decode cL_heard 17 = .ok (.iconst 0, 1) := by decide +kernel
theorem dL_heard_18 : decode cL_heard 18 = .ok (.ireturn, 1) := by decide +kernel
set_option maxRecDepth 20000 in
theorem ggL_first_X4_first : GoodIn wsL_first wsX4_first := goodIn_ca (goodIn_r _ [6, 7, 8, 9, 5, 10, 11, 12, 13, 14, 15, 16, 17, 18, 19, 20, 21, 22, 23, 24, 25, 26, 27, 28, 29, 30] (by decide +kernel) (by decide +kernel)) (goodIn_sub (fun _ h => List.mem_cons_of_mem _ (List.mem_append_right _ h)) (by decide +kernel))
set_option maxRecDepth 20000 in
theorem gL_first_X4_first : GoodIn wsL_first (wsV RL 49 RX4 yX4_first wsX4_first) := goodIn_app (goodIn_of _ (by decide +kernel)) ggL_first_X4_first
theorem dL_first_0 : decode cL_first 0 = .ok (.aload_n 2, 1) := by decide +kernel
theorem dL_first_1 : decode cL_first 1 = .ok (.iconst 0, 1) := by decide +kernel
theorem dL_first_2 : decode cL_first 2 = .ok (.aload_n 0, 1) := by decide +kernel
theorem dL_first_3 : decode cL_first 3 = .ok (.iload_n 1, 1) := by decide +kernel
theorem dL_first_4 : decode cL_first 4 = .ok (.invokevirtual 49, 3) := by decide +kernel
theorem dL_first_7 : decode cL_first 7 = .ok (.i2l, 1) := by decide +kernel
theorem dL_first_8 : decode cL_first 8 = .ok (.lastore, 1) := by decide +kernel
theorem dL_first_9 : decode cL_first 9 = .ok (.goto 6, 3) := by decide +kernel
theorem dL_first_12 : decode cL_first 12 = .ok (.astore_n 3, 1) := by decide +kernel
theorem dL_first_13 : decode cL_first 13 = .ok (.iconst 1, 1) := by decide +kernel
theorem dL_first_14 : decode cL_first 14 = .ok (.ireturn, 1) := by decide +kernel
theorem dL_first_15 : decode cL_first 15 = .ok (.iconst 0, 1) := by decide +kernel
theorem dL_first_16 : decode cL_first 16 = .ok (.ireturn, 1) := by decide +kernel
set_option maxRecDepth 20000 in
theorem ggL_count_X4_count : GoodIn wsL_count wsX4_count := goodIn_ca (goodIn_r _ [6, 7, 8, 5, 9, 10, 11, 12, 13, 14, 15, 16, 17, 18, 19, 20, 21, 22, 23, 24, 25, 26, 27, 28, 29, 30, 31, 32, 33, 34, 35, 36, 37, 38, 39, 40, 41, 42, 43, 44, 45, 46, 47, 48, 49, 50, 51, 52, 53, 54, 55, 56, 57, 58, 59, 60, 61, 62, 63, 64, 65, 66, 67, 68, 69, 70, 71, 72, 73] (by decide +kernel) (by decide +kernel)) (goodIn_sub (fun _ h => List.mem_cons_of_mem _ (List.mem_append_right _ h)) (by decide +kernel))
set_option maxRecDepth 20000 in
theorem gL_count_X4_count : GoodIn wsL_count (wsV RL 52 RX4 yX4_count wsX4_count) := goodIn_app (goodIn_of _ (by decide +kernel)) ggL_count_X4_count
theorem dL_count_0 : decode cL_count 0 = .ok (.aload_n 2, 1) := by decide +kernel
theorem dL_count_1 : decode cL_count 1 = .ok (.iconst 0, 1) := by decide +kernel
theorem dL_count_2 : decode cL_count 2 = .ok (.aload_n 0, 1) := by decide +kernel
theorem dL_count_3 : decode cL_count 3 = .ok (.iload_n 1, 1) := by decide +kernel
theorem dL_count_4 : decode cL_count 4 = .ok (.invokevirtual 52, 3) := by decide +kernel
theorem dL_count_7 : decode cL_count 7 = .ok (.i2l, 1) := by decide +kernel
theorem dL_count_8 : decode cL_count 8 = .ok (.lastore, 1) := by decide +kernel
theorem dL_count_9 : decode cL_count 9 = .ok (.goto 6, 3) := by decide +kernel
theorem dL_count_12 : decode cL_count 12 = .ok (.astore_n 3, 1) := by decide +kernel
theorem dL_count_13 : decode cL_count 13 = .ok (.iconst 1, 1) := by decide +kernel
theorem dL_count_14 : decode cL_count 14 = .ok (.ireturn, 1) := by decide +kernel
theorem dL_count_15 : decode cL_count 15 = .ok (.iconst 0, 1) := by decide +kernel
theorem dL_count_16 : decode cL_count 16 = .ok (.ireturn, 1) := by decide +kernel
set_option maxRecDepth 20000 in
theorem ggL_would_X4_would : GoodIn wsL_would wsX4_would := goodIn_ca (goodIn_ca (goodIn_r _ [7, 8, 9, 10, 11, 12, 6, 13, 14, 15, 16, 17, 18, 19, 20, 21, 22, 23, 24, 25, 26, 27, 28, 29, 30, 31, 32, 33, 34, 35, 36, 37, 38, 39, 40, 41, 42, 43, 44, 45, 46, 47, 48, 49, 50, 51, 52, 53, 54, 55, 56, 57, 58, 59, 60, 61, 62, 63, 64, 65, 66, 67, 68, 69, 70, 71, 72, 73, 74, 75, 76, 77, 78, 79, 80, 81, 82, 83, 84, 85, 86, 87, 88, 89, 90, 91, 92, 93, 94, 95, 96, 97, 98, 99, 100, 101, 102, 103, 104, 105, 106, 107, 108, 109, 110, 111, 112, 113, 114, 115, 116, 117, 118, 119, 120, 121, 122, 123, 124, 125, 126, 127, 128, 129, 130, 131, 132, 133, 134, 135, 136, 137, 138, 139, 140, 141, 142, 143, 144, 145, 146, 147, 148, 149, 150, 151, 152, 153, 154, 155, 156, 157, 158, 159, 160, 161, 162, 163, 164, 165, 166, 167, 168, 169, 170, 171, 172, 173, 174, 175, 176, 177, 178, 179, 180, 181, 182, 183, 184, 185, 186, 187, 188, 189, 190, 191, 192, 193, 194, 195, 196, 197, 198, 199, 200, 201, 202, 203, 204, 205, 206, 207, 208, 209, 210] (by decide +kernel) (by decide +kernel)) (goodIn_sub (fun _ h => List.mem_cons_of_mem _ (List.mem_append_left _ (List.mem_append_right _ h))) (by decide +kernel))) (goodIn_sub (fun _ h => List.mem_cons_of_mem _ (List.mem_append_right _ h)) (by decide +kernel))
set_option maxRecDepth 20000 in
theorem gL_would_X4_would : GoodIn wsL_would (wsV RL 55 RX4 yX4_would wsX4_would) := goodIn_app (goodIn_of _ (by decide +kernel)) ggL_would_X4_would
theorem dL_would_0 : decode cL_would 0 = .ok (.aload 4, 2) := by decide +kernel
theorem dL_would_2 : decode cL_would 2 = .ok (.iconst 0, 1) := by decide +kernel
theorem dL_would_3 : decode cL_would 3 = .ok (.aload_n 0, 1) := by decide +kernel
theorem dL_would_4 : decode cL_would 4 = .ok (.iload_n 1, 1) := by decide +kernel
theorem dL_would_5 : decode cL_would 5 = .ok (.iload_n 2, 1) := by decide +kernel
theorem dL_would_6 : decode cL_would 6 = .ok (.iload_n 3, 1) := by decide +kernel
theorem dL_would_7 : decode cL_would 7 = .ok (.invokevirtual 55, 3) := by decide +kernel
theorem dL_would_10 : decode cL_would 10 = .ok (.i2l, 1) := by decide +kernel
theorem dL_would_11 : decode cL_would 11 = .ok (.lastore, 1) := by decide +kernel
theorem dL_would_12 : decode cL_would 12 = .ok (.goto 11, 3) := by decide +kernel
theorem dL_would_15 : decode cL_would 15 = .ok (.astore 5, 2) := by decide +kernel
theorem dL_would_17 : decode cL_would 17 = .ok (.iconst 1, 1) := by decide +kernel
theorem dL_would_18 : decode cL_would 18 = .ok (.ireturn, 1) := by decide +kernel
theorem dL_would_19 : decode cL_would 19 = .ok (.astore 5, 2) := by decide +kernel
theorem dL_would_21 : decode cL_would 21 = .ok (.iconst 2, 1) := by decide +kernel
theorem dL_would_22 : decode cL_would 22 = .ok (.ireturn, 1) := by decide +kernel
theorem dL_would_23 : decode cL_would 23 = .ok (.iconst 0, 1) := by decide +kernel
theorem dL_would_24 : decode cL_would 24 = .ok (.ireturn, 1) := by decide +kernel
set_option maxRecDepth 20000 in
theorem ggL_advise_X4_advise : GoodIn wsL_advise wsX4_advise := goodIn_ca (goodIn_r _ [6, 7, 8, 9, 5, 10, 11, 12, 13, 14, 15, 16, 17, 18, 19, 20, 21, 22, 23, 24, 25, 26, 27, 28, 29, 30, 31, 32, 33, 34, 35, 36, 37, 38, 39, 40, 41, 42, 43, 44, 45, 46, 47, 48, 49, 50, 51, 52, 53, 54, 55, 56, 57, 58, 59, 60, 61, 62, 63, 64, 65, 66, 67, 68, 69, 70, 71, 72, 73, 74, 75, 76, 77, 78, 79, 80, 81, 82, 83, 84, 85, 86, 87, 88, 89, 90, 91, 92, 93, 94, 95, 96, 97, 98, 99, 100, 101, 102, 103, 104, 105, 106, 107, 108, 109, 110, 111, 112, 113, 114, 115, 116, 117, 118, 119, 120, 121, 122, 123, 124, 125, 126, 127, 128, 129, 130, 131, 132, 133, 134, 135, 136, 137, 138, 139, 140, 141, 142, 143, 144, 145, 146, 147, 148, 149, 150, 151, 152, 153, 154, 155, 156, 157, 158, 159, 160, 161, 162, 163, 164, 165, 166, 167, 168, 169, 170, 171, 172, 173, 174, 175, 176, 177, 178, 179, 180, 181, 182, 183, 184, 185, 186, 187, 188, 189, 190, 191, 192, 193, 194, 195, 196, 197, 198, 199, 200, 201, 202, 203, 204, 205, 206, 207, 208, 209, 210, 211, 212, 213, 214, 215] (by decide +kernel) (by decide +kernel)) (goodIn_sub (fun _ h => List.mem_cons_of_mem _ (List.mem_append_right _ h)) (by decide +kernel))
set_option maxRecDepth 20000 in
theorem gL_advise_X4_advise : GoodIn wsL_advise (wsV RL 58 RX4 yX4_advise wsX4_advise) := goodIn_app (goodIn_of _ (by decide +kernel)) ggL_advise_X4_advise
theorem dL_advise_0 : decode cL_advise 0 = .ok (.aload 5, 2) := by decide +kernel
theorem dL_advise_2 : decode cL_advise 2 = .ok (.iconst 0, 1) := by decide +kernel
theorem dL_advise_3 : decode cL_advise 3 = .ok (.aload_n 0, 1) := by decide +kernel
theorem dL_advise_4 : decode cL_advise 4 = .ok (.iload_n 1, 1) := by decide +kernel
theorem dL_advise_5 : decode cL_advise 5 = .ok (.iload_n 2, 1) := by decide +kernel
theorem dL_advise_6 : decode cL_advise 6 = .ok (.iload_n 3, 1) := by decide +kernel
theorem dL_advise_7 : decode cL_advise 7 = .ok (.iload 4, 2) := by decide +kernel
theorem dL_advise_9 : decode cL_advise 9 = .ok (.invokevirtual 58, 3) := by decide +kernel
theorem dL_advise_12 : decode cL_advise 12 = .ok (.i2l, 1) := by decide +kernel
theorem dL_advise_13 : decode cL_advise 13 = .ok (.lastore, 1) := by decide +kernel
theorem dL_advise_14 : decode cL_advise 14 = .ok (.goto 7, 3) := by decide +kernel
theorem dL_advise_17 : decode cL_advise 17 = .ok (.astore 6, 2) := by decide +kernel
theorem dL_advise_19 : decode cL_advise 19 = .ok (.iconst 1, 1) := by decide +kernel
theorem dL_advise_20 : decode cL_advise 20 = .ok (.ireturn, 1) := by decide +kernel
theorem dL_advise_21 : decode cL_advise 21 = .ok (.iconst 0, 1) := by decide +kernel
theorem dL_advise_22 : decode cL_advise 22 = .ok (.ireturn, 1) := by decide +kernel
set_option maxRecDepth 20000 in
theorem ggL_longest_X4_longest : GoodIn wsL_longest wsX4_longest := goodIn_ca (goodIn_r _ [6, 7, 8, 5, 9, 10, 11, 12, 13, 14, 15, 16, 17, 18, 19, 20, 21, 22, 23, 24, 25, 26, 27, 28, 29, 30, 31, 32, 33, 34, 35, 36, 37, 38, 39, 40, 41, 42, 43, 44, 45, 46, 47, 48, 49, 50, 51, 52, 53, 54, 55, 56, 57, 58, 59, 60, 61, 62, 63, 64, 65, 66, 67, 68, 69, 70, 71, 72, 73, 74, 75, 76, 77, 78, 79, 80, 81, 82, 83, 84, 85, 86, 87, 88, 89, 90, 91, 92, 93, 94, 95, 96, 97, 98, 99, 100, 101, 102, 103, 104, 105, 106, 107, 108, 109, 110, 111, 112, 113, 114, 115, 116, 117, 118, 119, 120, 121, 122, 123, 124, 125, 126, 127, 128, 129, 130, 131, 132, 133, 134, 135, 136, 137, 138, 139, 140, 141, 142, 143, 144, 145, 146, 147, 148, 149, 150, 151, 152, 153, 154, 155, 156, 157, 158, 159, 160, 161, 162, 163, 164, 165, 166, 167, 168, 169, 170, 171, 172, 173, 174, 175, 176, 177, 178, 179, 180, 181, 182, 183, 184, 185, 186, 187, 188, 189, 190, 191, 192, 193, 194, 195, 196, 197, 198, 199, 200, 201] (by decide +kernel) (by decide +kernel)) (goodIn_sub (fun _ h => List.mem_cons_of_mem _ (List.mem_append_right _ h)) (by decide +kernel))
set_option maxRecDepth 20000 in
theorem gL_longest_X4_longest : GoodIn wsL_longest (wsV RL 61 RX4 yX4_longest wsX4_longest) := goodIn_app (goodIn_of _ (by decide +kernel)) ggL_longest_X4_longest
theorem dL_longest_0 : decode cL_longest 0 = .ok (.aload_n 3, 1) := by decide +kernel
theorem dL_longest_1 : decode cL_longest 1 = .ok (.iconst 0, 1) := by decide +kernel
theorem dL_longest_2 : decode cL_longest 2 = .ok (.aload_n 0, 1) := by decide +kernel
theorem dL_longest_3 : decode cL_longest 3 = .ok (.iload_n 1, 1) := by decide +kernel
theorem dL_longest_4 : decode cL_longest 4 = .ok (.iload_n 2, 1) := by decide +kernel
theorem dL_longest_5 : decode cL_longest 5 = .ok (.invokevirtual 61, 3) := by decide +kernel
theorem dL_longest_8 : decode cL_longest 8 = .ok (.i2l, 1) := by decide +kernel
theorem dL_longest_9 : decode cL_longest 9 = .ok (.lastore, 1) := by decide +kernel
theorem dL_longest_10 : decode cL_longest 10 = .ok (.goto 7, 3) := by decide +kernel
theorem dL_longest_13 : decode cL_longest 13 = .ok (.astore 4, 2) := by decide +kernel
theorem dL_longest_15 : decode cL_longest 15 = .ok (.iconst 1, 1) := by decide +kernel
theorem dL_longest_16 : decode cL_longest 16 = .ok (.ireturn, 1) := by decide +kernel
theorem dL_longest_17 : decode cL_longest 17 = .ok (.iconst 0, 1) := by decide +kernel
theorem dL_longest_18 : decode cL_longest 18 = .ok (.ireturn, 1) := by decide +kernel
set_option maxRecDepth 20000 in
theorem ggL_quickest_X4_quickest : GoodIn wsL_quickest wsX4_quickest := goodIn_ca (goodIn_r _ [6, 7, 8, 5, 9, 10, 11, 12, 13, 14, 15, 16, 17, 18, 19, 20, 21, 22, 23, 24, 25, 26, 27, 28, 29, 30, 31, 32, 33, 34, 35, 36, 37, 38, 39, 40, 41, 42, 43, 44, 45, 46, 47, 48, 49, 50, 51, 52, 53, 54, 55, 56, 57, 58, 59, 60, 61, 62, 63, 64, 65, 66, 67, 68, 69, 70, 71, 72, 73, 74, 75, 76, 77, 78, 79, 80, 81, 82, 83, 84, 85, 86, 87, 88, 89, 90, 91, 92, 93, 94, 95, 96, 97, 98, 99, 100, 101, 102, 103, 104, 105, 106, 107, 108, 109, 110, 111, 112, 113, 114, 115, 116, 117, 118, 119, 120, 121, 122, 123, 124, 125, 126, 127, 128, 129, 130, 131, 132, 133, 134, 135, 136, 137, 138, 139, 140, 141, 142, 143, 144, 145, 146, 147, 148, 149, 150, 151, 152, 153, 154, 155, 156, 157, 158, 159, 160, 161, 162, 163, 164, 165, 166, 167, 168, 169, 170, 171, 172, 173, 174, 175, 176, 177, 178, 179, 180, 181, 182, 183, 184, 185, 186, 187, 188, 189, 190, 191, 192, 193, 194, 195, 196, 197, 198, 199, 200, 201, 202, 203, 204, 205] (by decide +kernel) (by decide +kernel)) (goodIn_sub (fun _ h => List.mem_cons_of_mem _ (List.mem_append_right _ h)) (by decide +kernel))
set_option maxRecDepth 20000 in
theorem gL_quickest_X4_quickest : GoodIn wsL_quickest (wsV RL 64 RX4 yX4_quickest wsX4_quickest) := goodIn_app (goodIn_of _ (by decide +kernel)) ggL_quickest_X4_quickest
theorem dL_quickest_0 : decode cL_quickest 0 = .ok (.aload_n 2, 1) := by decide +kernel
theorem dL_quickest_1 : decode cL_quickest 1 = .ok (.iconst 0, 1) := by decide +kernel
theorem dL_quickest_2 : decode cL_quickest 2 = .ok (.aload_n 0, 1) := by decide +kernel
theorem dL_quickest_3 : decode cL_quickest 3 = .ok (.iload_n 1, 1) := by decide +kernel
theorem dL_quickest_4 : decode cL_quickest 4 = .ok (.invokevirtual 64, 3) := by decide +kernel
theorem dL_quickest_7 : decode cL_quickest 7 = .ok (.i2l, 1) := by decide +kernel
theorem dL_quickest_8 : decode cL_quickest 8 = .ok (.lastore, 1) := by decide +kernel
theorem dL_quickest_9 : decode cL_quickest 9 = .ok (.goto 6, 3) := by decide +kernel
theorem dL_quickest_12 : decode cL_quickest 12 = .ok (.astore_n 3, 1) := by decide +kernel
theorem dL_quickest_13 : decode cL_quickest 13 = .ok (.iconst 1, 1) := by decide +kernel
theorem dL_quickest_14 : decode cL_quickest 14 = .ok (.ireturn, 1) := by decide +kernel
theorem dL_quickest_15 : decode cL_quickest 15 = .ok (.iconst 0, 1) := by decide +kernel
theorem dL_quickest_16 : decode cL_quickest 16 = .ok (.ireturn, 1) := by decide +kernel
set_option maxRecDepth 20000 in
theorem ggL_way_X4_way : GoodIn wsL_way wsX4_way := goodIn_ca (goodIn_r _ [6, 7, 8, 9, 10, 11, 12, 13, 14, 5, 15, 16, 17, 18, 19, 20, 21, 22, 23, 24, 25, 26, 27, 28, 29, 30, 31, 32, 33, 34, 35, 36, 37, 38, 39, 40, 41, 42, 43, 44, 45, 46, 47, 48, 49, 50, 51, 52, 53, 54, 55, 56, 57, 58, 59, 60, 61, 62, 63, 64, 65] (by decide +kernel) (by decide +kernel)) (goodIn_sub (fun _ h => List.mem_cons_of_mem _ (List.mem_append_right _ h)) (by decide +kernel))
set_option maxRecDepth 20000 in
theorem gL_way_X4_way : GoodIn wsL_way (wsV RL 67 RX4 yX4_way wsX4_way) := goodIn_app (goodIn_of _ (by decide +kernel)) ggL_way_X4_way
theorem dL_way_0 : decode cL_way 0 = .ok (.aload_n 3, 1) := by decide +kernel
theorem dL_way_1 : decode cL_way 1 = .ok (.iconst 0, 1) := by decide +kernel
theorem dL_way_2 : decode cL_way 2 = .ok (.aload_n 0, 1) := by decide +kernel
theorem dL_way_3 : decode cL_way 3 = .ok (.iload_n 1, 1) := by decide +kernel
theorem dL_way_4 : decode cL_way 4 = .ok (.iload_n 2, 1) := by decide +kernel
theorem dL_way_5 : decode cL_way 5 = .ok (.invokevirtual 67, 3) := by decide +kernel
theorem dL_way_8 : decode cL_way 8 = .ok (.i2l, 1) := by decide +kernel
theorem dL_way_9 : decode cL_way 9 = .ok (.lastore, 1) := by decide +kernel
theorem dL_way_10 : decode cL_way 10 = .ok (.goto 7, 3) := by decide +kernel
theorem dL_way_13 : decode cL_way 13 = .ok (.astore 4, 2) := by decide +kernel
theorem dL_way_15 : decode cL_way 15 = .ok (.iconst 1, 1) := by decide +kernel
theorem dL_way_16 : decode cL_way 16 = .ok (.ireturn, 1) := by decide +kernel
theorem dL_way_17 : decode cL_way 17 = .ok (.iconst 0, 1) := by decide +kernel
theorem dL_way_18 : decode cL_way 18 = .ok (.ireturn, 1) := by decide +kernel
set_option maxRecDepth 20000 in
theorem ggL_highest_X4_highest : GoodIn wsL_highest wsX4_highest := goodIn_ca (goodIn_r _ [6, 7, 8, 9, 10, 11, 12, 13, 14, 5, 15, 16, 17, 18, 19, 20, 21, 22, 23, 24, 25, 26, 27, 28, 29, 30, 31, 32, 33, 34, 35, 36, 37, 38, 39, 40, 41, 42, 43, 44, 45, 46, 47, 48, 49, 50, 51, 52, 53, 54, 55, 56, 57, 58, 59, 60, 61, 62, 63, 64, 65, 66] (by decide +kernel) (by decide +kernel)) (goodIn_sub (fun _ h => List.mem_cons_of_mem _ (List.mem_append_right _ h)) (by decide +kernel))
set_option maxRecDepth 20000 in
theorem gL_highest_X4_highest : GoodIn wsL_highest (wsV RL 70 RX4 yX4_highest wsX4_highest) := goodIn_app (goodIn_of _ (by decide +kernel)) ggL_highest_X4_highest
theorem dL_highest_0 : decode cL_highest 0 = .ok (.aload_n 2, 1) := by decide +kernel
theorem dL_highest_1 : decode cL_highest 1 = .ok (.iconst 0, 1) := by decide +kernel
theorem dL_highest_2 : decode cL_highest 2 = .ok (.aload_n 0, 1) := by decide +kernel
theorem dL_highest_3 : decode cL_highest 3 = .ok (.iload_n 1, 1) := by decide +kernel
theorem dL_highest_4 : decode cL_highest 4 = .ok (.invokevirtual 70, 3) := by decide +kernel
theorem dL_highest_7 : decode cL_highest 7 = .ok (.i2l, 1) := by decide +kernel
theorem dL_highest_8 : decode cL_highest 8 = .ok (.lastore, 1) := by decide +kernel
theorem dL_highest_9 : decode cL_highest 9 = .ok (.goto 6, 3) := by decide +kernel
theorem dL_highest_12 : decode cL_highest 12 = .ok (.astore_n 3, 1) := by decide +kernel
theorem dL_highest_13 : decode cL_highest 13 = .ok (.iconst 1, 1) := by decide +kernel
theorem dL_highest_14 : decode cL_highest 14 = .ok (.ireturn, 1) := by decide +kernel
theorem dL_highest_15 : decode cL_highest 15 = .ok (.iconst 0, 1) := by decide +kernel
theorem dL_highest_16 : decode cL_highest 16 = .ok (.ireturn, 1) := by decide +kernel
set_option maxRecDepth 20000 in
theorem ggL_law_X4_init : GoodIn wsL_law wsX4_init := goodIn_r _ [9, 10, 11, 12, 13, 14, 15, 16, 17, 18, 19, 20, 21, 22, 23, 24, 25, 26, 27, 28, 29, 30, 31, 32, 33, 34, 35, 36, 37, 38, 39, 40, 41, 42, 43, 44, 45, 46, 47, 48, 49, 50, 51, 52, 53, 54, 55, 56, 57, 58, 59, 60, 6, 61, 62, 63, 64, 65, 66, 67, 68, 69, 70, 71, 72, 73, 74, 75, 76, 77, 78, 79, 80, 81, 676, 677, 678, 679, 680, 681, 682, 683, 684, 685, 686, 687, 688, 689, 690, 659, 660, 661, 662, 663, 664, 665, 691, 692, 693, 694, 695, 696, 697, 698, 699, 700, 701, 702, 703, 704, 705, 706, 707] (by decide +kernel) (by decide +kernel)
set_option maxRecDepth 20000 in
theorem gL_law_X4_init : GoodIn wsL_law (wsX4_init) := ggL_law_X4_init
set_option maxRecDepth 20000 in
theorem ggL_law_X6_init : GoodIn wsL_law wsX6_init := goodIn_r _ [84, 85, 11, 12, 86, 87, 33, 88, 89, 90, 91, 92, 93, 94, 95, 96, 97, 98, 99, 100, 101, 102, 103, 104, 105, 106, 107, 666, 667, 668, 669, 670, 671, 672, 673, 674, 675, 708, 709, 710, 711, 712, 713, 714, 715, 716, 717, 718, 719, 720, 721, 722, 723, 724, 725, 726, 727, 728] (by decide +kernel) (by decide +kernel)
set_option maxRecDepth 20000 in
theorem gL_law_X6_init : GoodIn wsL_law (wsX6_init) := ggL_law_X6_init
set_option maxRecDepth 20000 in
theorem ggL_law_L_addChamber : GoodIn wsL_law wsL_addChamber := goodIn_ca (goodIn_ca (goodIn_r _ [111, 112, 113, 114, 115, 116, 2, 117, 118, 119, 16, 120, 121, 122, 123, 124, 125, 126, 127, 128, 129, 130, 15, 131, 47, 34, 35, 36, 659, 660, 661, 662, 663, 664, 665, 676, 677, 678, 679, 680, 681, 682, 683, 684, 685, 686, 687, 688, 689, 690] (by decide +kernel) (by decide +kernel)) (goodIn_sub (fun _ h => List.mem_append_left _ (List.mem_append_left _ (List.mem_append_right _ h))) (by decide +kernel))) (goodIn_sub (fun _ h => List.mem_append_left _ (List.mem_append_right _ h)) (by decide +kernel))
set_option maxRecDepth 20000 in
theorem gL_law_L_addChamber : GoodIn wsL_law (va_wsS RL 77 yL_addChamber wsL_addChamber) := goodIn_app (goodIn_of _ (by decide +kernel)) ggL_law_L_addChamber
set_option maxRecDepth 20000 in
theorem ggL_law_X6_addChamber : GoodIn wsL_law wsX6_addChamber := goodIn_r _ [135, 136, 86, 33, 88, 137, 138, 139, 140, 141, 142, 5, 143, 144, 145, 146, 147, 666, 667, 668, 669, 670, 671, 672, 673, 674, 675] (by decide +kernel) (by decide +kernel)
set_option maxRecDepth 20000 in
theorem gL_law_X6_addChamber : GoodIn wsL_law (wsV RL 82 RX6 yX6_addChamber wsX6_addChamber) := goodIn_app (goodIn_of _ (by decide +kernel)) ggL_law_X6_addChamber
set_option maxRecDepth 20000 in
theorem ggL_law_X6_thrown : GoodIn wsL_law wsX6_thrown := goodIn_r _ [151, 136, 666, 667, 668, 669, 670, 671, 672, 673, 674, 675] (by decide +kernel) (by decide +kernel)
set_option maxRecDepth 20000 in
theorem gL_law_X6_thrown : GoodIn wsL_law (wsV RL 83 RX6 yX6_thrown wsX6_thrown) := goodIn_app (goodIn_of _ (by decide +kernel)) ggL_law_X6_thrown
set_option maxRecDepth 20000 in
theorem ggL_law_L_addPassage : GoodIn wsL_law wsL_addPassage := goodIn_ca (goodIn_ca (goodIn_ca (goodIn_r _ [154, 155, 112, 113, 156, 157, 158, 2, 159, 118, 119, 16, 160, 161, 162, 15, 163, 47, 121, 122, 164, 165, 166, 167, 168, 123, 124, 125, 126, 127, 120, 169, 170, 171, 172, 48, 42, 43, 44, 45, 173, 174, 175, 176, 41, 39, 659, 660, 661, 662, 663, 664, 665, 676, 677, 678, 679, 680, 681, 682, 683, 684, 685, 686, 687, 688, 689, 690] (by decide +kernel) (by decide +kernel)) (goodIn_sub (fun _ h => List.mem_append_left _ (List.mem_append_left _ (List.mem_append_right _ h))) (by decide +kernel))) (goodIn_sub (fun _ h => List.mem_append_right _ h) (by decide +kernel))) (goodIn_sub (fun _ h => List.mem_append_left _ (List.mem_append_right _ h)) (by decide +kernel))
set_option maxRecDepth 20000 in
theorem gL_law_L_addPassage : GoodIn wsL_law (va_wsS RL 87 yL_addPassage wsL_addPassage) := goodIn_app (goodIn_of _ (by decide +kernel)) ggL_law_L_addPassage
set_option maxRecDepth 20000 in
theorem ggL_law_X6_addPassage : GoodIn wsL_law wsX6_addPassage := goodIn_r _ [180, 136, 181, 33, 89, 137, 138, 139, 140, 182, 183, 184, 5, 185, 86, 141, 142, 143, 144, 145, 146, 147, 666, 667, 668, 669, 670, 671, 672, 673, 674, 675] (by decide +kernel) (by decide +kernel)
set_option maxRecDepth 20000 in
theorem gL_law_X6_addPassage : GoodIn wsL_law (wsV RL 90 RX6 yX6_addPassage wsX6_addPassage) := goodIn_app (goodIn_of _ (by decide +kernel)) ggL_law_X6_addPassage
set_option maxRecDepth 20000 in
theorem ggL_law_L_setWater : GoodIn wsL_law wsL_setWater := goodIn_ca (goodIn_r _ [188, 112, 189, 190, 191, 2, 192, 16, 120, 121, 122, 123, 124, 125, 126, 127, 659, 660, 661, 662, 663, 664, 665, 676, 677, 678, 679, 680, 681, 682, 683, 684, 685, 686, 687, 688, 689, 690] (by decide +kernel) (by decide +kernel)) (goodIn_sub (fun _ h => List.mem_append_left _ (List.mem_append_right _ h)) (by decide +kernel))
set_option maxRecDepth 20000 in
theorem gL_law_L_setWater : GoodIn wsL_law (va_wsS RL 91 yL_setWater wsL_setWater) := goodIn_app (goodIn_of _ (by decide +kernel)) ggL_law_L_setWater
set_option maxRecDepth 20000 in
theorem ggL_law_X6_setWater : GoodIn wsL_law wsX6_setWater := goodIn_r _ [196, 136, 197, 141, 142, 5, 143, 144, 145, 146, 147, 666, 667, 668, 669, 670, 671, 672, 673, 674, 675] (by decide +kernel) (by decide +kernel)
set_option maxRecDepth 20000 in
theorem gL_law_X6_setWater : GoodIn wsL_law (wsV RL 94 RX6 yX6_setWater wsX6_setWater) := goodIn_app (goodIn_of _ (by decide +kernel)) ggL_law_X6_setWater
set_option maxRecDepth 20000 in
theorem ggL_law_L_setBats : GoodIn wsL_law wsL_setBats := goodIn_ca (goodIn_ca (goodIn_r _ [200, 155, 112, 201, 202, 203, 2, 204, 16, 160, 161, 162, 15, 163, 47, 121, 122, 164, 165, 166, 167, 168, 120, 123, 124, 125, 126, 127, 659, 660, 661, 662, 663, 664, 665, 676, 677, 678, 679, 680, 681, 682, 683, 684, 685, 686, 687, 688, 689, 690] (by decide +kernel) (by decide +kernel)) (goodIn_sub (fun _ h => List.mem_append_right _ h) (by decide +kernel))) (goodIn_sub (fun _ h => List.mem_append_left _ (List.mem_append_right _ h)) (by decide +kernel))
set_option maxRecDepth 20000 in
theorem gL_law_L_setBats : GoodIn wsL_law (va_wsS RL 95 yL_setBats wsL_setBats) := goodIn_app (goodIn_of _ (by decide +kernel)) ggL_law_L_setBats
set_option maxRecDepth 20000 in
theorem ggL_law_X6_setBats : GoodIn wsL_law wsX6_setBats := goodIn_r _ [208, 136, 88, 182, 183, 184, 5, 185, 86, 141, 142, 143, 144, 145, 146, 147, 666, 667, 668, 669, 670, 671, 672, 673, 674, 675] (by decide +kernel) (by decide +kernel)
set_option maxRecDepth 20000 in
theorem gL_law_X6_setBats : GoodIn wsL_law (wsV RL 98 RX6 yX6_setBats wsX6_setBats) := goodIn_app (goodIn_of _ (by decide +kernel)) ggL_law_X6_setBats
set_option maxRecDepth 20000 in
theorem ggL_law_L_setClapper : GoodIn wsL_law wsL_setClapper := goodIn_ca (goodIn_ca (goodIn_r _ [211, 155, 112, 212, 213, 214, 2, 215, 16, 160, 161, 162, 15, 163, 47, 121, 122, 164, 165, 166, 167, 168, 123, 124, 125, 126, 127, 120, 216, 217, 218, 219, 37, 38, 659, 660, 661, 662, 663, 664, 665, 676, 677, 678, 679, 680, 681, 682, 683, 684, 685, 686, 687, 688, 689, 690] (by decide +kernel) (by decide +kernel)) (goodIn_sub (fun _ h => List.mem_append_right _ h) (by decide +kernel))) (goodIn_sub (fun _ h => List.mem_append_left _ (List.mem_append_right _ h)) (by decide +kernel))
set_option maxRecDepth 20000 in
theorem gL_law_L_setClapper : GoodIn wsL_law (va_wsS RL 99 yL_setClapper wsL_setClapper) := goodIn_app (goodIn_of _ (by decide +kernel)) ggL_law_L_setClapper
set_option maxRecDepth 20000 in
theorem ggL_law_X6_setClapper : GoodIn wsL_law wsX6_setClapper := goodIn_r _ [223, 136, 88, 182, 183, 184, 5, 185, 86, 141, 142, 143, 144, 145, 146, 147, 666, 667, 668, 669, 670, 671, 672, 673, 674, 675] (by decide +kernel) (by decide +kernel)
set_option maxRecDepth 20000 in
theorem gL_law_X6_setClapper : GoodIn wsL_law (wsV RL 101 RX6 yX6_setClapper wsX6_setClapper) := goodIn_app (goodIn_of _ (by decide +kernel)) ggL_law_X6_setClapper
set_option maxRecDepth 20000 in
theorem ggL_law_L_setEar : GoodIn wsL_law wsL_setEar := goodIn_ca (goodIn_r _ [226, 112, 227, 228, 229, 2, 230, 26, 120, 121, 122, 123, 124, 125, 126, 127, 659, 660, 661, 662, 663, 664, 665] (by decide +kernel) (by decide +kernel)) (goodIn_sub (fun _ h => List.mem_append_left _ (List.mem_append_right _ h)) (by decide +kernel))
set_option maxRecDepth 20000 in
theorem gL_law_L_setEar : GoodIn wsL_law (va_wsS RL 102 yL_setEar wsL_setEar) := goodIn_app (goodIn_of _ (by decide +kernel)) ggL_law_L_setEar
set_option maxRecDepth 20000 in
theorem ggL_law_X6_setEar : GoodIn wsL_law wsX6_setEar := goodIn_r _ [234, 136, 87, 141, 142, 5, 143, 144, 145, 146, 147, 666, 667, 668, 669, 670, 671, 672, 673, 674, 675] (by decide +kernel) (by decide +kernel)
set_option maxRecDepth 20000 in
theorem gL_law_X6_setEar : GoodIn wsL_law (wsV RL 104 RX6 yX6_setEar wsX6_setEar) := goodIn_app (goodIn_of _ (by decide +kernel)) ggL_law_X6_setEar
set_option maxRecDepth 20000 in
theorem ggL_law_L_chamber : GoodIn wsL_law wsL_chamber := goodIn_ca (goodIn_r _ [237, 155, 238, 239, 240, 2, 241, 16, 160, 161, 162, 15, 163, 47, 121, 122, 164, 165, 166, 167, 168, 120, 242, 243, 244, 245, 34, 35, 36, 37, 38, 39, 246, 247, 248, 249, 41, 250, 251, 252, 253, 42, 49, 43, 659, 660, 661, 662, 663, 664, 665, 676, 677, 678, 679, 680, 681, 682, 683, 684, 685, 686, 687, 688, 689, 690] (by decide +kernel) (by decide +kernel)) (goodIn_sub (fun _ h => List.mem_append_right _ h) (by decide +kernel))
set_option maxRecDepth 20000 in
theorem gL_law_L_chamber : GoodIn wsL_law (va_wsS RL 105 yL_chamber wsL_chamber) := goodIn_app (goodIn_of _ (by decide +kernel)) ggL_law_L_chamber
set_option maxRecDepth 20000 in
theorem ggL_law_X6_chamber : GoodIn wsL_law wsX6_chamber := goodIn_r _ [257, 136, 182, 183, 184, 5, 185, 86, 141, 142, 143, 258, 259, 260, 261, 88, 181, 197, 262, 263, 264, 265, 89, 266, 267, 268, 269, 144, 145, 146, 147, 666, 667, 668, 669, 670, 671, 672, 673, 674, 675] (by decide +kernel) (by decide +kernel)
set_option maxRecDepth 20000 in
theorem gL_law_X6_chamber : GoodIn wsL_law (wsV RL 107 RX6 yX6_chamber wsX6_chamber) := goodIn_app (goodIn_of _ (by decide +kernel)) ggL_law_X6_chamber
set_option maxRecDepth 20000 in
theorem ggL_law_L_passage : GoodIn wsL_law wsL_passage := goodIn_ca (goodIn_r _ [272, 155, 273, 274, 275, 2, 276, 16, 277, 278, 279, 15, 280, 48, 121, 122, 164, 165, 166, 167, 168, 120, 281, 282, 283, 284, 42, 43, 44, 45, 250, 251, 252, 253, 35, 49, 659, 660, 661, 662, 663, 664, 665, 676, 677, 678, 679, 680, 681, 682, 683, 684, 685, 686, 687, 688, 689, 690] (by decide +kernel) (by decide +kernel)) (goodIn_sub (fun _ h => List.mem_append_right _ h) (by decide +kernel))
set_option maxRecDepth 20000 in
theorem gL_law_L_passage : GoodIn wsL_law (va_wsS RL 108 yL_passage wsL_passage) := goodIn_app (goodIn_of _ (by decide +kernel)) ggL_law_L_passage
set_option maxRecDepth 20000 in
theorem ggL_law_X6_passage : GoodIn wsL_law wsX6_passage := goodIn_r _ [288, 136, 181, 141, 142, 5, 143, 289, 290, 291, 292, 89, 197, 266, 267, 268, 269, 88, 144, 145, 146, 147, 666, 667, 668, 669, 670, 671, 672, 673, 674, 675] (by decide +kernel) (by decide +kernel)
set_option maxRecDepth 20000 in
theorem gL_law_X6_passage : GoodIn wsL_law (wsV RL 110 RX6 yX6_passage wsX6_passage) := goodIn_app (goodIn_of _ (by decide +kernel)) ggL_law_X6_passage
set_option maxRecDepth 20000 in
theorem ggL_law_L_say : GoodIn wsL_law wsL_say := goodIn_ca (goodIn_r _ [295, 112, 296, 297, 298, 2, 299, 20, 26, 24, 27, 28, 300, 301, 302, 303, 304, 305, 306, 120, 121, 122, 123, 124, 125, 126, 127, 307, 308, 309, 19, 310, 58, 311, 312, 313, 314, 315, 23, 316, 76, 77, 78, 79, 80, 81, 75, 317, 318, 319, 320, 321, 322, 323, 324, 62, 63, 325, 326, 327, 57, 328, 69, 329, 330, 331, 332, 59, 60, 61, 333, 334, 335, 336, 337, 338, 339, 68, 340, 341, 342, 343, 344, 345, 346, 347, 348, 349, 350, 351, 352, 353, 354, 355, 54, 356, 357, 358, 359, 360, 361, 362, 363, 364, 365, 366, 367, 368, 369, 370, 371, 161, 162, 15, 163, 47, 372, 373, 374, 375, 74, 376, 377, 378, 379, 380, 381, 382, 383, 36, 384, 385, 386, 387, 388, 389, 390, 391, 392, 251, 252, 253, 35, 42, 49, 43, 393, 394, 395, 396, 397, 398, 399, 400, 401, 402, 403, 404, 45, 405, 406, 407, 408, 34, 659, 660, 661, 662, 663, 664, 665, 698, 699, 700, 701, 702, 703, 704, 705, 691, 692, 693, 694, 695, 696, 697, 706, 707, 676, 677, 678, 679, 680, 681, 682, 683, 684, 685, 686, 687, 688, 689, 690] (by decide +kernel) (by decide +kernel)) (goodIn_sub (fun _ h => List.mem_append_left _ (List.mem_append_right _ h)) (by decide +kernel))
set_option maxRecDepth 20000 in
theorem gL_law_L_say : GoodIn wsL_law (va_wsS RL 111 yL_say wsL_say) := goodIn_app (goodIn_of _ (by decide +kernel)) ggL_law_L_say
set_option maxRecDepth 20000 in
theorem ggL_law_X6_say : GoodIn wsL_law wsX6_say := goodIn_r _ [412, 136, 93, 413, 414, 415, 5, 416, 417, 141, 142, 143, 144, 145, 146, 147, 418, 419, 420, 92, 421, 422, 423, 424, 425, 426, 427, 428, 429, 430, 100, 431, 432, 433, 434, 106, 107, 435, 436, 437, 438, 102, 103, 104, 105, 439, 440, 441, 442, 443, 444, 445, 446, 97, 447, 448, 449, 450, 101, 451, 452, 453, 454, 99, 455, 456, 263, 264, 265, 89, 267, 268, 269, 88, 457, 458, 459, 460, 666, 667, 668, 669, 670, 671, 672, 673, 674, 675, 708, 709, 710, 711, 712, 713, 714, 715, 716, 717, 718, 719, 720, 721, 722, 723, 724, 725, 726, 727, 728] (by decide +kernel) (by decide +kernel)
set_option maxRecDepth 20000 in
theorem gL_law_X6_say : GoodIn wsL_law (wsV RL 113 RX6 yX6_say wsX6_say) := goodIn_app (goodIn_of _ (by decide +kernel)) ggL_law_X6_say
set_option maxRecDepth 20000 in
theorem ggL_law_L_heard : GoodIn wsL_law wsL_heard := goodIn_ca (goodIn_r _ [463, 155, 464, 465, 466, 2, 467, 24, 120, 121, 122, 164, 165, 166, 167, 168, 468, 469, 470, 23, 471, 74, 659, 660, 661, 662, 663, 664, 665, 698, 699, 700, 701, 702, 703, 704, 705] (by decide +kernel) (by decide +kernel)) (goodIn_sub (fun _ h => List.mem_append_right _ h) (by decide +kernel))
set_option maxRecDepth 20000 in
theorem gL_law_L_heard : GoodIn wsL_law (va_wsS RL 114 yL_heard wsL_heard) := goodIn_app (goodIn_of _ (by decide +kernel)) ggL_law_L_heard
set_option maxRecDepth 20000 in
theorem ggL_law_X6_heard : GoodIn wsL_law wsX6_heard := goodIn_r _ [475, 136, 93, 141, 142, 5, 143, 144, 145, 146, 147, 666, 667, 668, 669, 670, 671, 672, 673, 674, 675, 708, 709, 710, 711, 712, 713, 714, 715, 716, 717, 718, 719, 720, 721, 722, 723, 724, 725, 726, 727, 728] (by decide +kernel) (by decide +kernel)
set_option maxRecDepth 20000 in
theorem gL_law_X6_heard : GoodIn wsL_law (wsV RL 116 RX6 yX6_heard wsX6_heard) := goodIn_app (goodIn_of _ (by decide +kernel)) ggL_law_X6_heard
set_option maxRecDepth 20000 in
theorem ggL_law_X4_inOrder : GoodIn wsL_law wsX4_inOrder := goodIn_r _ [479, 24, 480, 481, 482, 23, 483, 76, 80, 659, 660, 661, 662, 663, 664, 665, 698, 699, 700, 701, 702, 703, 704, 705] (by decide +kernel) (by decide +kernel)
set_option maxRecDepth 20000 in
theorem gL_law_X4_inOrder : GoodIn wsL_law (wsV RL 117 RX4 yX4_inOrder wsX4_inOrder) := goodIn_app (goodIn_of _ (by decide +kernel)) ggL_law_X4_inOrder
set_option maxRecDepth 20000 in
theorem ggL_law_X6_inOrder : GoodIn wsL_law wsX6_inOrder := goodIn_r _ [487, 136, 93, 488, 489, 490, 92, 491, 423, 427, 666, 667, 668, 669, 670, 671, 672, 673, 674, 675, 708, 709, 710, 711, 712, 713, 714, 715, 716, 717, 718, 719, 720, 721, 722, 723, 724, 725, 726, 727, 728] (by decide +kernel) (by decide +kernel)
set_option maxRecDepth 20000 in
theorem gL_law_X6_inOrder : GoodIn wsL_law (wsV RL 121 RX6 yX6_inOrder wsX6_inOrder) := goodIn_app (goodIn_of _ (by decide +kernel)) ggL_law_X6_inOrder
set_option maxRecDepth 20000 in
theorem ggL_law_L_first : GoodIn wsL_law wsL_first := goodIn_ca (goodIn_r _ [494, 155, 495, 496, 497, 2, 498, 24, 120, 121, 122, 164, 165, 166, 167, 168, 659, 660, 661, 662, 663, 664, 665, 698, 699, 700, 701, 702, 703, 704, 705] (by decide +kernel) (by decide +kernel)) (goodIn_sub (fun _ h => List.mem_append_right _ h) (by decide +kernel))
set_option maxRecDepth 20000 in
theorem gL_law_L_first : GoodIn wsL_law (va_wsS RL 122 yL_first wsL_first) := goodIn_app (goodIn_of _ (by decide +kernel)) ggL_law_L_first
set_option maxRecDepth 20000 in
theorem ggL_law_X6_first : GoodIn wsL_law wsX6_first := goodIn_r _ [502, 136, 93, 141, 142, 5, 143, 144, 145, 146, 147, 666, 667, 668, 669, 670, 671, 672, 673, 674, 675, 708, 709, 710, 711, 712, 713, 714, 715, 716, 717, 718, 719, 720, 721, 722, 723, 724, 725, 726, 727, 728] (by decide +kernel) (by decide +kernel)
set_option maxRecDepth 20000 in
theorem gL_law_X6_first : GoodIn wsL_law (wsV RL 124 RX6 yX6_first wsX6_first) := goodIn_app (goodIn_of _ (by decide +kernel)) ggL_law_X6_first
set_option maxRecDepth 20000 in
theorem ggL_law_L_count : GoodIn wsL_law wsL_count := goodIn_ca (goodIn_r _ [505, 155, 506, 507, 508, 2, 509, 120, 121, 122, 164, 165, 166, 167, 168, 510, 511, 512, 513, 16, 26, 27, 28, 24, 514, 515, 516, 15, 517, 48, 250, 251, 252, 253, 35, 42, 49, 43, 518, 519, 520, 521, 47, 37, 659, 660, 661, 662, 663, 664, 665, 676, 677, 678, 679, 680, 681, 682, 683, 684, 685, 686, 687, 688, 689, 690, 698, 699, 700, 701, 702, 703, 704, 705] (by decide +kernel) (by decide +kernel)) (goodIn_sub (fun _ h => List.mem_append_right _ h) (by decide +kernel))
set_option maxRecDepth 20000 in
theorem gL_law_L_count : GoodIn wsL_law (va_wsS RL 125 yL_count wsL_count) := goodIn_app (goodIn_of _ (by decide +kernel)) ggL_law_L_count
set_option maxRecDepth 20000 in
theorem ggL_law_X6_count : GoodIn wsL_law wsX6_count := goodIn_r _ [525, 136, 141, 142, 5, 143, 526, 527, 528, 529, 86, 181, 197, 88, 87, 413, 93, 266, 267, 268, 269, 89, 144, 145, 146, 147, 666, 667, 668, 669, 670, 671, 672, 673, 674, 675, 708, 709, 710, 711, 712, 713, 714, 715, 716, 717, 718, 719, 720, 721, 722, 723, 724, 725, 726, 727, 728] (by decide +kernel) (by decide +kernel)
set_option maxRecDepth 20000 in
theorem gL_law_X6_count : GoodIn wsL_law (wsV RL 127 RX6 yX6_count wsX6_count) := goodIn_app (goodIn_of _ (by decide +kernel)) ggL_law_X6_count
set_option maxRecDepth 20000 in
theorem ggL_law_L_would : GoodIn wsL_law wsL_would := goodIn_ca (goodIn_ca (goodIn_r _ [532, 112, 155, 533, 534, 535, 2, 536, 20, 26, 25, 300, 301, 302, 303, 304, 305, 306, 120, 121, 122, 123, 124, 125, 126, 127, 164, 165, 166, 167, 168, 307, 308, 309, 19, 310, 58, 311, 312, 313, 314, 315, 23, 316, 76, 77, 78, 79, 80, 81, 75, 317, 318, 319, 320, 321, 322, 323, 324, 62, 63, 325, 326, 327, 57, 328, 69, 329, 330, 331, 332, 59, 60, 61, 333, 334, 335, 336, 337, 338, 339, 68, 340, 341, 342, 343, 344, 345, 346, 347, 348, 349, 350, 351, 352, 353, 354, 355, 54, 356, 357, 358, 359, 360, 361, 362, 363, 364, 365, 366, 367, 368, 369, 370, 371, 161, 162, 15, 163, 47, 372, 373, 374, 375, 74, 376, 377, 378, 379, 380, 381, 382, 383, 36, 384, 385, 386, 387, 388, 389, 390, 391, 392, 251, 252, 253, 35, 42, 49, 43, 393, 394, 395, 396, 397, 398, 399, 400, 401, 402, 403, 404, 45, 405, 406, 407, 408, 34, 480, 481, 482, 483, 659, 660, 661, 662, 663, 664, 665, 698, 699, 700, 701, 702, 703, 704, 705, 691, 692, 693, 694, 695, 696, 697, 706, 707, 676, 677, 678, 679, 680, 681, 682, 683, 684, 685, 686, 687, 688, 689, 690] (by decide +kernel) (by decide +kernel)) (goodIn_sub (fun _ h => List.mem_append_left _ (List.mem_append_right _ h)) (by decide +kernel))) (goodIn_sub (fun _ h => List.mem_append_right _ h) (by decide +kernel))
set_option maxRecDepth 20000 in
theorem gL_law_L_would : GoodIn wsL_law (va_wsS RL 128 yL_would wsL_would) := goodIn_app (goodIn_of _ (by decide +kernel)) ggL_law_L_would
set_option maxRecDepth 20000 in
theorem ggL_law_X6_would : GoodIn wsL_law wsX6_would := goodIn_r _ [540, 136, 94, 414, 415, 5, 416, 417, 141, 142, 143, 144, 145, 146, 147, 541, 542, 543, 544, 418, 419, 420, 92, 421, 422, 423, 424, 425, 426, 427, 428, 429, 430, 100, 431, 432, 433, 434, 106, 107, 435, 436, 437, 438, 102, 103, 104, 105, 439, 440, 441, 442, 443, 444, 445, 446, 97, 447, 448, 449, 450, 101, 451, 452, 453, 454, 99, 455, 456, 263, 264, 265, 89, 267, 268, 269, 88, 457, 458, 459, 460, 488, 489, 490, 491, 666, 667, 668, 669, 670, 671, 672, 673, 674, 675, 708, 709, 710, 711, 712, 713, 714, 715, 716, 717, 718, 719, 720, 721, 722, 723, 724, 725, 726, 727, 728] (by decide +kernel) (by decide +kernel)
set_option maxRecDepth 20000 in
theorem gL_law_X6_would : GoodIn wsL_law (wsV RL 130 RX6 yX6_would wsX6_would) := goodIn_app (goodIn_of _ (by decide +kernel)) ggL_law_X6_would
set_option maxRecDepth 20000 in
theorem ggL_law_L_advise : GoodIn wsL_law wsL_advise := goodIn_ca (goodIn_r _ [547, 112, 548, 549, 550, 2, 551, 16, 300, 301, 302, 303, 304, 305, 306, 120, 121, 122, 123, 124, 125, 126, 127, 216, 217, 218, 15, 219, 37, 38, 552, 553, 554, 555, 20, 26, 25, 307, 308, 309, 19, 310, 58, 311, 312, 313, 314, 315, 23, 316, 76, 77, 78, 79, 80, 81, 75, 317, 318, 319, 320, 321, 322, 323, 324, 62, 63, 325, 326, 327, 57, 328, 69, 329, 330, 331, 332, 59, 60, 61, 333, 334, 335, 336, 337, 338, 339, 68, 340, 341, 342, 343, 344, 345, 346, 347, 348, 349, 350, 351, 352, 353, 354, 355, 54, 356, 357, 358, 359, 360, 361, 362, 363, 364, 365, 366, 367, 368, 369, 370, 371, 161, 162, 163, 47, 372, 373, 374, 375, 74, 376, 377, 378, 379, 380, 381, 382, 383, 36, 384, 385, 386, 387, 388, 389, 390, 391, 392, 251, 252, 253, 35, 42, 49, 43, 393, 394, 395, 396, 397, 398, 399, 400, 401, 402, 403, 404, 45, 405, 406, 407, 408, 34, 480, 481, 482, 483, 659, 660, 661, 662, 663, 664, 665, 676, 677, 678, 679, 680, 681, 682, 683, 684, 685, 686, 687, 688, 689, 690, 691, 692, 693, 694, 695, 696, 697, 698, 699, 700, 701, 702, 703, 704, 705, 706, 707] (by decide +kernel) (by decide +kernel)) (goodIn_sub (fun _ h => List.mem_append_left _ (List.mem_append_right _ h)) (by decide +kernel))
set_option maxRecDepth 20000 in
theorem gL_law_L_advise : GoodIn wsL_law (va_wsS RL 131 yL_advise wsL_advise) := goodIn_app (goodIn_of _ (by decide +kernel)) ggL_law_L_advise
set_option maxRecDepth 20000 in
theorem ggL_law_X6_advise : GoodIn wsL_law wsX6_advise := goodIn_r _ [559, 136, 86, 94, 414, 415, 5, 416, 417, 141, 142, 143, 144, 145, 146, 147, 560, 561, 562, 92, 563, 99, 455, 456, 541, 542, 543, 544, 418, 419, 420, 421, 422, 423, 424, 425, 426, 427, 428, 429, 430, 100, 431, 432, 433, 434, 106, 107, 435, 436, 437, 438, 102, 103, 104, 105, 439, 440, 441, 442, 443, 444, 445, 446, 97, 447, 448, 449, 450, 101, 451, 452, 453, 454, 263, 264, 265, 89, 267, 268, 269, 88, 457, 458, 459, 460, 488, 489, 490, 491, 666, 667, 668, 669, 670, 671, 672, 673, 674, 675, 708, 709, 710, 711, 712, 713, 714, 715, 716, 717, 718, 719, 720, 721, 722, 723, 724, 725, 726, 727, 728] (by decide +kernel) (by decide +kernel)
set_option maxRecDepth 20000 in
theorem gL_law_X6_advise : GoodIn wsL_law (wsV RL 133 RX6 yX6_advise wsX6_advise) := goodIn_app (goodIn_of _ (by decide +kernel)) ggL_law_X6_advise
set_option maxRecDepth 20000 in
theorem ggL_law_L_longest : GoodIn wsL_law wsL_longest := goodIn_ca (goodIn_r _ [566, 112, 567, 568, 569, 2, 570, 120, 121, 122, 123, 124, 125, 126, 127, 552, 553, 554, 555, 20, 26, 25, 307, 308, 309, 19, 310, 58, 311, 312, 313, 314, 315, 23, 316, 76, 77, 78, 79, 80, 81, 75, 317, 318, 319, 320, 321, 322, 323, 324, 62, 63, 325, 326, 327, 57, 328, 69, 329, 330, 331, 332, 59, 60, 61, 333, 334, 335, 336, 337, 338, 339, 68, 340, 341, 342, 343, 344, 345, 346, 347, 348, 349, 350, 351, 352, 353, 354, 355, 54, 356, 357, 358, 359, 360, 361, 362, 363, 364, 365, 366, 367, 368, 369, 370, 371, 161, 162, 15, 163, 47, 372, 373, 374, 375, 74, 376, 377, 378, 379, 380, 381, 382, 383, 36, 384, 385, 386, 387, 388, 389, 390, 391, 392, 251, 252, 253, 35, 42, 49, 43, 393, 394, 395, 396, 397, 398, 399, 400, 401, 402, 403, 404, 45, 405, 406, 407, 408, 34, 480, 481, 482, 483, 659, 660, 661, 662, 663, 664, 665, 691, 692, 693, 694, 695, 696, 697, 698, 699, 700, 701, 702, 703, 704, 705, 706, 707, 676, 677, 678, 679, 680, 681, 682, 683, 684, 685, 686, 687, 688, 689, 690] (by decide +kernel) (by decide +kernel)) (goodIn_sub (fun _ h => List.mem_append_left _ (List.mem_append_right _ h)) (by decide +kernel))
set_option maxRecDepth 20000 in
theorem gL_law_L_longest : GoodIn wsL_law (va_wsS RL 134 yL_longest wsL_longest) := goodIn_app (goodIn_of _ (by decide +kernel)) ggL_law_L_longest
set_option maxRecDepth 20000 in
theorem ggL_law_X6_longest : GoodIn wsL_law wsX6_longest := goodIn_r _ [574, 136, 141, 142, 5, 143, 144, 145, 146, 147, 541, 542, 543, 544, 94, 418, 419, 420, 92, 421, 422, 423, 424, 425, 426, 427, 428, 429, 430, 100, 431, 432, 433, 434, 106, 107, 435, 436, 437, 438, 102, 103, 104, 105, 439, 440, 441, 442, 443, 444, 445, 446, 97, 447, 448, 449, 450, 101, 451, 452, 453, 454, 99, 455, 456, 263, 264, 265, 89, 267, 268, 269, 88, 457, 458, 459, 460, 488, 489, 490, 491, 666, 667, 668, 669, 670, 671, 672, 673, 674, 675, 708, 709, 710, 711, 712, 713, 714, 715, 716, 717, 718, 719, 720, 721, 722, 723, 724, 725, 726, 727, 728] (by decide +kernel) (by decide +kernel)
set_option maxRecDepth 20000 in
theorem gL_law_X6_longest : GoodIn wsL_law (wsV RL 136 RX6 yX6_longest wsX6_longest) := goodIn_app (goodIn_of _ (by decide +kernel)) ggL_law_X6_longest
set_option maxRecDepth 20000 in
theorem ggL_law_L_quickest : GoodIn wsL_law wsL_quickest := goodIn_ca (goodIn_r _ [577, 112, 578, 579, 580, 2, 581, 303, 304, 305, 306, 120, 121, 122, 123, 124, 125, 126, 127, 552, 553, 554, 555, 20, 26, 25, 307, 308, 309, 19, 310, 58, 311, 312, 313, 314, 315, 23, 316, 76, 77, 78, 79, 80, 81, 75, 317, 318, 319, 320, 321, 322, 323, 324, 62, 63, 325, 326, 327, 57, 328, 69, 329, 330, 331, 332, 59, 60, 61, 333, 334, 335, 336, 337, 338, 339, 68, 340, 341, 342, 343, 344, 345, 346, 347, 348, 349, 350, 351, 352, 353, 354, 355, 54, 356, 357, 358, 359, 360, 361, 362, 363, 364, 365, 366, 367, 368, 369, 370, 371, 161, 162, 15, 163, 47, 372, 373, 374, 375, 74, 376, 377, 378, 379, 380, 381, 382, 383, 36, 384, 385, 386, 387, 388, 389, 390, 391, 392, 251, 252, 253, 35, 42, 49, 43, 393, 394, 395, 396, 397, 398, 399, 400, 401, 402, 403, 404, 45, 405, 406, 407, 408, 34, 480, 481, 482, 483, 659, 660, 661, 662, 663, 664, 665, 691, 692, 693, 694, 695, 696, 697, 698, 699, 700, 701, 702, 703, 704, 705, 706, 707, 676, 677, 678, 679, 680, 681, 682, 683, 684, 685, 686, 687, 688, 689, 690] (by decide +kernel) (by decide +kernel)) (goodIn_sub (fun _ h => List.mem_append_left _ (List.mem_append_right _ h)) (by decide +kernel))
set_option maxRecDepth 20000 in
theorem gL_law_L_quickest : GoodIn wsL_law (va_wsS RL 137 yL_quickest wsL_quickest) := goodIn_app (goodIn_of _ (by decide +kernel)) ggL_law_L_quickest
set_option maxRecDepth 20000 in
theorem ggL_law_X6_quickest : GoodIn wsL_law wsX6_quickest := goodIn_r _ [585, 136, 414, 415, 5, 416, 417, 141, 142, 143, 144, 145, 146, 147, 541, 542, 543, 544, 94, 418, 419, 420, 92, 421, 422, 423, 424, 425, 426, 427, 428, 429, 430, 100, 431, 432, 433, 434, 106, 107, 435, 436, 437, 438, 102, 103, 104, 105, 439, 440, 441, 442, 443, 444, 445, 446, 97, 447, 448, 449, 450, 101, 451, 452, 453, 454, 99, 455, 456, 263, 264, 265, 89, 267, 268, 269, 88, 457, 458, 459, 460, 488, 489, 490, 491, 666, 667, 668, 669, 670, 671, 672, 673, 674, 675, 708, 709, 710, 711, 712, 713, 714, 715, 716, 717, 718, 719, 720, 721, 722, 723, 724, 725, 726, 727, 728] (by decide +kernel) (by decide +kernel)
set_option maxRecDepth 20000 in
theorem gL_law_X6_quickest : GoodIn wsL_law (wsV RL 139 RX6 yX6_quickest wsX6_quickest) := goodIn_app (goodIn_of _ (by decide +kernel)) ggL_law_X6_quickest
set_option maxRecDepth 20000 in
theorem ggL_law_L_way : GoodIn wsL_law wsL_way := goodIn_ca (goodIn_r _ [588, 155, 589, 590, 591, 2, 592, 16, 160, 161, 162, 15, 163, 47, 121, 122, 164, 165, 166, 167, 168, 593, 594, 595, 596, 46, 48, 42, 43, 44, 597, 318, 319, 320, 250, 251, 252, 253, 35, 49, 598, 599, 600, 601, 659, 660, 661, 662, 663, 664, 665, 676, 677, 678, 679, 680, 681, 682, 683, 684, 685, 686, 687, 688, 689, 690] (by decide +kernel) (by decide +kernel)) (goodIn_sub (fun _ h => List.mem_append_right _ h) (by decide +kernel))
set_option maxRecDepth 20000 in
theorem gL_law_L_way : GoodIn wsL_law (va_wsS RL 140 yL_way wsL_way) := goodIn_app (goodIn_of _ (by decide +kernel)) ggL_law_L_way
set_option maxRecDepth 20000 in
theorem ggL_law_X6_way : GoodIn wsL_law wsX6_way := goodIn_r _ [605, 136, 197, 182, 183, 184, 5, 185, 86, 141, 142, 143, 606, 607, 608, 609, 33, 181, 89, 610, 611, 433, 612, 266, 267, 268, 269, 88, 144, 145, 146, 147, 666, 667, 668, 669, 670, 671, 672, 673, 674, 675] (by decide +kernel) (by decide +kernel)
set_option maxRecDepth 20000 in
theorem gL_law_X6_way : GoodIn wsL_law (wsV RL 142 RX6 yX6_way wsX6_way) := goodIn_app (goodIn_of _ (by decide +kernel)) ggL_law_X6_way
set_option maxRecDepth 20000 in
theorem ggL_law_L_highest : GoodIn wsL_law wsL_highest := goodIn_ca (goodIn_r _ [615, 155, 616, 617, 618, 2, 619, 16, 160, 161, 162, 15, 163, 47, 121, 122, 164, 165, 166, 167, 168, 620, 621, 622, 623, 46, 48, 42, 43, 597, 318, 319, 320, 624, 625, 626, 627, 35, 628, 611, 433, 612, 629, 432, 434, 659, 660, 661, 662, 663, 664, 665, 676, 677, 678, 679, 680, 681, 682, 683, 684, 685, 686, 687, 688, 689, 690] (by decide +kernel) (by decide +kernel)) (goodIn_sub (fun _ h => List.mem_append_right _ h) (by decide +kernel))
set_option maxRecDepth 20000 in
theorem gL_law_L_highest : GoodIn wsL_law (va_wsS RL 143 yL_highest wsL_highest) := goodIn_app (goodIn_of _ (by decide +kernel)) ggL_law_L_highest
set_option maxRecDepth 20000 in
theorem ggL_law_X6_highest : GoodIn wsL_law wsX6_highest := goodIn_r _ [633, 136, 182, 183, 184, 5, 185, 86, 141, 142, 143, 144, 145, 146, 147, 606, 607, 608, 609, 33, 181, 89, 610, 611, 433, 612, 266, 267, 268, 269, 88, 666, 667, 668, 669, 670, 671, 672, 673, 674, 675] (by decide +kernel) (by decide +kernel)
set_option maxRecDepth 20000 in
theorem gL_law_X6_highest : GoodIn wsL_law (wsV RL 145 RX6 yX6_highest wsX6_highest) := goodIn_app (goodIn_of _ (by decide +kernel)) ggL_law_X6_highest
set_option maxRecDepth 20000 in
theorem ggL_law_X4_mean : GoodIn wsL_law wsX4_mean := goodIn_r _ [637, 24, 638, 639, 640, 23, 641, 78, 642, 469, 470, 471, 74, 659, 660, 661, 662, 663, 664, 665, 698, 699, 700, 701, 702, 703, 704, 705] (by decide +kernel) (by decide +kernel)
set_option maxRecDepth 20000 in
theorem gL_law_X4_mean : GoodIn wsL_law (wsV RL 146 RX4 yX4_mean wsX4_mean) := goodIn_app (goodIn_of _ (by decide +kernel)) ggL_law_X4_mean
set_option maxRecDepth 20000 in
theorem ggL_law_X6_mean : GoodIn wsL_law wsX6_mean := goodIn_r _ [646, 136, 93, 666, 667, 668, 669, 670, 671, 672, 673, 674, 675, 708, 709, 710, 711, 712, 713, 714, 715, 716, 717, 718, 719, 720, 721, 722, 723, 724, 725, 726, 727, 728] (by decide +kernel) (by decide +kernel)
set_option maxRecDepth 20000 in
theorem gL_law_X6_mean : GoodIn wsL_law (wsV RL 150 RX6 yX6_mean wsX6_mean) := goodIn_app (goodIn_of _ (by decide +kernel)) ggL_law_X6_mean
set_option maxRecDepth 20000 in
theorem ggL_law_X4_digest : GoodIn wsL_law wsX4_digest := goodIn_r _ [650, 651, 652, 16, 24, 510, 511, 512, 2, 513, 26, 27, 28, 514, 515, 516, 15, 517, 48, 250, 251, 252, 253, 35, 42, 49, 43, 518, 519, 520, 521, 47, 37, 242, 243, 244, 245, 34, 36, 38, 39, 246, 247, 248, 249, 41, 281, 282, 283, 284, 44, 45, 468, 469, 470, 23, 471, 74, 480, 481, 482, 483, 76, 80, 659, 660, 661, 662, 663, 664, 665, 676, 677, 678, 679, 680, 681, 682, 683, 684, 685, 686, 687, 688, 689, 690, 698, 699, 700, 701, 702, 703, 704, 705] (by decide +kernel) (by decide +kernel)
set_option maxRecDepth 20000 in
theorem gL_law_X4_digest : GoodIn wsL_law (wsV RL 151 RX4 yX4_digest wsX4_digest) := goodIn_app (goodIn_of _ (by decide +kernel)) ggL_law_X4_digest
set_option maxRecDepth 20000 in
theorem ggL_law_X6_digest : GoodIn wsL_law wsX6_digest := goodIn_r _ [656, 136, 657, 658, 86, 181, 93, 526, 527, 528, 5, 529, 197, 88, 87, 413, 266, 267, 268, 269, 89, 258, 259, 260, 261, 262, 263, 264, 265, 289, 290, 291, 292, 488, 489, 490, 92, 491, 423, 427, 666, 667, 668, 669, 670, 671, 672, 673, 674, 675, 708, 709, 710, 711, 712, 713, 714, 715, 716, 717, 718, 719, 720, 721, 722, 723, 724, 725, 726, 727, 728] (by decide +kernel) (by decide +kernel)
set_option maxRecDepth 20000 in
theorem gL_law_X6_digest : GoodIn wsL_law (wsV RL 155 RX6 yX6_digest wsX6_digest) := goodIn_app (goodIn_of _ (by decide +kernel)) ggL_law_X6_digest
theorem dL_law_0 : decode cL_law 0 = .ok (.new 8, 3) := by decide +kernel
theorem dL_law_3 : decode cL_law 3 = .ok (.dup, 1) := by decide +kernel
theorem dL_law_4 : decode cL_law 4 = .ok (.invokespecial 73, 3) := by decide +kernel
theorem dL_law_7 : decode cL_law 7 = .ok (.astore_n 1, 1) := by decide +kernel
theorem dL_law_8 : decode cL_law 8 = .ok (.new 74, 3) := by decide +kernel
theorem dL_law_11 : decode cL_law 11 = .ok (.dup, 1) := by decide +kernel
theorem dL_law_12 : decode cL_law 12 = .ok (.invokespecial 76, 3) := by decide +kernel
theorem dL_law_15 : decode cL_law 15 = .ok (.astore_n 2, 1) := by decide +kernel
theorem dL_law_16 : decode cL_law 16 = .ok (.iconst 1, 1) := by decide +kernel
theorem dL_law_17 : decode cL_law 17 = .ok (.newarray .long, 2) := by decide +kernel
theorem dL_law_19 : decode cL_law 19 = .ok (.astore_n 3, 1) := by decide +kernel
theorem dL_law_20 : decode cL_law 20 = .ok (.iconst 0, 1) := by decide +kernel
theorem dL_law_21 : decode cL_law 21 = .ok (.istore 4, 2) := by decide +kernel
theorem dL_law_23 : decode cL_law 23 = .ok (.iload 4, 2) := by decide +kernel
theorem dL_law_25 : decode cL_law 25 = .ok (.aload_n 0, 1) := by decide +kernel
theorem dL_law_26 : decode cL_law 26 = .ok (.arraylength, 1) := by decide +kernel
theorem dL_law_27 : decode cL_law 27 = .ok (.iconst 5, 1) := by decide +kernel
theorem dL_law_28 : decode cL_law 28 = .ok (.isub, 1) := by decide +kernel
theorem dL_law_29 : decode cL_law 29 = .ok (.if_icmp .gt 1417, 3) := by decide +kernel
theorem dL_law_32 : decode cL_law 32 = .ok (.aload_n 0, 1) := by decide +kernel
theorem dL_law_33 : decode cL_law 33 = .ok (.iload 4, 2) := by decide +kernel
theorem dL_law_35 : decode cL_law 35 = .ok (.iaload, 1) := by decide +kernel
theorem dL_law_36 : decode cL_law 36 = .ok (.bipush 31, 2) := by decide +kernel
theorem dL_law_38 : decode cL_law 38 = .ok (.iand, 1) := by decide +kernel
theorem dL_law_39 : decode cL_law 39 = .ok (.tableswitch 1401 0 20 #[97, 177, 269, 325, 393, 473, 529, 597, 665, 733, 801, 814, 870, 926, 1006, 1098, 1166, 1222, 1290, 1346, 1387], 97) := by decide +kernel
theorem dL_law_136 : decode cL_law 136 = .ok (.aload_n 1, 1) := by decide +kernel
theorem dL_law_137 : decode cL_law 137 = .ok (.aload_n 0, 1) := by decide +kernel
theorem dL_law_138 : decode cL_law 138 = .ok (.iload 4, 2) := by decide +kernel
theorem dL_law_140 : decode cL_law 140 = .ok (.iconst 1, 1) := by decide +kernel
theorem dL_law_141 : decode cL_law 141 = .ok (.iadd, 1) := by decide +kernel
theorem dL_law_142 : decode cL_law 142 = .ok (.iaload, 1) := by decide +kernel
theorem dL_law_143 : decode cL_law 143 = .ok (.aload_n 0, 1) := by decide +kernel
theorem dL_law_144 : decode cL_law 144 = .ok (.iload 4, 2) := by decide +kernel
theorem dL_law_146 : decode cL_law 146 = .ok (.iconst 2, 1) := by decide +kernel
theorem dL_law_147 : decode cL_law 147 = .ok (.iadd, 1) := by decide +kernel
theorem dL_law_148 : decode cL_law 148 = .ok (.iaload, 1) := by decide +kernel
theorem dL_law_149 : decode cL_law 149 = .ok (.aload_n 0, 1) := by decide +kernel
theorem dL_law_150 : decode cL_law 150 = .ok (.iload 4, 2) := by decide +kernel
theorem dL_law_152 : decode cL_law 152 = .ok (.iconst 3, 1) := by decide +kernel
theorem dL_law_153 : decode cL_law 153 = .ok (.iadd, 1) := by decide +kernel
theorem dL_law_154 : decode cL_law 154 = .ok (.iaload, 1) := by decide +kernel
theorem dL_law_155 : decode cL_law 155 = .ok (.aload_n 3, 1) := by decide +kernel
theorem dL_law_156 : decode cL_law 156 = .ok (.invokestatic 77, 3) := by decide +kernel
theorem dL_law_159 : decode cL_law 159 = .ok (.istore 5, 2) := by decide +kernel
theorem dL_law_161 : decode cL_law 161 = .ok (.aload_n 2, 1) := by decide +kernel
theorem dL_law_162 : decode cL_law 162 = .ok (.aload_n 0, 1) := by decide +kernel
theorem dL_law_163 : decode cL_law 163 = .ok (.iload 4, 2) := by decide +kernel
theorem dL_law_165 : decode cL_law 165 = .ok (.iconst 1, 1) := by decide +kernel
theorem dL_law_166 : decode cL_law 166 = .ok (.iadd, 1) := by decide +kernel
theorem dL_law_167 : decode cL_law 167 = .ok (.iaload, 1) := by decide +kernel
theorem dL_law_168 : decode cL_law 168 = .ok (.aload_n 0, 1) := by decide +kernel
theorem dL_law_169 : decode cL_law 169 = .ok (.iload 4, 2) := by decide +kernel
theorem dL_law_171 : decode cL_law 171 = .ok (.iconst 2, 1) := by decide +kernel
theorem dL_law_172 : decode cL_law 172 = .ok (.iadd, 1) := by decide +kernel
theorem dL_law_173 : decode cL_law 173 = .ok (.iaload, 1) := by decide +kernel
theorem dL_law_174 : decode cL_law 174 = .ok (.aload_n 0, 1) := by decide +kernel
theorem dL_law_175 : decode cL_law 175 = .ok (.iload 4, 2) := by decide +kernel
theorem dL_law_177 : decode cL_law 177 = .ok (.iconst 3, 1) := by decide +kernel
theorem dL_law_178 : decode cL_law 178 = .ok (.iadd, 1) := by decide +kernel
theorem dL_law_179 : decode cL_law 179 = .ok (.iaload, 1) := by decide +kernel
theorem dL_law_180 : decode cL_law 180 = .ok (.invokevirtual 82, 3) := by decide +kernel
theorem dL_law_183 : decode cL_law 183 = .ok (.istore 6, 2) := by decide +kernel
theorem dL_law_185 : decode cL_law 185 = .ok (.aload_n 2, 1) := by decide +kernel
theorem dL_law_186 : decode cL_law 186 = .ok (.invokevirtual 83, 3) := by decide +kernel
theorem dL_law_189 : decode cL_law 189 = .ok (.iload 5, 2) := by decide +kernel
theorem dL_law_191 : decode cL_law 191 = .ok (.if_icmp .eq 5, 3) := by decide +kernel
theorem dL_law_194 : decode cL_law 194 = .ok (.iconst 0, 1) := by decide +kernel
theorem dL_law_195 : decode cL_law 195 = .ok (.ireturn, 1) := by decide +kernel
theorem dL_law_196 : decode cL_law 196 = .ok (.iload 5, 2) := by decide +kernel
theorem dL_law_198 : decode cL_law 198 = .ok (.ifCond .ne 15, 3) := by decide +kernel
theorem dL_law_201 : decode cL_law 201 = .ok (.aload_n 3, 1) := by decide +kernel
theorem dL_law_202 : decode cL_law 202 = .ok (.iconst 0, 1) := by decide +kernel
theorem dL_law_203 : decode cL_law 203 = .ok (.laload, 1) := by decide +kernel
theorem dL_law_204 : decode cL_law 204 = .ok (.iload 6, 2) := by decide +kernel
theorem dL_law_206 : decode cL_law 206 = .ok (.i2l, 1) := by decide +kernel
theorem dL_law_207 : decode cL_law 207 = .ok (.lcmp, 1) := by decide +kernel
theorem dL_law_208 : decode cL_law 208 = .ok (.ifCond .eq 5, 3) := by decide +kernel
theorem dL_law_211 : decode cL_law 211 = .ok (.iconst 0, 1) := by decide +kernel
theorem dL_law_212 : decode cL_law 212 = .ok (.ireturn, 1) := by decide +kernel
theorem dL_law_213 : decode cL_law 213 = .ok (.goto 1227, 3) := by decide +kernel
theorem dL_law_216 : decode cL_law 216 = .ok (.aload_n 1, 1) := by decide +kernel
theorem dL_law_217 : decode cL_law 217 = .ok (.aload_n 0, 1) := by decide +kernel
theorem dL_law_218 : decode cL_law 218 = .ok (.iload 4, 2) := by decide +kernel
theorem dL_law_220 : decode cL_law 220 = .ok (.iconst 1, 1) := by decide +kernel
theorem dL_law_221 : decode cL_law 221 = .ok (.iadd, 1) := by decide +kernel
theorem dL_law_222 : decode cL_law 222 = .ok (.iaload, 1) := by decide +kernel
theorem dL_law_223 : decode cL_law 223 = .ok (.aload_n 0, 1) := by decide +kernel
theorem dL_law_224 : decode cL_law 224 = .ok (.iload 4, 2) := by decide +kernel
theorem dL_law_226 : decode cL_law 226 = .ok (.iconst 2, 1) := by decide +kernel
theorem dL_law_227 : decode cL_law 227 = .ok (.iadd, 1) := by decide +kernel
theorem dL_law_228 : decode cL_law 228 = .ok (.iaload, 1) := by decide +kernel
theorem dL_law_229 : decode cL_law 229 = .ok (.aload_n 0, 1) := by decide +kernel
theorem dL_law_230 : decode cL_law 230 = .ok (.iload 4, 2) := by decide +kernel
theorem dL_law_232 : decode cL_law 232 = .ok (.iconst 3, 1) := by decide +kernel
theorem dL_law_233 : decode cL_law 233 = .ok (.iadd, 1) := by decide +kernel
theorem dL_law_234 : decode cL_law 234 = .ok (.iaload, 1) := by decide +kernel
theorem dL_law_235 : decode cL_law 235 = .ok (.aload_n 0, 1) := by decide +kernel
theorem dL_law_236 : decode cL_law 236 = .ok (.iload 4, 2) := by decide +kernel
theorem dL_law_238 : decode cL_law 238 = .ok (.iconst 4, 1) := by decide +kernel
theorem dL_law_239 : decode cL_law 239 = .ok (.iadd, 1) := by decide +kernel
theorem dL_law_240 : decode cL_law 240 = .ok (.iaload, 1) := by decide +kernel
theorem dL_law_241 : decode cL_law 241 = .ok (.aload_n 3, 1) := by decide +kernel
theorem dL_law_242 : decode cL_law 242 = .ok (.invokestatic 87, 3) := by decide +kernel
theorem dL_law_245 : decode cL_law 245 = .ok (.istore 5, 2) := by decide +kernel
theorem dL_law_247 : decode cL_law 247 = .ok (.aload_n 2, 1) := by decide +kernel
theorem dL_law_248 : decode cL_law 248 = .ok (.aload_n 0, 1) := by decide +kernel
theorem dL_law_249 : decode cL_law 249 = .ok (.iload 4, 2) := by decide +kernel
theorem dL_law_251 : decode cL_law 251 = .ok (.iconst 1, 1) := by decide +kernel
theorem dL_law_252 : decode cL_law 252 = .ok (.iadd, 1) := by decide +kernel
theorem dL_law_253 : decode cL_law 253 = .ok (.iaload, 1) := by decide +kernel
theorem dL_law_254 : decode cL_law 254 = .ok (.aload_n 0, 1) := by decide +kernel
theorem dL_law_255 : decode cL_law 255 = .ok (.iload 4, 2) := by decide +kernel
theorem dL_law_257 : decode cL_law 257 = .ok (.iconst 2, 1) := by decide +kernel
theorem dL_law_258 : decode cL_law 258 = .ok (.iadd, 1) := by decide +kernel
theorem dL_law_259 : decode cL_law 259 = .ok (.iaload, 1) := by decide +kernel
theorem dL_law_260 : decode cL_law 260 = .ok (.aload_n 0, 1) := by decide +kernel
theorem dL_law_261 : decode cL_law 261 = .ok (.iload 4, 2) := by decide +kernel
theorem dL_law_263 : decode cL_law 263 = .ok (.iconst 3, 1) := by decide +kernel
theorem dL_law_264 : decode cL_law 264 = .ok (.iadd, 1) := by decide +kernel
theorem dL_law_265 : decode cL_law 265 = .ok (.iaload, 1) := by decide +kernel
theorem dL_law_266 : decode cL_law 266 = .ok (.aload_n 0, 1) := by decide +kernel
theorem dL_law_267 : decode cL_law 267 = .ok (.iload 4, 2) := by decide +kernel
theorem dL_law_269 : decode cL_law 269 = .ok (.iconst 4, 1) := by decide +kernel
theorem dL_law_270 : decode cL_law 270 = .ok (.iadd, 1) := by decide +kernel
theorem dL_law_271 : decode cL_law 271 = .ok (.iaload, 1) := by decide +kernel
theorem dL_law_272 : decode cL_law 272 = .ok (.invokevirtual 90, 3) := by decide +kernel
theorem dL_law_275 : decode cL_law 275 = .ok (.istore 6, 2) := by decide +kernel
theorem dL_law_277 : decode cL_law 277 = .ok (.aload_n 2, 1) := by decide +kernel
theorem dL_law_278 : decode cL_law 278 = .ok (.invokevirtual 83, 3) := by decide +kernel
theorem dL_law_281 : decode cL_law 281 = .ok (.iload 5, 2) := by decide +kernel
theorem dL_law_283 : decode cL_law 283 = .ok (.if_icmp .eq 5, 3) := by decide +kernel
theorem dL_law_286 : decode cL_law 286 = .ok (.iconst 0, 1) := by decide +kernel
theorem dL_law_287 : decode cL_law 287 = .ok (.ireturn, 1) := by decide +kernel
theorem dL_law_288 : decode cL_law 288 = .ok (.iload 5, 2) := by decide +kernel
theorem dL_law_290 : decode cL_law 290 = .ok (.ifCond .ne 15, 3) := by decide +kernel
theorem dL_law_293 : decode cL_law 293 = .ok (.aload_n 3, 1) := by decide +kernel
theorem dL_law_294 : decode cL_law 294 = .ok (.iconst 0, 1) := by decide +kernel
theorem dL_law_295 : decode cL_law 295 = .ok (.laload, 1) := by decide +kernel
theorem dL_law_296 : decode cL_law 296 = .ok (.iload 6, 2) := by decide +kernel
theorem dL_law_298 : decode cL_law 298 = .ok (.i2l, 1) := by decide +kernel
theorem dL_law_299 : decode cL_law 299 = .ok (.lcmp, 1) := by decide +kernel
theorem dL_law_300 : decode cL_law 300 = .ok (.ifCond .eq 5, 3) := by decide +kernel
theorem dL_law_303 : decode cL_law 303 = .ok (.iconst 0, 1) := by decide +kernel
theorem dL_law_304 : decode cL_law 304 = .ok (.ireturn, 1) := by decide +kernel
theorem dL_law_305 : decode cL_law 305 = .ok (.goto 1135, 3) := by decide +kernel
theorem dL_law_308 : decode cL_law 308 = .ok (.aload_n 1, 1) := by decide +kernel
theorem dL_law_309 : decode cL_law 309 = .ok (.aload_n 0, 1) := by decide +kernel
theorem dL_law_310 : decode cL_law 310 = .ok (.iload 4, 2) := by decide +kernel
theorem dL_law_312 : decode cL_law 312 = .ok (.iconst 1, 1) := by decide +kernel
theorem dL_law_313 : decode cL_law 313 = .ok (.iadd, 1) := by decide +kernel
theorem dL_law_314 : decode cL_law 314 = .ok (.iaload, 1) := by decide +kernel
theorem dL_law_315 : decode cL_law 315 = .ok (.aload_n 3, 1) := by decide +kernel
theorem dL_law_316 : decode cL_law 316 = .ok (.invokestatic 91, 3) := by decide +kernel
theorem dL_law_319 : decode cL_law 319 = .ok (.istore 5, 2) := by decide +kernel
theorem dL_law_321 : decode cL_law 321 = .ok (.aload_n 2, 1) := by decide +kernel
theorem dL_law_322 : decode cL_law 322 = .ok (.aload_n 0, 1) := by decide +kernel
theorem dL_law_323 : decode cL_law 323 = .ok (.iload 4, 2) := by decide +kernel
theorem dL_law_325 : decode cL_law 325 = .ok (.iconst 1, 1) := by decide +kernel
theorem dL_law_326 : decode cL_law 326 = .ok (.iadd, 1) := by decide +kernel
theorem dL_law_327 : decode cL_law 327 = .ok (.iaload, 1) := by decide +kernel
theorem dL_law_328 : decode cL_law 328 = .ok (.invokevirtual 94, 3) := by decide +kernel
theorem dL_law_331 : decode cL_law 331 = .ok (.istore 6, 2) := by decide +kernel
theorem dL_law_333 : decode cL_law 333 = .ok (.aload_n 2, 1) := by decide +kernel
theorem dL_law_334 : decode cL_law 334 = .ok (.invokevirtual 83, 3) := by decide +kernel
theorem dL_law_337 : decode cL_law 337 = .ok (.iload 5, 2) := by decide +kernel
theorem dL_law_339 : decode cL_law 339 = .ok (.if_icmp .eq 5, 3) := by decide +kernel
theorem dL_law_342 : decode cL_law 342 = .ok (.iconst 0, 1) := by decide +kernel
theorem dL_law_343 : decode cL_law 343 = .ok (.ireturn, 1) := by decide +kernel
theorem dL_law_344 : decode cL_law 344 = .ok (.iload 5, 2) := by decide +kernel
theorem dL_law_346 : decode cL_law 346 = .ok (.ifCond .ne 15, 3) := by decide +kernel
theorem dL_law_349 : decode cL_law 349 = .ok (.aload_n 3, 1) := by decide +kernel
theorem dL_law_350 : decode cL_law 350 = .ok (.iconst 0, 1) := by decide +kernel
theorem dL_law_351 : decode cL_law 351 = .ok (.laload, 1) := by decide +kernel
theorem dL_law_352 : decode cL_law 352 = .ok (.iload 6, 2) := by decide +kernel
theorem dL_law_354 : decode cL_law 354 = .ok (.i2l, 1) := by decide +kernel
theorem dL_law_355 : decode cL_law 355 = .ok (.lcmp, 1) := by decide +kernel
theorem dL_law_356 : decode cL_law 356 = .ok (.ifCond .eq 5, 3) := by decide +kernel
theorem dL_law_359 : decode cL_law 359 = .ok (.iconst 0, 1) := by decide +kernel
theorem dL_law_360 : decode cL_law 360 = .ok (.ireturn, 1) := by decide +kernel
theorem dL_law_361 : decode cL_law 361 = .ok (.goto 1079, 3) := by decide +kernel
theorem dL_law_364 : decode cL_law 364 = .ok (.aload_n 1, 1) := by decide +kernel
theorem dL_law_365 : decode cL_law 365 = .ok (.aload_n 0, 1) := by decide +kernel
theorem dL_law_366 : decode cL_law 366 = .ok (.iload 4, 2) := by decide +kernel
theorem dL_law_368 : decode cL_law 368 = .ok (.iconst 1, 1) := by decide +kernel
theorem dL_law_369 : decode cL_law 369 = .ok (.iadd, 1) := by decide +kernel
theorem dL_law_370 : decode cL_law 370 = .ok (.iaload, 1) := by decide +kernel
theorem dL_law_371 : decode cL_law 371 = .ok (.aload_n 0, 1) := by decide +kernel
theorem dL_law_372 : decode cL_law 372 = .ok (.iload 4, 2) := by decide +kernel
theorem dL_law_374 : decode cL_law 374 = .ok (.iconst 2, 1) := by decide +kernel
theorem dL_law_375 : decode cL_law 375 = .ok (.iadd, 1) := by decide +kernel
theorem dL_law_376 : decode cL_law 376 = .ok (.iaload, 1) := by decide +kernel
theorem dL_law_377 : decode cL_law 377 = .ok (.aload_n 3, 1) := by decide +kernel
theorem dL_law_378 : decode cL_law 378 = .ok (.invokestatic 95, 3) := by decide +kernel
theorem dL_law_381 : decode cL_law 381 = .ok (.istore 5, 2) := by decide +kernel
theorem dL_law_383 : decode cL_law 383 = .ok (.aload_n 2, 1) := by decide +kernel
theorem dL_law_384 : decode cL_law 384 = .ok (.aload_n 0, 1) := by decide +kernel
theorem dL_law_385 : decode cL_law 385 = .ok (.iload 4, 2) := by decide +kernel
theorem dL_law_387 : decode cL_law 387 = .ok (.iconst 1, 1) := by decide +kernel
theorem dL_law_388 : decode cL_law 388 = .ok (.iadd, 1) := by decide +kernel
theorem dL_law_389 : decode cL_law 389 = .ok (.iaload, 1) := by decide +kernel
theorem dL_law_390 : decode cL_law 390 = .ok (.aload_n 0, 1) := by decide +kernel
theorem dL_law_391 : decode cL_law 391 = .ok (.iload 4, 2) := by decide +kernel
theorem dL_law_393 : decode cL_law 393 = .ok (.iconst 2, 1) := by decide +kernel
theorem dL_law_394 : decode cL_law 394 = .ok (.iadd, 1) := by decide +kernel
theorem dL_law_395 : decode cL_law 395 = .ok (.iaload, 1) := by decide +kernel
theorem dL_law_396 : decode cL_law 396 = .ok (.invokevirtual 98, 3) := by decide +kernel
theorem dL_law_399 : decode cL_law 399 = .ok (.istore 6, 2) := by decide +kernel
theorem dL_law_401 : decode cL_law 401 = .ok (.aload_n 2, 1) := by decide +kernel
theorem dL_law_402 : decode cL_law 402 = .ok (.invokevirtual 83, 3) := by decide +kernel
theorem dL_law_405 : decode cL_law 405 = .ok (.iload 5, 2) := by decide +kernel
theorem dL_law_407 : decode cL_law 407 = .ok (.if_icmp .eq 5, 3) := by decide +kernel
theorem dL_law_410 : decode cL_law 410 = .ok (.iconst 0, 1) := by decide +kernel
theorem dL_law_411 : decode cL_law 411 = .ok (.ireturn, 1) := by decide +kernel
theorem dL_law_412 : decode cL_law 412 = .ok (.iload 5, 2) := by decide +kernel
theorem dL_law_414 : decode cL_law 414 = .ok (.ifCond .ne 15, 3) := by decide +kernel
theorem dL_law_417 : decode cL_law 417 = .ok (.aload_n 3, 1) := by decide +kernel
theorem dL_law_418 : decode cL_law 418 = .ok (.iconst 0, 1) := by decide +kernel
theorem dL_law_419 : decode cL_law 419 = .ok (.laload, 1) := by decide +kernel
theorem dL_law_420 : decode cL_law 420 = .ok (.iload 6, 2) := by decide +kernel
theorem dL_law_422 : decode cL_law 422 = .ok (.i2l, 1) := by decide +kernel
theorem dL_law_423 : decode cL_law 423 = .ok (.lcmp, 1) := by decide +kernel
theorem dL_law_424 : decode cL_law 424 = .ok (.ifCond .eq 5, 3) := by decide +kernel
theorem dL_law_427 : decode cL_law 427 = .ok (.iconst 0, 1) := by decide +kernel
theorem dL_law_428 : decode cL_law 428 = .ok (.ireturn, 1) := by decide +kernel
theorem dL_law_429 : decode cL_law 429 = .ok (.goto 1011, 3) := by decide +kernel
theorem dL_law_432 : decode cL_law 432 = .ok (.aload_n 1, 1) := by decide +kernel
theorem dL_law_433 : decode cL_law 433 = .ok (.aload_n 0, 1) := by decide +kernel
theorem dL_law_434 : decode cL_law 434 = .ok (.iload 4, 2) := by decide +kernel
theorem dL_law_436 : decode cL_law 436 = .ok (.iconst 1, 1) := by decide +kernel
theorem dL_law_437 : decode cL_law 437 = .ok (.iadd, 1) := by decide +kernel
theorem dL_law_438 : decode cL_law 438 = .ok (.iaload, 1) := by decide +kernel
theorem dL_law_439 : decode cL_law 439 = .ok (.aload_n 0, 1) := by decide +kernel
theorem dL_law_440 : decode cL_law 440 = .ok (.iload 4, 2) := by decide +kernel
theorem dL_law_442 : decode cL_law 442 = .ok (.iconst 2, 1) := by decide +kernel
theorem dL_law_443 : decode cL_law 443 = .ok (.iadd, 1) := by decide +kernel
theorem dL_law_444 : decode cL_law 444 = .ok (.iaload, 1) := by decide +kernel
theorem dL_law_445 : decode cL_law 445 = .ok (.aload_n 0, 1) := by decide +kernel
theorem dL_law_446 : decode cL_law 446 = .ok (.iload 4, 2) := by decide +kernel
theorem dL_law_448 : decode cL_law 448 = .ok (.iconst 3, 1) := by decide +kernel
theorem dL_law_449 : decode cL_law 449 = .ok (.iadd, 1) := by decide +kernel
theorem dL_law_450 : decode cL_law 450 = .ok (.iaload, 1) := by decide +kernel
theorem dL_law_451 : decode cL_law 451 = .ok (.aload_n 3, 1) := by decide +kernel
theorem dL_law_452 : decode cL_law 452 = .ok (.invokestatic 99, 3) := by decide +kernel
theorem dL_law_455 : decode cL_law 455 = .ok (.istore 5, 2) := by decide +kernel
theorem dL_law_457 : decode cL_law 457 = .ok (.aload_n 2, 1) := by decide +kernel
theorem dL_law_458 : decode cL_law 458 = .ok (.aload_n 0, 1) := by decide +kernel
theorem dL_law_459 : decode cL_law 459 = .ok (.iload 4, 2) := by decide +kernel
theorem dL_law_461 : decode cL_law 461 = .ok (.iconst 1, 1) := by decide +kernel
theorem dL_law_462 : decode cL_law 462 = .ok (.iadd, 1) := by decide +kernel
theorem dL_law_463 : decode cL_law 463 = .ok (.iaload, 1) := by decide +kernel
theorem dL_law_464 : decode cL_law 464 = .ok (.aload_n 0, 1) := by decide +kernel
theorem dL_law_465 : decode cL_law 465 = .ok (.iload 4, 2) := by decide +kernel
theorem dL_law_467 : decode cL_law 467 = .ok (.iconst 2, 1) := by decide +kernel
theorem dL_law_468 : decode cL_law 468 = .ok (.iadd, 1) := by decide +kernel
theorem dL_law_469 : decode cL_law 469 = .ok (.iaload, 1) := by decide +kernel
theorem dL_law_470 : decode cL_law 470 = .ok (.aload_n 0, 1) := by decide +kernel
theorem dL_law_471 : decode cL_law 471 = .ok (.iload 4, 2) := by decide +kernel
theorem dL_law_473 : decode cL_law 473 = .ok (.iconst 3, 1) := by decide +kernel
theorem dL_law_474 : decode cL_law 474 = .ok (.iadd, 1) := by decide +kernel
theorem dL_law_475 : decode cL_law 475 = .ok (.iaload, 1) := by decide +kernel
theorem dL_law_476 : decode cL_law 476 = .ok (.invokevirtual 101, 3) := by decide +kernel
theorem dL_law_479 : decode cL_law 479 = .ok (.istore 6, 2) := by decide +kernel
theorem dL_law_481 : decode cL_law 481 = .ok (.aload_n 2, 1) := by decide +kernel
theorem dL_law_482 : decode cL_law 482 = .ok (.invokevirtual 83, 3) := by decide +kernel
theorem dL_law_485 : decode cL_law 485 = .ok (.iload 5, 2) := by decide +kernel
theorem dL_law_487 : decode cL_law 487 = .ok (.if_icmp .eq 5, 3) := by decide +kernel
theorem dL_law_490 : decode cL_law 490 = .ok (.iconst 0, 1) := by decide +kernel
theorem dL_law_491 : decode cL_law 491 = .ok (.ireturn, 1) := by decide +kernel
theorem dL_law_492 : decode cL_law 492 = .ok (.iload 5, 2) := by decide +kernel
theorem dL_law_494 : decode cL_law 494 = .ok (.ifCond .ne 15, 3) := by decide +kernel
theorem dL_law_497 : decode cL_law 497 = .ok (.aload_n 3, 1) := by decide +kernel
theorem dL_law_498 : decode cL_law 498 = .ok (.iconst 0, 1) := by decide +kernel
theorem dL_law_499 : decode cL_law 499 = .ok (.laload, 1) := by decide +kernel
theorem dL_law_500 : decode cL_law 500 = .ok (.iload 6, 2) := by decide +kernel
theorem dL_law_502 : decode cL_law 502 = .ok (.i2l, 1) := by decide +kernel
theorem dL_law_503 : decode cL_law 503 = .ok (.lcmp, 1) := by decide +kernel
theorem dL_law_504 : decode cL_law 504 = .ok (.ifCond .eq 5, 3) := by decide +kernel
theorem dL_law_507 : decode cL_law 507 = .ok (.iconst 0, 1) := by decide +kernel
theorem dL_law_508 : decode cL_law 508 = .ok (.ireturn, 1) := by decide +kernel
theorem dL_law_509 : decode cL_law 509 = .ok (.goto 931, 3) := by decide +kernel
theorem dL_law_512 : decode cL_law 512 = .ok (.aload_n 1, 1) := by decide +kernel
theorem dL_law_513 : decode cL_law 513 = .ok (.aload_n 0, 1) := by decide +kernel
theorem dL_law_514 : decode cL_law 514 = .ok (.iload 4, 2) := by decide +kernel
theorem dL_law_516 : decode cL_law 516 = .ok (.iconst 1, 1) := by decide +kernel
theorem dL_law_517 : decode cL_law 517 = .ok (.iadd, 1) := by decide +kernel
theorem dL_law_518 : decode cL_law 518 = .ok (.iaload, 1) := by decide +kernel
theorem dL_law_519 : decode cL_law 519 = .ok (.aload_n 3, 1) := by decide +kernel
theorem dL_law_520 : decode cL_law 520 = .ok (.invokestatic 102, 3) := by decide +kernel
theorem dL_law_523 : decode cL_law 523 = .ok (.istore 5, 2) := by decide +kernel
theorem dL_law_525 : decode cL_law 525 = .ok (.aload_n 2, 1) := by decide +kernel
theorem dL_law_526 : decode cL_law 526 = .ok (.aload_n 0, 1) := by decide +kernel
theorem dL_law_527 : decode cL_law 527 = .ok (.iload 4, 2) := by decide +kernel
theorem dL_law_529 : decode cL_law 529 = .ok (.iconst 1, 1) := by decide +kernel
theorem dL_law_530 : decode cL_law 530 = .ok (.iadd, 1) := by decide +kernel
theorem dL_law_531 : decode cL_law 531 = .ok (.iaload, 1) := by decide +kernel
theorem dL_law_532 : decode cL_law 532 = .ok (.invokevirtual 104, 3) := by decide +kernel
theorem dL_law_535 : decode cL_law 535 = .ok (.istore 6, 2) := by decide +kernel
theorem dL_law_537 : decode cL_law 537 = .ok (.aload_n 2, 1) := by decide +kernel
theorem dL_law_538 : decode cL_law 538 = .ok (.invokevirtual 83, 3) := by decide +kernel
theorem dL_law_541 : decode cL_law 541 = .ok (.iload 5, 2) := by decide +kernel
theorem dL_law_543 : decode cL_law 543 = .ok (.if_icmp .eq 5, 3) := by decide +kernel
theorem dL_law_546 : decode cL_law 546 = .ok (.iconst 0, 1) := by decide +kernel
theorem dL_law_547 : decode cL_law 547 = .ok (.ireturn, 1) := by decide +kernel
theorem dL_law_548 : decode cL_law 548 = .ok (.iload 5, 2) := by decide +kernel
theorem dL_law_550 : decode cL_law 550 = .ok (.ifCond .ne 15, 3) := by decide +kernel
theorem dL_law_553 : decode cL_law 553 = .ok (.aload_n 3, 1) := by decide +kernel
theorem dL_law_554 : decode cL_law 554 = .ok (.iconst 0, 1) := by decide +kernel
theorem dL_law_555 : decode cL_law 555 = .ok (.laload, 1) := by decide +kernel
theorem dL_law_556 : decode cL_law 556 = .ok (.iload 6, 2) := by decide +kernel
theorem dL_law_558 : decode cL_law 558 = .ok (.i2l, 1) := by decide +kernel
theorem dL_law_559 : decode cL_law 559 = .ok (.lcmp, 1) := by decide +kernel
theorem dL_law_560 : decode cL_law 560 = .ok (.ifCond .eq 5, 3) := by decide +kernel
theorem dL_law_563 : decode cL_law 563 = .ok (.iconst 0, 1) := by decide +kernel
theorem dL_law_564 : decode cL_law 564 = .ok (.ireturn, 1) := by decide +kernel
theorem dL_law_565 : decode cL_law 565 = .ok (.goto 875, 3) := by decide +kernel
theorem dL_law_568 : decode cL_law 568 = .ok (.aload_n 1, 1) := by decide +kernel
theorem dL_law_569 : decode cL_law 569 = .ok (.aload_n 0, 1) := by decide +kernel
theorem dL_law_570 : decode cL_law 570 = .ok (.iload 4, 2) := by decide +kernel
theorem dL_law_572 : decode cL_law 572 = .ok (.iconst 1, 1) := by decide +kernel
theorem dL_law_573 : decode cL_law 573 = .ok (.iadd, 1) := by decide +kernel
theorem dL_law_574 : decode cL_law 574 = .ok (.iaload, 1) := by decide +kernel
theorem dL_law_575 : decode cL_law 575 = .ok (.aload_n 0, 1) := by decide +kernel
theorem dL_law_576 : decode cL_law 576 = .ok (.iload 4, 2) := by decide +kernel
theorem dL_law_578 : decode cL_law 578 = .ok (.iconst 2, 1) := by decide +kernel
theorem dL_law_579 : decode cL_law 579 = .ok (.iadd, 1) := by decide +kernel
theorem dL_law_580 : decode cL_law 580 = .ok (.iaload, 1) := by decide +kernel
theorem dL_law_581 : decode cL_law 581 = .ok (.aload_n 3, 1) := by decide +kernel
theorem dL_law_582 : decode cL_law 582 = .ok (.invokestatic 105, 3) := by decide +kernel
theorem dL_law_585 : decode cL_law 585 = .ok (.istore 5, 2) := by decide +kernel
theorem dL_law_587 : decode cL_law 587 = .ok (.aload_n 2, 1) := by decide +kernel
theorem dL_law_588 : decode cL_law 588 = .ok (.aload_n 0, 1) := by decide +kernel
theorem dL_law_589 : decode cL_law 589 = .ok (.iload 4, 2) := by decide +kernel
theorem dL_law_591 : decode cL_law 591 = .ok (.iconst 1, 1) := by decide +kernel
theorem dL_law_592 : decode cL_law 592 = .ok (.iadd, 1) := by decide +kernel
theorem dL_law_593 : decode cL_law 593 = .ok (.iaload, 1) := by decide +kernel
theorem dL_law_594 : decode cL_law 594 = .ok (.aload_n 0, 1) := by decide +kernel
theorem dL_law_595 : decode cL_law 595 = .ok (.iload 4, 2) := by decide +kernel
theorem dL_law_597 : decode cL_law 597 = .ok (.iconst 2, 1) := by decide +kernel
theorem dL_law_598 : decode cL_law 598 = .ok (.iadd, 1) := by decide +kernel
theorem dL_law_599 : decode cL_law 599 = .ok (.iaload, 1) := by decide +kernel
theorem dL_law_600 : decode cL_law 600 = .ok (.invokevirtual 107, 3) := by decide +kernel
theorem dL_law_603 : decode cL_law 603 = .ok (.istore 6, 2) := by decide +kernel
theorem dL_law_605 : decode cL_law 605 = .ok (.aload_n 2, 1) := by decide +kernel
theorem dL_law_606 : decode cL_law 606 = .ok (.invokevirtual 83, 3) := by decide +kernel
theorem dL_law_609 : decode cL_law 609 = .ok (.iload 5, 2) := by decide +kernel
theorem dL_law_611 : decode cL_law 611 = .ok (.if_icmp .eq 5, 3) := by decide +kernel
theorem dL_law_614 : decode cL_law 614 = .ok (.iconst 0, 1) := by decide +kernel
theorem dL_law_615 : decode cL_law 615 = .ok (.ireturn, 1) := by decide +kernel
theorem dL_law_616 : decode cL_law 616 = .ok (.iload 5, 2) := by decide +kernel
theorem dL_law_618 : decode cL_law 618 = .ok (.ifCond .ne 15, 3) := by decide +kernel
theorem dL_law_621 : decode cL_law 621 = .ok (.aload_n 3, 1) := by decide +kernel
theorem dL_law_622 : decode cL_law 622 = .ok (.iconst 0, 1) := by decide +kernel
theorem dL_law_623 : decode cL_law 623 = .ok (.laload, 1) := by decide +kernel
theorem dL_law_624 : decode cL_law 624 = .ok (.iload 6, 2) := by decide +kernel
theorem dL_law_626 : decode cL_law 626 = .ok (.i2l, 1) := by decide +kernel
theorem dL_law_627 : decode cL_law 627 = .ok (.lcmp, 1) := by decide +kernel
theorem dL_law_628 : decode cL_law 628 = .ok (.ifCond .eq 5, 3) := by decide +kernel
theorem dL_law_631 : decode cL_law 631 = .ok (.iconst 0, 1) := by decide +kernel
theorem dL_law_632 : decode cL_law 632 = .ok (.ireturn, 1) := by decide +kernel
theorem dL_law_633 : decode cL_law 633 = .ok (.goto 807, 3) := by decide +kernel
theorem dL_law_636 : decode cL_law 636 = .ok (.aload_n 1, 1) := by decide +kernel
theorem dL_law_637 : decode cL_law 637 = .ok (.aload_n 0, 1) := by decide +kernel
theorem dL_law_638 : decode cL_law 638 = .ok (.iload 4, 2) := by decide +kernel
theorem dL_law_640 : decode cL_law 640 = .ok (.iconst 1, 1) := by decide +kernel
theorem dL_law_641 : decode cL_law 641 = .ok (.iadd, 1) := by decide +kernel
theorem dL_law_642 : decode cL_law 642 = .ok (.iaload, 1) := by decide +kernel
theorem dL_law_643 : decode cL_law 643 = .ok (.aload_n 0, 1) := by decide +kernel
theorem dL_law_644 : decode cL_law 644 = .ok (.iload 4, 2) := by decide +kernel
theorem dL_law_646 : decode cL_law 646 = .ok (.iconst 2, 1) := by decide +kernel
theorem dL_law_647 : decode cL_law 647 = .ok (.iadd, 1) := by decide +kernel
theorem dL_law_648 : decode cL_law 648 = .ok (.iaload, 1) := by decide +kernel
theorem dL_law_649 : decode cL_law 649 = .ok (.aload_n 3, 1) := by decide +kernel
theorem dL_law_650 : decode cL_law 650 = .ok (.invokestatic 108, 3) := by decide +kernel
theorem dL_law_653 : decode cL_law 653 = .ok (.istore 5, 2) := by decide +kernel
theorem dL_law_655 : decode cL_law 655 = .ok (.aload_n 2, 1) := by decide +kernel
theorem dL_law_656 : decode cL_law 656 = .ok (.aload_n 0, 1) := by decide +kernel
theorem dL_law_657 : decode cL_law 657 = .ok (.iload 4, 2) := by decide +kernel
theorem dL_law_659 : decode cL_law 659 = .ok (.iconst 1, 1) := by decide +kernel
theorem dL_law_660 : decode cL_law 660 = .ok (.iadd, 1) := by decide +kernel
theorem dL_law_661 : decode cL_law 661 = .ok (.iaload, 1) := by decide +kernel
theorem dL_law_662 : decode cL_law 662 = .ok (.aload_n 0, 1) := by decide +kernel
theorem dL_law_663 : decode cL_law 663 = .ok (.iload 4, 2) := by decide +kernel
theorem dL_law_665 : decode cL_law 665 = .ok (.iconst 2, 1) := by decide +kernel
theorem dL_law_666 : decode cL_law 666 = .ok (.iadd, 1) := by decide +kernel
theorem dL_law_667 : decode cL_law 667 = .ok (.iaload, 1) := by decide +kernel
theorem dL_law_668 : decode cL_law 668 = .ok (.invokevirtual 110, 3) := by decide +kernel
theorem dL_law_671 : decode cL_law 671 = .ok (.istore 6, 2) := by decide +kernel
theorem dL_law_673 : decode cL_law 673 = .ok (.aload_n 2, 1) := by decide +kernel
theorem dL_law_674 : decode cL_law 674 = .ok (.invokevirtual 83, 3) := by decide +kernel
theorem dL_law_677 : decode cL_law 677 = .ok (.iload 5, 2) := by decide +kernel
theorem dL_law_679 : decode cL_law 679 = .ok (.if_icmp .eq 5, 3) := by decide +kernel
theorem dL_law_682 : decode cL_law 682 = .ok (.iconst 0, 1) := by decide +kernel
theorem dL_law_683 : decode cL_law 683 = .ok (.ireturn, 1) := by decide +kernel
theorem dL_law_684 : decode cL_law 684 = .ok (.iload 5, 2) := by decide +kernel
theorem dL_law_686 : decode cL_law 686 = .ok (.ifCond .ne 15, 3) := by decide +kernel
theorem dL_law_689 : decode cL_law 689 = .ok (.aload_n 3, 1) := by decide +kernel
theorem dL_law_690 : decode cL_law 690 = .ok (.iconst 0, 1) := by decide +kernel
theorem dL_law_691 : decode cL_law 691 = .ok (.laload, 1) := by decide +kernel
theorem dL_law_692 : decode cL_law 692 = .ok (.iload 6, 2) := by decide +kernel
theorem dL_law_694 : decode cL_law 694 = .ok (.i2l, 1) := by decide +kernel
theorem dL_law_695 : decode cL_law 695 = .ok (.lcmp, 1) := by decide +kernel
theorem dL_law_696 : decode cL_law 696 = .ok (.ifCond .eq 5, 3) := by decide +kernel
theorem dL_law_699 : decode cL_law 699 = .ok (.iconst 0, 1) := by decide +kernel
theorem dL_law_700 : decode cL_law 700 = .ok (.ireturn, 1) := by decide +kernel
theorem dL_law_701 : decode cL_law 701 = .ok (.goto 739, 3) := by decide +kernel
theorem dL_law_704 : decode cL_law 704 = .ok (.aload_n 1, 1) := by decide +kernel
theorem dL_law_705 : decode cL_law 705 = .ok (.aload_n 0, 1) := by decide +kernel
theorem dL_law_706 : decode cL_law 706 = .ok (.iload 4, 2) := by decide +kernel
theorem dL_law_708 : decode cL_law 708 = .ok (.iconst 1, 1) := by decide +kernel
theorem dL_law_709 : decode cL_law 709 = .ok (.iadd, 1) := by decide +kernel
theorem dL_law_710 : decode cL_law 710 = .ok (.iaload, 1) := by decide +kernel
theorem dL_law_711 : decode cL_law 711 = .ok (.aload_n 0, 1) := by decide +kernel
theorem dL_law_712 : decode cL_law 712 = .ok (.iload 4, 2) := by decide +kernel
theorem dL_law_714 : decode cL_law 714 = .ok (.iconst 2, 1) := by decide +kernel
theorem dL_law_715 : decode cL_law 715 = .ok (.iadd, 1) := by decide +kernel
theorem dL_law_716 : decode cL_law 716 = .ok (.iaload, 1) := by decide +kernel
theorem dL_law_717 : decode cL_law 717 = .ok (.aload_n 3, 1) := by decide +kernel
theorem dL_law_718 : decode cL_law 718 = .ok (.invokestatic 111, 3) := by decide +kernel
theorem dL_law_721 : decode cL_law 721 = .ok (.istore 5, 2) := by decide +kernel
theorem dL_law_723 : decode cL_law 723 = .ok (.aload_n 2, 1) := by decide +kernel
theorem dL_law_724 : decode cL_law 724 = .ok (.aload_n 0, 1) := by decide +kernel
theorem dL_law_725 : decode cL_law 725 = .ok (.iload 4, 2) := by decide +kernel
theorem dL_law_727 : decode cL_law 727 = .ok (.iconst 1, 1) := by decide +kernel
theorem dL_law_728 : decode cL_law 728 = .ok (.iadd, 1) := by decide +kernel
theorem dL_law_729 : decode cL_law 729 = .ok (.iaload, 1) := by decide +kernel
theorem dL_law_730 : decode cL_law 730 = .ok (.aload_n 0, 1) := by decide +kernel
theorem dL_law_731 : decode cL_law 731 = .ok (.iload 4, 2) := by decide +kernel
theorem dL_law_733 : decode cL_law 733 = .ok (.iconst 2, 1) := by decide +kernel
theorem dL_law_734 : decode cL_law 734 = .ok (.iadd, 1) := by decide +kernel
theorem dL_law_735 : decode cL_law 735 = .ok (.iaload, 1) := by decide +kernel
theorem dL_law_736 : decode cL_law 736 = .ok (.invokevirtual 113, 3) := by decide +kernel
theorem dL_law_739 : decode cL_law 739 = .ok (.istore 6, 2) := by decide +kernel
theorem dL_law_741 : decode cL_law 741 = .ok (.aload_n 2, 1) := by decide +kernel
theorem dL_law_742 : decode cL_law 742 = .ok (.invokevirtual 83, 3) := by decide +kernel
theorem dL_law_745 : decode cL_law 745 = .ok (.iload 5, 2) := by decide +kernel
theorem dL_law_747 : decode cL_law 747 = .ok (.if_icmp .eq 5, 3) := by decide +kernel
theorem dL_law_750 : decode cL_law 750 = .ok (.iconst 0, 1) := by decide +kernel
theorem dL_law_751 : decode cL_law 751 = .ok (.ireturn, 1) := by decide +kernel
theorem dL_law_752 : decode cL_law 752 = .ok (.iload 5, 2) := by decide +kernel
theorem dL_law_754 : decode cL_law 754 = .ok (.ifCond .ne 15, 3) := by decide +kernel
theorem dL_law_757 : decode cL_law 757 = .ok (.aload_n 3, 1) := by decide +kernel
theorem dL_law_758 : decode cL_law 758 = .ok (.iconst 0, 1) := by decide +kernel
theorem dL_law_759 : decode cL_law 759 = .ok (.laload, 1) := by decide +kernel
theorem dL_law_760 : decode cL_law 760 = .ok (.iload 6, 2) := by decide +kernel
theorem dL_law_762 : decode cL_law 762 = .ok (.i2l, 1) := by decide +kernel
theorem dL_law_763 : decode cL_law 763 = .ok (.lcmp, 1) := by decide +kernel
theorem dL_law_764 : decode cL_law 764 = .ok (.ifCond .eq 5, 3) := by decide +kernel
theorem dL_law_767 : decode cL_law 767 = .ok (.iconst 0, 1) := by decide +kernel
theorem dL_law_768 : decode cL_law 768 = .ok (.ireturn, 1) := by decide +kernel
theorem dL_law_769 : decode cL_law 769 = .ok (.goto 671, 3) := by decide +kernel
theorem dL_law_772 : decode cL_law 772 = .ok (.aload_n 1, 1) := by decide +kernel
theorem dL_law_773 : decode cL_law 773 = .ok (.aload_n 0, 1) := by decide +kernel
theorem dL_law_774 : decode cL_law 774 = .ok (.iload 4, 2) := by decide +kernel
theorem dL_law_776 : decode cL_law 776 = .ok (.iconst 1, 1) := by decide +kernel
theorem dL_law_777 : decode cL_law 777 = .ok (.iadd, 1) := by decide +kernel
theorem dL_law_778 : decode cL_law 778 = .ok (.iaload, 1) := by decide +kernel
theorem dL_law_779 : decode cL_law 779 = .ok (.aload_n 0, 1) := by decide +kernel
theorem dL_law_780 : decode cL_law 780 = .ok (.iload 4, 2) := by decide +kernel
theorem dL_law_782 : decode cL_law 782 = .ok (.iconst 2, 1) := by decide +kernel
theorem dL_law_783 : decode cL_law 783 = .ok (.iadd, 1) := by decide +kernel
theorem dL_law_784 : decode cL_law 784 = .ok (.iaload, 1) := by decide +kernel
theorem dL_law_785 : decode cL_law 785 = .ok (.aload_n 3, 1) := by decide +kernel
theorem dL_law_786 : decode cL_law 786 = .ok (.invokestatic 114, 3) := by decide +kernel
theorem dL_law_789 : decode cL_law 789 = .ok (.istore 5, 2) := by decide +kernel
theorem dL_law_791 : decode cL_law 791 = .ok (.aload_n 2, 1) := by decide +kernel
theorem dL_law_792 : decode cL_law 792 = .ok (.aload_n 0, 1) := by decide +kernel
theorem dL_law_793 : decode cL_law 793 = .ok (.iload 4, 2) := by decide +kernel
theorem dL_law_795 : decode cL_law 795 = .ok (.iconst 1, 1) := by decide +kernel
theorem dL_law_796 : decode cL_law 796 = .ok (.iadd, 1) := by decide +kernel
theorem dL_law_797 : decode cL_law 797 = .ok (.iaload, 1) := by decide +kernel
theorem dL_law_798 : decode cL_law 798 = .ok (.aload_n 0, 1) := by decide +kernel
theorem dL_law_799 : decode cL_law 799 = .ok (.iload 4, 2) := by decide +kernel
theorem dL_law_801 : decode cL_law 801 = .ok (.iconst 2, 1) := by decide +kernel
theorem dL_law_802 : decode cL_law 802 = .ok (.iadd, 1) := by decide +kernel
theorem dL_law_803 : decode cL_law 803 = .ok (.iaload, 1) := by decide +kernel
theorem dL_law_804 : decode cL_law 804 = .ok (.invokevirtual 116, 3) := by decide +kernel
theorem dL_law_807 : decode cL_law 807 = .ok (.istore 6, 2) := by decide +kernel
theorem dL_law_809 : decode cL_law 809 = .ok (.aload_n 2, 1) := by decide +kernel
theorem dL_law_810 : decode cL_law 810 = .ok (.invokevirtual 83, 3) := by decide +kernel
theorem dL_law_813 : decode cL_law 813 = .ok (.iload 5, 2) := by decide +kernel
theorem dL_law_815 : decode cL_law 815 = .ok (.if_icmp .eq 5, 3) := by decide +kernel
theorem dL_law_818 : decode cL_law 818 = .ok (.iconst 0, 1) := by decide +kernel
theorem dL_law_819 : decode cL_law 819 = .ok (.ireturn, 1) := by decide +kernel
theorem dL_law_820 : decode cL_law 820 = .ok (.iload 5, 2) := by decide +kernel
theorem dL_law_822 : decode cL_law 822 = .ok (.ifCond .ne 15, 3) := by decide +kernel
theorem dL_law_825 : decode cL_law 825 = .ok (.aload_n 3, 1) := by decide +kernel
theorem dL_law_826 : decode cL_law 826 = .ok (.iconst 0, 1) := by decide +kernel
theorem dL_law_827 : decode cL_law 827 = .ok (.laload, 1) := by decide +kernel
theorem dL_law_828 : decode cL_law 828 = .ok (.iload 6, 2) := by decide +kernel
theorem dL_law_830 : decode cL_law 830 = .ok (.i2l, 1) := by decide +kernel
theorem dL_law_831 : decode cL_law 831 = .ok (.lcmp, 1) := by decide +kernel
theorem dL_law_832 : decode cL_law 832 = .ok (.ifCond .eq 5, 3) := by decide +kernel
theorem dL_law_835 : decode cL_law 835 = .ok (.iconst 0, 1) := by decide +kernel
theorem dL_law_836 : decode cL_law 836 = .ok (.ireturn, 1) := by decide +kernel
theorem dL_law_837 : decode cL_law 837 = .ok (.goto 603, 3) := by decide +kernel
theorem dL_law_840 : decode cL_law 840 = .ok (.aload_n 1, 1) := by decide +kernel
theorem dL_law_841 : decode cL_law 841 = .ok (.invokevirtual 117, 3) := by decide +kernel
theorem dL_law_844 : decode cL_law 844 = .ok (.aload_n 2, 1) := by decide +kernel
theorem dL_law_845 : decode cL_law 845 = .ok (.invokevirtual 121, 3) := by decide +kernel
theorem dL_law_848 : decode cL_law 848 = .ok (.if_icmp .eq 592, 3) := by decide +kernel
theorem dL_law_851 : decode cL_law 851 = .ok (.iconst 0, 1) := by decide +kernel
theorem dL_law_852 : decode cL_law 852 = .ok (.ireturn, 1) := by decide +kernel
theorem dL_law_853 : decode cL_law 853 = .ok (.aload_n 1, 1) := by decide +kernel
theorem dL_law_854 : decode cL_law 854 = .ok (.aload_n 0, 1) := by decide +kernel
theorem dL_law_855 : decode cL_law 855 = .ok (.iload 4, 2) := by decide +kernel
theorem dL_law_857 : decode cL_law 857 = .ok (.iconst 1, 1) := by decide +kernel
theorem dL_law_858 : decode cL_law 858 = .ok (.iadd, 1) := by decide +kernel
theorem dL_law_859 : decode cL_law 859 = .ok (.iaload, 1) := by decide +kernel
theorem dL_law_860 : decode cL_law 860 = .ok (.aload_n 3, 1) := by decide +kernel
theorem dL_law_861 : decode cL_law 861 = .ok (.invokestatic 122, 3) := by decide +kernel
theorem dL_law_864 : decode cL_law 864 = .ok (.istore 5, 2) := by decide +kernel
theorem dL_law_866 : decode cL_law 866 = .ok (.aload_n 2, 1) := by decide +kernel
theorem dL_law_867 : decode cL_law 867 = .ok (.aload_n 0, 1) := by decide +kernel
theorem dL_law_868 : decode cL_law 868 = .ok (.iload 4, 2) := by decide +kernel
theorem dL_law_870 : decode cL_law 870 = .ok (.iconst 1, 1) := by decide +kernel
theorem dL_law_871 : decode cL_law 871 = .ok (.iadd, 1) := by decide +kernel
theorem dL_law_872 : decode cL_law 872 = .ok (.iaload, 1) := by decide +kernel
theorem dL_law_873 : decode cL_law 873 = .ok (.invokevirtual 124, 3) := by decide +kernel
theorem dL_law_876 : decode cL_law 876 = .ok (.istore 6, 2) := by decide +kernel
theorem dL_law_878 : decode cL_law 878 = .ok (.aload_n 2, 1) := by decide +kernel
theorem dL_law_879 : decode cL_law 879 = .ok (.invokevirtual 83, 3) := by decide +kernel
theorem dL_law_882 : decode cL_law 882 = .ok (.iload 5, 2) := by decide +kernel
theorem dL_law_884 : decode cL_law 884 = .ok (.if_icmp .eq 5, 3) := by decide +kernel
theorem dL_law_887 : decode cL_law 887 = .ok (.iconst 0, 1) := by decide +kernel
theorem dL_law_888 : decode cL_law 888 = .ok (.ireturn, 1) := by decide +kernel
theorem dL_law_889 : decode cL_law 889 = .ok (.iload 5, 2) := by decide +kernel
theorem dL_law_891 : decode cL_law 891 = .ok (.ifCond .ne 15, 3) := by decide +kernel
theorem dL_law_894 : decode cL_law 894 = .ok (.aload_n 3, 1) := by decide +kernel
theorem dL_law_895 : decode cL_law 895 = .ok (.iconst 0, 1) := by decide +kernel
theorem dL_law_896 : decode cL_law 896 = .ok (.laload, 1) := by decide +kernel
theorem dL_law_897 : decode cL_law 897 = .ok (.iload 6, 2) := by decide +kernel
theorem dL_law_899 : decode cL_law 899 = .ok (.i2l, 1) := by decide +kernel
theorem dL_law_900 : decode cL_law 900 = .ok (.lcmp, 1) := by decide +kernel
theorem dL_law_901 : decode cL_law 901 = .ok (.ifCond .eq 5, 3) := by decide +kernel
theorem dL_law_904 : decode cL_law 904 = .ok (.iconst 0, 1) := by decide +kernel
theorem dL_law_905 : decode cL_law 905 = .ok (.ireturn, 1) := by decide +kernel
theorem dL_law_906 : decode cL_law 906 = .ok (.goto 534, 3) := by decide +kernel
theorem dL_law_909 : decode cL_law 909 = .ok (.aload_n 1, 1) := by decide +kernel
theorem dL_law_910 : decode cL_law 910 = .ok (.aload_n 0, 1) := by decide +kernel
theorem dL_law_911 : decode cL_law 911 = .ok (.iload 4, 2) := by decide +kernel
theorem dL_law_913 : decode cL_law 913 = .ok (.iconst 1, 1) := by decide +kernel
theorem dL_law_914 : decode cL_law 914 = .ok (.iadd, 1) := by decide +kernel
theorem dL_law_915 : decode cL_law 915 = .ok (.iaload, 1) := by decide +kernel
theorem dL_law_916 : decode cL_law 916 = .ok (.aload_n 3, 1) := by decide +kernel
theorem dL_law_917 : decode cL_law 917 = .ok (.invokestatic 125, 3) := by decide +kernel
theorem dL_law_920 : decode cL_law 920 = .ok (.istore 5, 2) := by decide +kernel
theorem dL_law_922 : decode cL_law 922 = .ok (.aload_n 2, 1) := by decide +kernel
theorem dL_law_923 : decode cL_law 923 = .ok (.aload_n 0, 1) := by decide +kernel
theorem dL_law_924 : decode cL_law 924 = .ok (.iload 4, 2) := by decide +kernel
theorem dL_law_926 : decode cL_law 926 = .ok (.iconst 1, 1) := by decide +kernel
theorem dL_law_927 : decode cL_law 927 = .ok (.iadd, 1) := by decide +kernel
theorem dL_law_928 : decode cL_law 928 = .ok (.iaload, 1) := by decide +kernel
theorem dL_law_929 : decode cL_law 929 = .ok (.invokevirtual 127, 3) := by decide +kernel
theorem dL_law_932 : decode cL_law 932 = .ok (.istore 6, 2) := by decide +kernel
theorem dL_law_934 : decode cL_law 934 = .ok (.aload_n 2, 1) := by decide +kernel
theorem dL_law_935 : decode cL_law 935 = .ok (.invokevirtual 83, 3) := by decide +kernel
theorem dL_law_938 : decode cL_law 938 = .ok (.iload 5, 2) := by decide +kernel
theorem dL_law_940 : decode cL_law 940 = .ok (.if_icmp .eq 5, 3) := by decide +kernel
theorem dL_law_943 : decode cL_law 943 = .ok (.iconst 0, 1) := by decide +kernel
theorem dL_law_944 : decode cL_law 944 = .ok (.ireturn, 1) := by decide +kernel
theorem dL_law_945 : decode cL_law 945 = .ok (.iload 5, 2) := by decide +kernel
theorem dL_law_947 : decode cL_law 947 = .ok (.ifCond .ne 15, 3) := by decide +kernel
theorem dL_law_950 : decode cL_law 950 = .ok (.aload_n 3, 1) := by decide +kernel
theorem dL_law_951 : decode cL_law 951 = .ok (.iconst 0, 1) := by decide +kernel
theorem dL_law_952 : decode cL_law 952 = .ok (.laload, 1) := by decide +kernel
theorem dL_law_953 : decode cL_law 953 = .ok (.iload 6, 2) := by decide +kernel
theorem dL_law_955 : decode cL_law 955 = .ok (.i2l, 1) := by decide +kernel
theorem dL_law_956 : decode cL_law 956 = .ok (.lcmp, 1) := by decide +kernel
theorem dL_law_957 : decode cL_law 957 = .ok (.ifCond .eq 5, 3) := by decide +kernel
theorem dL_law_960 : decode cL_law 960 = .ok (.iconst 0, 1) := by decide +kernel
theorem dL_law_961 : decode cL_law 961 = .ok (.ireturn, 1) := by decide +kernel
theorem dL_law_962 : decode cL_law 962 = .ok (.goto 478, 3) := by decide +kernel
theorem dL_law_965 : decode cL_law 965 = .ok (.aload_n 1, 1) := by decide +kernel
theorem dL_law_966 : decode cL_law 966 = .ok (.aload_n 0, 1) := by decide +kernel
theorem dL_law_967 : decode cL_law 967 = .ok (.iload 4, 2) := by decide +kernel
theorem dL_law_969 : decode cL_law 969 = .ok (.iconst 1, 1) := by decide +kernel
theorem dL_law_970 : decode cL_law 970 = .ok (.iadd, 1) := by decide +kernel
theorem dL_law_971 : decode cL_law 971 = .ok (.iaload, 1) := by decide +kernel
theorem dL_law_972 : decode cL_law 972 = .ok (.aload_n 0, 1) := by decide +kernel
theorem dL_law_973 : decode cL_law 973 = .ok (.iload 4, 2) := by decide +kernel
theorem dL_law_975 : decode cL_law 975 = .ok (.iconst 2, 1) := by decide +kernel
theorem dL_law_976 : decode cL_law 976 = .ok (.iadd, 1) := by decide +kernel
theorem dL_law_977 : decode cL_law 977 = .ok (.iaload, 1) := by decide +kernel
theorem dL_law_978 : decode cL_law 978 = .ok (.aload_n 0, 1) := by decide +kernel
theorem dL_law_979 : decode cL_law 979 = .ok (.iload 4, 2) := by decide +kernel
theorem dL_law_981 : decode cL_law 981 = .ok (.iconst 3, 1) := by decide +kernel
theorem dL_law_982 : decode cL_law 982 = .ok (.iadd, 1) := by decide +kernel
theorem dL_law_983 : decode cL_law 983 = .ok (.iaload, 1) := by decide +kernel
theorem dL_law_984 : decode cL_law 984 = .ok (.aload_n 3, 1) := by decide +kernel
theorem dL_law_985 : decode cL_law 985 = .ok (.invokestatic 128, 3) := by decide +kernel
theorem dL_law_988 : decode cL_law 988 = .ok (.istore 5, 2) := by decide +kernel
theorem dL_law_990 : decode cL_law 990 = .ok (.aload_n 2, 1) := by decide +kernel
theorem dL_law_991 : decode cL_law 991 = .ok (.aload_n 0, 1) := by decide +kernel
theorem dL_law_992 : decode cL_law 992 = .ok (.iload 4, 2) := by decide +kernel
theorem dL_law_994 : decode cL_law 994 = .ok (.iconst 1, 1) := by decide +kernel
theorem dL_law_995 : decode cL_law 995 = .ok (.iadd, 1) := by decide +kernel
theorem dL_law_996 : decode cL_law 996 = .ok (.iaload, 1) := by decide +kernel
theorem dL_law_997 : decode cL_law 997 = .ok (.aload_n 0, 1) := by decide +kernel
theorem dL_law_998 : decode cL_law 998 = .ok (.iload 4, 2) := by decide +kernel
theorem dL_law_1000 : decode cL_law 1000 = .ok (.iconst 2, 1) := by decide +kernel
theorem dL_law_1001 : decode cL_law 1001 = .ok (.iadd, 1) := by decide +kernel
theorem dL_law_1002 : decode cL_law 1002 = .ok (.iaload, 1) := by decide +kernel
theorem dL_law_1003 : decode cL_law 1003 = .ok (.aload_n 0, 1) := by decide +kernel
theorem dL_law_1004 : decode cL_law 1004 = .ok (.iload 4, 2) := by decide +kernel
theorem dL_law_1006 : decode cL_law 1006 = .ok (.iconst 3, 1) := by decide +kernel
theorem dL_law_1007 : decode cL_law 1007 = .ok (.iadd, 1) := by decide +kernel
theorem dL_law_1008 : decode cL_law 1008 = .ok (.iaload, 1) := by decide +kernel
theorem dL_law_1009 : decode cL_law 1009 = .ok (.invokevirtual 130, 3) := by decide +kernel
theorem dL_law_1012 : decode cL_law 1012 = .ok (.istore 6, 2) := by decide +kernel
theorem dL_law_1014 : decode cL_law 1014 = .ok (.aload_n 2, 1) := by decide +kernel
theorem dL_law_1015 : decode cL_law 1015 = .ok (.invokevirtual 83, 3) := by decide +kernel
theorem dL_law_1018 : decode cL_law 1018 = .ok (.iload 5, 2) := by decide +kernel
theorem dL_law_1020 : decode cL_law 1020 = .ok (.if_icmp .eq 5, 3) := by decide +kernel
theorem dL_law_1023 : decode cL_law 1023 = .ok (.iconst 0, 1) := by decide +kernel
theorem dL_law_1024 : decode cL_law 1024 = .ok (.ireturn, 1) := by decide +kernel
theorem dL_law_1025 : decode cL_law 1025 = .ok (.iload 5, 2) := by decide +kernel
theorem dL_law_1027 : decode cL_law 1027 = .ok (.ifCond .ne 15, 3) := by decide +kernel
theorem dL_law_1030 : decode cL_law 1030 = .ok (.aload_n 3, 1) := by decide +kernel
theorem dL_law_1031 : decode cL_law 1031 = .ok (.iconst 0, 1) := by decide +kernel
theorem dL_law_1032 : decode cL_law 1032 = .ok (.laload, 1) := by decide +kernel
theorem dL_law_1033 : decode cL_law 1033 = .ok (.iload 6, 2) := by decide +kernel
theorem dL_law_1035 : decode cL_law 1035 = .ok (.i2l, 1) := by decide +kernel
theorem dL_law_1036 : decode cL_law 1036 = .ok (.lcmp, 1) := by decide +kernel
theorem dL_law_1037 : decode cL_law 1037 = .ok (.ifCond .eq 5, 3) := by decide +kernel
theorem dL_law_1040 : decode cL_law 1040 = .ok (.iconst 0, 1) := by decide +kernel
theorem dL_law_1041 : decode cL_law 1041 = .ok (.ireturn, 1) := by decide +kernel
theorem dL_law_1042 : decode cL_law 1042 = .ok (.goto 398, 3) := by decide +kernel
theorem dL_law_1045 : decode cL_law 1045 = .ok (.aload_n 1, 1) := by decide +kernel
theorem dL_law_1046 : decode cL_law 1046 = .ok (.aload_n 0, 1) := by decide +kernel
theorem dL_law_1047 : decode cL_law 1047 = .ok (.iload 4, 2) := by decide +kernel
theorem dL_law_1049 : decode cL_law 1049 = .ok (.iconst 1, 1) := by decide +kernel
theorem dL_law_1050 : decode cL_law 1050 = .ok (.iadd, 1) := by decide +kernel
theorem dL_law_1051 : decode cL_law 1051 = .ok (.iaload, 1) := by decide +kernel
theorem dL_law_1052 : decode cL_law 1052 = .ok (.aload_n 0, 1) := by decide +kernel
theorem dL_law_1053 : decode cL_law 1053 = .ok (.iload 4, 2) := by decide +kernel
theorem dL_law_1055 : decode cL_law 1055 = .ok (.iconst 2, 1) := by decide +kernel
theorem dL_law_1056 : decode cL_law 1056 = .ok (.iadd, 1) := by decide +kernel
theorem dL_law_1057 : decode cL_law 1057 = .ok (.iaload, 1) := by decide +kernel
theorem dL_law_1058 : decode cL_law 1058 = .ok (.aload_n 0, 1) := by decide +kernel
theorem dL_law_1059 : decode cL_law 1059 = .ok (.iload 4, 2) := by decide +kernel
theorem dL_law_1061 : decode cL_law 1061 = .ok (.iconst 3, 1) := by decide +kernel
theorem dL_law_1062 : decode cL_law 1062 = .ok (.iadd, 1) := by decide +kernel
theorem dL_law_1063 : decode cL_law 1063 = .ok (.iaload, 1) := by decide +kernel
theorem dL_law_1064 : decode cL_law 1064 = .ok (.aload_n 0, 1) := by decide +kernel
theorem dL_law_1065 : decode cL_law 1065 = .ok (.iload 4, 2) := by decide +kernel
theorem dL_law_1067 : decode cL_law 1067 = .ok (.iconst 4, 1) := by decide +kernel
theorem dL_law_1068 : decode cL_law 1068 = .ok (.iadd, 1) := by decide +kernel
theorem dL_law_1069 : decode cL_law 1069 = .ok (.iaload, 1) := by decide +kernel
theorem dL_law_1070 : decode cL_law 1070 = .ok (.aload_n 3, 1) := by decide +kernel
theorem dL_law_1071 : decode cL_law 1071 = .ok (.invokestatic 131, 3) := by decide +kernel
theorem dL_law_1074 : decode cL_law 1074 = .ok (.istore 5, 2) := by decide +kernel
theorem dL_law_1076 : decode cL_law 1076 = .ok (.aload_n 2, 1) := by decide +kernel
theorem dL_law_1077 : decode cL_law 1077 = .ok (.aload_n 0, 1) := by decide +kernel
theorem dL_law_1078 : decode cL_law 1078 = .ok (.iload 4, 2) := by decide +kernel
theorem dL_law_1080 : decode cL_law 1080 = .ok (.iconst 1, 1) := by decide +kernel
theorem dL_law_1081 : decode cL_law 1081 = .ok (.iadd, 1) := by decide +kernel
theorem dL_law_1082 : decode cL_law 1082 = .ok (.iaload, 1) := by decide +kernel
theorem dL_law_1083 : decode cL_law 1083 = .ok (.aload_n 0, 1) := by decide +kernel
theorem dL_law_1084 : decode cL_law 1084 = .ok (.iload 4, 2) := by decide +kernel
theorem dL_law_1086 : decode cL_law 1086 = .ok (.iconst 2, 1) := by decide +kernel
theorem dL_law_1087 : decode cL_law 1087 = .ok (.iadd, 1) := by decide +kernel
theorem dL_law_1088 : decode cL_law 1088 = .ok (.iaload, 1) := by decide +kernel
theorem dL_law_1089 : decode cL_law 1089 = .ok (.aload_n 0, 1) := by decide +kernel
theorem dL_law_1090 : decode cL_law 1090 = .ok (.iload 4, 2) := by decide +kernel
theorem dL_law_1092 : decode cL_law 1092 = .ok (.iconst 3, 1) := by decide +kernel
theorem dL_law_1093 : decode cL_law 1093 = .ok (.iadd, 1) := by decide +kernel
theorem dL_law_1094 : decode cL_law 1094 = .ok (.iaload, 1) := by decide +kernel
theorem dL_law_1095 : decode cL_law 1095 = .ok (.aload_n 0, 1) := by decide +kernel
theorem dL_law_1096 : decode cL_law 1096 = .ok (.iload 4, 2) := by decide +kernel
theorem dL_law_1098 : decode cL_law 1098 = .ok (.iconst 4, 1) := by decide +kernel
theorem dL_law_1099 : decode cL_law 1099 = .ok (.iadd, 1) := by decide +kernel
theorem dL_law_1100 : decode cL_law 1100 = .ok (.iaload, 1) := by decide +kernel
theorem dL_law_1101 : decode cL_law 1101 = .ok (.invokevirtual 133, 3) := by decide +kernel
theorem dL_law_1104 : decode cL_law 1104 = .ok (.istore 6, 2) := by decide +kernel
theorem dL_law_1106 : decode cL_law 1106 = .ok (.aload_n 2, 1) := by decide +kernel
theorem dL_law_1107 : decode cL_law 1107 = .ok (.invokevirtual 83, 3) := by decide +kernel
theorem dL_law_1110 : decode cL_law 1110 = .ok (.iload 5, 2) := by decide +kernel
theorem dL_law_1112 : decode cL_law 1112 = .ok (.if_icmp .eq 5, 3) := by decide +kernel
theorem dL_law_1115 : decode cL_law 1115 = .ok (.iconst 0, 1) := by decide +kernel
theorem dL_law_1116 : decode cL_law 1116 = .ok (.ireturn, 1) := by decide +kernel
theorem dL_law_1117 : decode cL_law 1117 = .ok (.iload 5, 2) := by decide +kernel
theorem dL_law_1119 : decode cL_law 1119 = .ok (.ifCond .ne 15, 3) := by decide +kernel
theorem dL_law_1122 : decode cL_law 1122 = .ok (.aload_n 3, 1) := by decide +kernel
theorem dL_law_1123 : decode cL_law 1123 = .ok (.iconst 0, 1) := by decide +kernel
theorem dL_law_1124 : decode cL_law 1124 = .ok (.laload, 1) := by decide +kernel
theorem dL_law_1125 : decode cL_law 1125 = .ok (.iload 6, 2) := by decide +kernel
theorem dL_law_1127 : decode cL_law 1127 = .ok (.i2l, 1) := by decide +kernel
theorem dL_law_1128 : decode cL_law 1128 = .ok (.lcmp, 1) := by decide +kernel
theorem dL_law_1129 : decode cL_law 1129 = .ok (.ifCond .eq 5, 3) := by decide +kernel
theorem dL_law_1132 : decode cL_law 1132 = .ok (.iconst 0, 1) := by decide +kernel
theorem dL_law_1133 : decode cL_law 1133 = .ok (.ireturn, 1) := by decide +kernel
theorem dL_law_1134 : decode cL_law 1134 = .ok (.goto 306, 3) := by decide +kernel
theorem dL_law_1137 : decode cL_law 1137 = .ok (.aload_n 1, 1) := by decide +kernel
theorem dL_law_1138 : decode cL_law 1138 = .ok (.aload_n 0, 1) := by decide +kernel
theorem dL_law_1139 : decode cL_law 1139 = .ok (.iload 4, 2) := by decide +kernel
theorem dL_law_1141 : decode cL_law 1141 = .ok (.iconst 1, 1) := by decide +kernel
theorem dL_law_1142 : decode cL_law 1142 = .ok (.iadd, 1) := by decide +kernel
theorem dL_law_1143 : decode cL_law 1143 = .ok (.iaload, 1) := by decide +kernel
theorem dL_law_1144 : decode cL_law 1144 = .ok (.aload_n 0, 1) := by decide +kernel
theorem dL_law_1145 : decode cL_law 1145 = .ok (.iload 4, 2) := by decide +kernel
theorem dL_law_1147 : decode cL_law 1147 = .ok (.iconst 2, 1) := by decide +kernel
theorem dL_law_1148 : decode cL_law 1148 = .ok (.iadd, 1) := by decide +kernel
theorem dL_law_1149 : decode cL_law 1149 = .ok (.iaload, 1) := by decide +kernel
theorem dL_law_1150 : decode cL_law 1150 = .ok (.aload_n 3, 1) := by decide +kernel
theorem dL_law_1151 : decode cL_law 1151 = .ok (.invokestatic 134, 3) := by decide +kernel
theorem dL_law_1154 : decode cL_law 1154 = .ok (.istore 5, 2) := by decide +kernel
theorem dL_law_1156 : decode cL_law 1156 = .ok (.aload_n 2, 1) := by decide +kernel
theorem dL_law_1157 : decode cL_law 1157 = .ok (.aload_n 0, 1) := by decide +kernel
theorem dL_law_1158 : decode cL_law 1158 = .ok (.iload 4, 2) := by decide +kernel
theorem dL_law_1160 : decode cL_law 1160 = .ok (.iconst 1, 1) := by decide +kernel
theorem dL_law_1161 : decode cL_law 1161 = .ok (.iadd, 1) := by decide +kernel
theorem dL_law_1162 : decode cL_law 1162 = .ok (.iaload, 1) := by decide +kernel
theorem dL_law_1163 : decode cL_law 1163 = .ok (.aload_n 0, 1) := by decide +kernel
theorem dL_law_1164 : decode cL_law 1164 = .ok (.iload 4, 2) := by decide +kernel
theorem dL_law_1166 : decode cL_law 1166 = .ok (.iconst 2, 1) := by decide +kernel
theorem dL_law_1167 : decode cL_law 1167 = .ok (.iadd, 1) := by decide +kernel
theorem dL_law_1168 : decode cL_law 1168 = .ok (.iaload, 1) := by decide +kernel
theorem dL_law_1169 : decode cL_law 1169 = .ok (.invokevirtual 136, 3) := by decide +kernel
theorem dL_law_1172 : decode cL_law 1172 = .ok (.istore 6, 2) := by decide +kernel
theorem dL_law_1174 : decode cL_law 1174 = .ok (.aload_n 2, 1) := by decide +kernel
theorem dL_law_1175 : decode cL_law 1175 = .ok (.invokevirtual 83, 3) := by decide +kernel
theorem dL_law_1178 : decode cL_law 1178 = .ok (.iload 5, 2) := by decide +kernel
theorem dL_law_1180 : decode cL_law 1180 = .ok (.if_icmp .eq 5, 3) := by decide +kernel
theorem dL_law_1183 : decode cL_law 1183 = .ok (.iconst 0, 1) := by decide +kernel
theorem dL_law_1184 : decode cL_law 1184 = .ok (.ireturn, 1) := by decide +kernel
theorem dL_law_1185 : decode cL_law 1185 = .ok (.iload 5, 2) := by decide +kernel
theorem dL_law_1187 : decode cL_law 1187 = .ok (.ifCond .ne 15, 3) := by decide +kernel
theorem dL_law_1190 : decode cL_law 1190 = .ok (.aload_n 3, 1) := by decide +kernel
theorem dL_law_1191 : decode cL_law 1191 = .ok (.iconst 0, 1) := by decide +kernel
theorem dL_law_1192 : decode cL_law 1192 = .ok (.laload, 1) := by decide +kernel
theorem dL_law_1193 : decode cL_law 1193 = .ok (.iload 6, 2) := by decide +kernel
theorem dL_law_1195 : decode cL_law 1195 = .ok (.i2l, 1) := by decide +kernel
theorem dL_law_1196 : decode cL_law 1196 = .ok (.lcmp, 1) := by decide +kernel
theorem dL_law_1197 : decode cL_law 1197 = .ok (.ifCond .eq 5, 3) := by decide +kernel
theorem dL_law_1200 : decode cL_law 1200 = .ok (.iconst 0, 1) := by decide +kernel
theorem dL_law_1201 : decode cL_law 1201 = .ok (.ireturn, 1) := by decide +kernel
theorem dL_law_1202 : decode cL_law 1202 = .ok (.goto 238, 3) := by decide +kernel
theorem dL_law_1205 : decode cL_law 1205 = .ok (.aload_n 1, 1) := by decide +kernel
theorem dL_law_1206 : decode cL_law 1206 = .ok (.aload_n 0, 1) := by decide +kernel
theorem dL_law_1207 : decode cL_law 1207 = .ok (.iload 4, 2) := by decide +kernel
theorem dL_law_1209 : decode cL_law 1209 = .ok (.iconst 1, 1) := by decide +kernel
theorem dL_law_1210 : decode cL_law 1210 = .ok (.iadd, 1) := by decide +kernel
theorem dL_law_1211 : decode cL_law 1211 = .ok (.iaload, 1) := by decide +kernel
theorem dL_law_1212 : decode cL_law 1212 = .ok (.aload_n 3, 1) := by decide +kernel
theorem dL_law_1213 : decode cL_law 1213 = .ok (.invokestatic 137, 3) := by decide +kernel
theorem dL_law_1216 : decode cL_law 1216 = .ok (.istore 5, 2) := by decide +kernel
theorem dL_law_1218 : decode cL_law 1218 = .ok (.aload_n 2, 1) := by decide +kernel
theorem dL_law_1219 : decode cL_law 1219 = .ok (.aload_n 0, 1) := by decide +kernel
theorem dL_law_1220 : decode cL_law 1220 = .ok (.iload 4, 2) := by decide +kernel
theorem dL_law_1222 : decode cL_law 1222 = .ok (.iconst 1, 1) := by decide +kernel
theorem dL_law_1223 : decode cL_law 1223 = .ok (.iadd, 1) := by decide +kernel
theorem dL_law_1224 : decode cL_law 1224 = .ok (.iaload, 1) := by decide +kernel
theorem dL_law_1225 : decode cL_law 1225 = .ok (.invokevirtual 139, 3) := by decide +kernel
theorem dL_law_1228 : decode cL_law 1228 = .ok (.istore 6, 2) := by decide +kernel
theorem dL_law_1230 : decode cL_law 1230 = .ok (.aload_n 2, 1) := by decide +kernel
theorem dL_law_1231 : decode cL_law 1231 = .ok (.invokevirtual 83, 3) := by decide +kernel
theorem dL_law_1234 : decode cL_law 1234 = .ok (.iload 5, 2) := by decide +kernel
theorem dL_law_1236 : decode cL_law 1236 = .ok (.if_icmp .eq 5, 3) := by decide +kernel
theorem dL_law_1239 : decode cL_law 1239 = .ok (.iconst 0, 1) := by decide +kernel
theorem dL_law_1240 : decode cL_law 1240 = .ok (.ireturn, 1) := by decide +kernel
theorem dL_law_1241 : decode cL_law 1241 = .ok (.iload 5, 2) := by decide +kernel
theorem dL_law_1243 : decode cL_law 1243 = .ok (.ifCond .ne 15, 3) := by decide +kernel
theorem dL_law_1246 : decode cL_law 1246 = .ok (.aload_n 3, 1) := by decide +kernel
theorem dL_law_1247 : decode cL_law 1247 = .ok (.iconst 0, 1) := by decide +kernel
theorem dL_law_1248 : decode cL_law 1248 = .ok (.laload, 1) := by decide +kernel
theorem dL_law_1249 : decode cL_law 1249 = .ok (.iload 6, 2) := by decide +kernel
theorem dL_law_1251 : decode cL_law 1251 = .ok (.i2l, 1) := by decide +kernel
theorem dL_law_1252 : decode cL_law 1252 = .ok (.lcmp, 1) := by decide +kernel
theorem dL_law_1253 : decode cL_law 1253 = .ok (.ifCond .eq 5, 3) := by decide +kernel
theorem dL_law_1256 : decode cL_law 1256 = .ok (.iconst 0, 1) := by decide +kernel
theorem dL_law_1257 : decode cL_law 1257 = .ok (.ireturn, 1) := by decide +kernel
theorem dL_law_1258 : decode cL_law 1258 = .ok (.goto 182, 3) := by decide +kernel
theorem dL_law_1261 : decode cL_law 1261 = .ok (.aload_n 1, 1) := by decide +kernel
theorem dL_law_1262 : decode cL_law 1262 = .ok (.aload_n 0, 1) := by decide +kernel
theorem dL_law_1263 : decode cL_law 1263 = .ok (.iload 4, 2) := by decide +kernel
theorem dL_law_1265 : decode cL_law 1265 = .ok (.iconst 1, 1) := by decide +kernel
theorem dL_law_1266 : decode cL_law 1266 = .ok (.iadd, 1) := by decide +kernel
theorem dL_law_1267 : decode cL_law 1267 = .ok (.iaload, 1) := by decide +kernel
theorem dL_law_1268 : decode cL_law 1268 = .ok (.aload_n 0, 1) := by decide +kernel
theorem dL_law_1269 : decode cL_law 1269 = .ok (.iload 4, 2) := by decide +kernel
theorem dL_law_1271 : decode cL_law 1271 = .ok (.iconst 2, 1) := by decide +kernel
theorem dL_law_1272 : decode cL_law 1272 = .ok (.iadd, 1) := by decide +kernel
theorem dL_law_1273 : decode cL_law 1273 = .ok (.iaload, 1) := by decide +kernel
theorem dL_law_1274 : decode cL_law 1274 = .ok (.aload_n 3, 1) := by decide +kernel
theorem dL_law_1275 : decode cL_law 1275 = .ok (.invokestatic 140, 3) := by decide +kernel
theorem dL_law_1278 : decode cL_law 1278 = .ok (.istore 5, 2) := by decide +kernel
theorem dL_law_1280 : decode cL_law 1280 = .ok (.aload_n 2, 1) := by decide +kernel
theorem dL_law_1281 : decode cL_law 1281 = .ok (.aload_n 0, 1) := by decide +kernel
theorem dL_law_1282 : decode cL_law 1282 = .ok (.iload 4, 2) := by decide +kernel
theorem dL_law_1284 : decode cL_law 1284 = .ok (.iconst 1, 1) := by decide +kernel
theorem dL_law_1285 : decode cL_law 1285 = .ok (.iadd, 1) := by decide +kernel
theorem dL_law_1286 : decode cL_law 1286 = .ok (.iaload, 1) := by decide +kernel
theorem dL_law_1287 : decode cL_law 1287 = .ok (.aload_n 0, 1) := by decide +kernel
theorem dL_law_1288 : decode cL_law 1288 = .ok (.iload 4, 2) := by decide +kernel
theorem dL_law_1290 : decode cL_law 1290 = .ok (.iconst 2, 1) := by decide +kernel
theorem dL_law_1291 : decode cL_law 1291 = .ok (.iadd, 1) := by decide +kernel
theorem dL_law_1292 : decode cL_law 1292 = .ok (.iaload, 1) := by decide +kernel
theorem dL_law_1293 : decode cL_law 1293 = .ok (.invokevirtual 142, 3) := by decide +kernel
theorem dL_law_1296 : decode cL_law 1296 = .ok (.istore 6, 2) := by decide +kernel
theorem dL_law_1298 : decode cL_law 1298 = .ok (.aload_n 2, 1) := by decide +kernel
theorem dL_law_1299 : decode cL_law 1299 = .ok (.invokevirtual 83, 3) := by decide +kernel
theorem dL_law_1302 : decode cL_law 1302 = .ok (.iload 5, 2) := by decide +kernel
theorem dL_law_1304 : decode cL_law 1304 = .ok (.if_icmp .eq 5, 3) := by decide +kernel
theorem dL_law_1307 : decode cL_law 1307 = .ok (.iconst 0, 1) := by decide +kernel
theorem dL_law_1308 : decode cL_law 1308 = .ok (.ireturn, 1) := by decide +kernel
theorem dL_law_1309 : decode cL_law 1309 = .ok (.iload 5, 2) := by decide +kernel
theorem dL_law_1311 : decode cL_law 1311 = .ok (.ifCond .ne 15, 3) := by decide +kernel
theorem dL_law_1314 : decode cL_law 1314 = .ok (.aload_n 3, 1) := by decide +kernel
theorem dL_law_1315 : decode cL_law 1315 = .ok (.iconst 0, 1) := by decide +kernel
theorem dL_law_1316 : decode cL_law 1316 = .ok (.laload, 1) := by decide +kernel
theorem dL_law_1317 : decode cL_law 1317 = .ok (.iload 6, 2) := by decide +kernel
theorem dL_law_1319 : decode cL_law 1319 = .ok (.i2l, 1) := by decide +kernel
theorem dL_law_1320 : decode cL_law 1320 = .ok (.lcmp, 1) := by decide +kernel
theorem dL_law_1321 : decode cL_law 1321 = .ok (.ifCond .eq 5, 3) := by decide +kernel
theorem dL_law_1324 : decode cL_law 1324 = .ok (.iconst 0, 1) := by decide +kernel
theorem dL_law_1325 : decode cL_law 1325 = .ok (.ireturn, 1) := by decide +kernel
theorem dL_law_1326 : decode cL_law 1326 = .ok (.goto 114, 3) := by decide +kernel
theorem dL_law_1329 : decode cL_law 1329 = .ok (.aload_n 1, 1) := by decide +kernel
theorem dL_law_1330 : decode cL_law 1330 = .ok (.aload_n 0, 1) := by decide +kernel
theorem dL_law_1331 : decode cL_law 1331 = .ok (.iload 4, 2) := by decide +kernel
theorem dL_law_1333 : decode cL_law 1333 = .ok (.iconst 1, 1) := by decide +kernel
theorem dL_law_1334 : decode cL_law 1334 = .ok (.iadd, 1) := by decide +kernel
theorem dL_law_1335 : decode cL_law 1335 = .ok (.iaload, 1) := by decide +kernel
theorem dL_law_1336 : decode cL_law 1336 = .ok (.aload_n 3, 1) := by decide +kernel
theorem dL_law_1337 : decode cL_law 1337 = .ok (.invokestatic 143, 3) := by decide +kernel
theorem dL_law_1340 : decode cL_law 1340 = .ok (.istore 5, 2) := by decide +kernel
theorem dL_law_1342 : decode cL_law 1342 = .ok (.aload_n 2, 1) := by decide +kernel
theorem dL_law_1343 : decode cL_law 1343 = .ok (.aload_n 0, 1) := by decide +kernel
theorem dL_law_1344 : decode cL_law 1344 = .ok (.iload 4, 2) := by decide +kernel
theorem dL_law_1346 : decode cL_law 1346 = .ok (.iconst 1, 1) := by decide +kernel
theorem dL_law_1347 : decode cL_law 1347 = .ok (.iadd, 1) := by decide +kernel
theorem dL_law_1348 : decode cL_law 1348 = .ok (.iaload, 1) := by decide +kernel
theorem dL_law_1349 : decode cL_law 1349 = .ok (.invokevirtual 145, 3) := by decide +kernel
theorem dL_law_1352 : decode cL_law 1352 = .ok (.istore 6, 2) := by decide +kernel
theorem dL_law_1354 : decode cL_law 1354 = .ok (.aload_n 2, 1) := by decide +kernel
theorem dL_law_1355 : decode cL_law 1355 = .ok (.invokevirtual 83, 3) := by decide +kernel
theorem dL_law_1358 : decode cL_law 1358 = .ok (.iload 5, 2) := by decide +kernel
theorem dL_law_1360 : decode cL_law 1360 = .ok (.if_icmp .eq 5, 3) := by decide +kernel
theorem dL_law_1363 : decode cL_law 1363 = .ok (.iconst 0, 1) := by decide +kernel
theorem dL_law_1364 : decode cL_law 1364 = .ok (.ireturn, 1) := by decide +kernel
theorem dL_law_1365 : decode cL_law 1365 = .ok (.iload 5, 2) := by decide +kernel
theorem dL_law_1367 : decode cL_law 1367 = .ok (.ifCond .ne 15, 3) := by decide +kernel
theorem dL_law_1370 : decode cL_law 1370 = .ok (.aload_n 3, 1) := by decide +kernel
theorem dL_law_1371 : decode cL_law 1371 = .ok (.iconst 0, 1) := by decide +kernel
theorem dL_law_1372 : decode cL_law 1372 = .ok (.laload, 1) := by decide +kernel
theorem dL_law_1373 : decode cL_law 1373 = .ok (.iload 6, 2) := by decide +kernel
theorem dL_law_1375 : decode cL_law 1375 = .ok (.i2l, 1) := by decide +kernel
theorem dL_law_1376 : decode cL_law 1376 = .ok (.lcmp, 1) := by decide +kernel
theorem dL_law_1377 : decode cL_law 1377 = .ok (.ifCond .eq 5, 3) := by decide +kernel
theorem dL_law_1380 : decode cL_law 1380 = .ok (.iconst 0, 1) := by decide +kernel
theorem dL_law_1381 : decode cL_law 1381 = .ok (.ireturn, 1) := by decide +kernel
theorem dL_law_1382 : decode cL_law 1382 = .ok (.goto 58, 3) := by decide +kernel
theorem dL_law_1385 : decode cL_law 1385 = .ok (.aload_n 1, 1) := by decide +kernel
theorem dL_law_1386 : decode cL_law 1386 = .ok (.invokevirtual 146, 3) := by decide +kernel
theorem dL_law_1389 : decode cL_law 1389 = .ok (.dstore 5, 2) := by decide +kernel
theorem dL_law_1391 : decode cL_law 1391 = .ok (.aload_n 2, 1) := by decide +kernel
theorem dL_law_1392 : decode cL_law 1392 = .ok (.invokevirtual 150, 3) := by decide +kernel
theorem dL_law_1395 : decode cL_law 1395 = .ok (.dstore 7, 2) := by decide +kernel
theorem dL_law_1397 : decode cL_law 1397 = .ok (.dload 5, 2) := by decide +kernel
theorem dL_law_1399 : decode cL_law 1399 = .ok (.dload 7, 2) := by decide +kernel
theorem dL_law_1401 : decode cL_law 1401 = .ok (.dcmp .l, 1) := by decide +kernel
theorem dL_law_1402 : decode cL_law 1402 = .ok (.ifCond .eq 21, 3) := by decide +kernel
theorem dL_law_1405 : decode cL_law 1405 = .ok (.dload 5, 2) := by decide +kernel
theorem dL_law_1407 : decode cL_law 1407 = .ok (.dload 5, 2) := by decide +kernel
theorem dL_law_1409 : decode cL_law 1409 = .ok (.dcmp .l, 1) := by decide +kernel
theorem dL_law_1410 : decode cL_law 1410 = .ok (.ifCond .eq 11, 3) := by decide +kernel
theorem dL_law_1413 : decode cL_law 1413 = .ok (.dload 7, 2) := by decide +kernel
theorem dL_law_1415 : decode cL_law 1415 = .ok (.dload 7, 2) := by decide +kernel
theorem dL_law_1417 : decode cL_law 1417 = .ok (.dcmp .l, 1) := by decide +kernel
theorem dL_law_1418 : decode cL_law 1418 = .ok (.ifCond .ne 5, 3) := by decide +kernel
theorem dL_law_1421 : decode cL_law 1421 = .ok (.iconst 0, 1) := by decide +kernel
theorem dL_law_1422 : decode cL_law 1422 = .ok (.ireturn, 1) := by decide +kernel
theorem dL_law_1423 : decode cL_law 1423 = .ok (.goto 17, 3) := by decide +kernel
theorem dL_law_1426 : decode cL_law 1426 = .ok (.aload_n 1, 1) := by decide +kernel
theorem dL_law_1427 : decode cL_law 1427 = .ok (.invokevirtual 151, 3) := by decide +kernel
theorem dL_law_1430 : decode cL_law 1430 = .ok (.aload_n 2, 1) := by decide +kernel
theorem dL_law_1431 : decode cL_law 1431 = .ok (.invokevirtual 155, 3) := by decide +kernel
theorem dL_law_1434 : decode cL_law 1434 = .ok (.lcmp, 1) := by decide +kernel
theorem dL_law_1435 : decode cL_law 1435 = .ok (.ifCond .eq 5, 3) := by decide +kernel
theorem dL_law_1438 : decode cL_law 1438 = .ok (.iconst 0, 1) := by decide +kernel
theorem dL_law_1439 : decode cL_law 1439 = .ok (.ireturn, 1) := by decide +kernel
theorem dL_law_1440 : decode cL_law 1440 = .ok (.iinc 4 5, 3) := by decide +kernel
theorem dL_law_1443 : decode cL_law 1443 = .ok (.goto (-1420), 3) := by decide +kernel
theorem dL_law_1446 : decode cL_law 1446 = .ok (.iconst 1, 1) := by decide +kernel
theorem dL_law_1447 : decode cL_law 1447 = .ok (.ireturn, 1) := by decide +kernel
abbrev vwCl : List vw_C := [(RX0, TX0, 15), (RX1, TX1, 2), (RX2, TX2, 8), (RX3, TX3, 7), (RX4, TX4, 7), (RX5, TX5, 21), (RX6, TX6, 10)]
