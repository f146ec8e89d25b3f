/-! ===== more of the layer: loops from any point, calls, max and min ===== -/
section EKH
variable {p : Program} {l : Launch} {e : Env} {R : Room} {s : State} {m : MethodId} {args : Array Value} {below : List Frame} {meth : Method} {c : Code} {own : String} {cc : ByteArray} {nL : Nat} {ret : Option FieldType} {Ts N : List Cond} {D : va_G} {tys : List (ClassId × FieldType)} {A B : Nat → Prop} {wr : Prop} {k n : Nat} {Q : State → Prop} {w : va_W} {pc : Nat} {lv : List (Nat × Value)} {st rest : List Value}
theorem ek_loopAt {σ : Type} (P : σ → Prop) (μ : σ → Nat) (wd : σ → va_W) (lc : σ → List (Nat × Value)) (h : ∀ a : σ, P a → (∀ b : σ, P b → μ b < μ a → ek_G p l e R s m args below meth c nL D A B k n Q (wd b) pc (lc b) st) → ek_G p l e R s m args below meth c nL D A B k n Q (wd a) pc (lc a) st) (a : σ) (ha : P a) (hw : w = wd a) (is : List Nat) (hl : lv_pick lv is = lc a) : ek_G p l e R s m args below meth c nL D A B k n Q w pc lv st := by
  subst hw
  exact ek_re is hl (ek_loop P μ wd lc h a ha)
/-- the cells of w at the places is -/
def ek_at (w : va_W) (is : List Nat) : va_W := is.filterMap (fun i => w[i]?)
theorem ek_at_map {w : va_W} {is : List Nat} (h : is.all (fun i => decide (i < w.length)) = true) : is.map (fun i => w[i]?) = (ek_at w is).map some := by
  induction is with
  | nil => rfl
  | cons i is ih =>
    simp only [List.all_cons, Bool.and_eq_true, decide_eq_true_eq] at h
    have h1 : w[i]? = some w[i] := List.getElem?_eq_getElem h.1
    have h2 := ih h.2
    unfold ek_at at h2 ⊢
    rw [List.map_cons, List.filterMap_cons, h1, h2]
    rfl
theorem ek_doWi {post : Int32 → Unit → Prop} {W' : Unit → va_W} {wc : va_W} {a : Array Value} {st0 : List Value} (X : ek_X p s m args meth c own cc nL ret Ts N D tys A B True) (hr : ek_Run p l e R s m args below meth c nL D B k n w pc lv st0 rest 0 0 (fun sz => ek_Q D (va_A wc sz) (fun r u => ∃ v : Int32, r = some (.int v) ∧ post v u) W' a) (fun sz => va_A wc sz))
    (isC isR : List Nat) (hC : isC.map (fun i => w[i]?) = wc.map some) (hR : isR.all (fun i => decide (i < w.length)) = true) (hn : va_nd isR = true) (hdis : ∀ i ∈ isR, i ∉ isC) (w2 : Unit → va_W) (is2 : List Nat) (hn2 : va_nd is2 = true) (h2 : ∀ u : Unit, is2.map (fun i => (ek_at w isR ++ W' u)[i]?) = (w2 u).map some)
    (kk : ∀ (v : Int32) (u : Unit), post v u → ek_G p l e R s m args below meth c nL D A B k n Q (w2 u) (pc + 3) lv (.int v :: rest)) : ek_G p l e R s m args below meth c nL D A B k n Q w pc lv st0 := ek_doW X hr isC isR hC (ek_at_map hR) hn hdis w2 is2 hn2 h2 (fun r u h => by obtain ⟨v, rfl, hp⟩ := h; exact kk v u hp)
theorem ek_doWv {post : Unit → Prop} {W' : Unit → va_W} {wc : va_W} {a : Array Value} {st0 : List Value} (X : ek_X p s m args meth c own cc nL ret Ts N D tys A B True) (hr : ek_Run p l e R s m args below meth c nL D B k n w pc lv st0 rest 0 0 (fun sz => ek_Q D (va_A wc sz) (fun r u => r = none ∧ post u) W' a) (fun sz => va_A wc sz))
    (isC isR : List Nat) (hC : isC.map (fun i => w[i]?) = wc.map some) (hR : isR.all (fun i => decide (i < w.length)) = true) (hn : va_nd isR = true) (hdis : ∀ i ∈ isR, i ∉ isC) (w2 : Unit → va_W) (is2 : List Nat) (hn2 : va_nd is2 = true) (h2 : ∀ u : Unit, is2.map (fun i => (ek_at w isR ++ W' u)[i]?) = (w2 u).map some)
    (kk : ∀ u : Unit, post u → ek_G p l e R s m args below meth c nL D A B k n Q (w2 u) (pc + 3) lv rest) : ek_G p l e R s m args below meth c nL D A B k n Q w pc lv st0 := ek_doW X hr isC isR hC (ek_at_map hR) hn hdis w2 is2 hn2 h2 (fun r u h => by obtain ⟨rfl, hp⟩ := h; exact kk u hp)
def emax (x y : Int32) : Int32 := if x < y then y else x
def emin (x y : Int32) : Int32 := if y < x then y else x
theorem ek_mmax {ix : Nat} {x y : Int32} (X : ek_X p s m args meth c own cc nL ret Ts N D tys A B wr) (h1 : Cond.methodLink own ix Lib.Math.max.name ∈ Ts) (h2 : Cond.static Lib.Math.max.name ∈ Ts) (h3 : Cond.initialized "java/lang/Math" ∈ Ts) (h4 : Cond.code Lib.Math.max.name Lib.Math.max.code 2 (some .int) ∈ Ts) (hR : 1 ≤ R.frames ∧ 21 ≤ R.locals) (hst : (rest.map fun v => v.category).sum ≤ 8) (hk : k ≤ R.cells ∧ n ≤ R.slots) (hdg : decode cc pc = .ok (.invokestatic ix, 3)) (kk : ek_G p l e R s m args below meth c nL D A B k n Q w (pc + 3) lv (.int (emax x y) :: rest)) : ek_G p l e R s m args below meth c nL D A B k n Q w pc lv (.int y :: .int x :: rest) := fun H locs ls hP hD hS hl => va_mmax X.1.1 X.1.2.1 (by rw [X.1.2.2.1]; exact hl.1.symm) X.1.2.2.2.1 (X.1.2.2.2.2 _ h1) (X.1.2.2.2.2 _ h2) (X.1.2.2.2.2 _ h3) (X.1.2.2.2.2 _ h4) hR.1 (by omega) hk.1 hk.2 hdg (kk H locs ls hP hD hS hl)
theorem ek_mmin {ix : Nat} {x y : Int32} (X : ek_X p s m args meth c own cc nL ret Ts N D tys A B wr) (h1 : Cond.methodLink own ix Lib.Math.min.name ∈ Ts) (h2 : Cond.static Lib.Math.min.name ∈ Ts) (h3 : Cond.initialized "java/lang/Math" ∈ Ts) (h4 : Cond.code Lib.Math.min.name Lib.Math.min.code 2 (some .int) ∈ Ts) (hR : 1 ≤ R.frames ∧ 21 ≤ R.locals) (hst : (rest.map fun v => v.category).sum ≤ 8) (hk : k ≤ R.cells ∧ n ≤ R.slots) (hdg : decode cc pc = .ok (.invokestatic ix, 3)) (kk : ek_G p l e R s m args below meth c nL D A B k n Q w (pc + 3) lv (.int (emin x y) :: rest)) : ek_G p l e R s m args below meth c nL D A B k n Q w pc lv (.int y :: .int x :: rest) := fun H locs ls hP hD hS hl => va_mmin X.1.1 X.1.2.1 (by rw [X.1.2.2.1]; exact hl.1.symm) X.1.2.2.2.1 (X.1.2.2.2.2 _ h1) (X.1.2.2.2.2 _ h2) (X.1.2.2.2.2 _ h3) (X.1.2.2.2.2 _ h4) hR.1 (by omega) hk.1 hk.2 hdg (kk H locs ls hP hD hS hl)
end EKH
/-! ===== the states, and the worlds that hold them ===== -/
abbrev CaveT : Type := Nat × Nat × Nat × (Nat → Nat) × (Nat → Nat) × (Nat → Nat) × (Nat → Nat) × (Nat → Nat) × (Nat → Nat) × (Nat → Nat) × (Nat → Nat) × (Nat → Nat) × (Nat → Nat) × (Nat → Nat → Nat) × (Nat → Int32)
abbrev cC (u : CaveT) : Nat := u.1
abbrev cP (u : CaveT) : Nat := u.2.1
abbrev cW (u : CaveT) : Nat := u.2.2.1
abbrev cWal (u : CaveT) : Nat → Nat := u.2.2.2.1
abbrev cHgt (u : CaveT) : Nat → Nat := u.2.2.2.2.1
abbrev cBat (u : CaveT) : Nat → Nat := u.2.2.2.2.2.1
abbrev cSyl (u : CaveT) : Nat → Nat := u.2.2.2.2.2.2.1
abbrev cDel (u : CaveT) : Nat → Nat := u.2.2.2.2.2.2.2.1
abbrev cDrs (u : CaveT) : Nat → Nat := u.2.2.2.2.2.2.2.2.1
abbrev cFrm (u : CaveT) : Nat → Nat := u.2.2.2.2.2.2.2.2.2.1
abbrev cTo (u : CaveT) : Nat → Nat := u.2.2.2.2.2.2.2.2.2.2.1
abbrev cLen (u : CaveT) : Nat → Nat := u.2.2.2.2.2.2.2.2.2.2.2.1
abbrev cNar (u : CaveT) : Nat → Nat := u.2.2.2.2.2.2.2.2.2.2.2.2.1
abbrev cPb (u : CaveT) : Nat → Nat → Nat := u.2.2.2.2.2.2.2.2.2.2.2.2.2.1
abbrev cFnd (u : CaveT) : Nat → Int32 := u.2.2.2.2.2.2.2.2.2.2.2.2.2.2
abbrev QueT : Type := Nat × (Nat → Nat)
abbrev qN (u : QueT) : Nat := u.1
abbrev qH (u : QueT) : Nat → Nat := u.2
abbrev EchT : Type := Nat × Nat × Nat × Nat × Nat × Int32 × (Nat → Nat) × (Nat → Int32)
abbrev hPl (u : EchT) : Nat := u.1
abbrev hEar (u : EchT) : Nat := u.2.1
abbrev hK (u : EchT) : Nat := u.2.2.1
abbrev hCt (u : EchT) : Nat := u.2.2.2.1
abbrev hOr (u : EchT) : Nat := u.2.2.2.2.1
abbrev hLa (u : EchT) : Int32 := u.2.2.2.2.2.1
abbrev hFa (u : EchT) : Nat → Nat := u.2.2.2.2.2.2.1
abbrev hFi (u : EchT) : Nat → Int32 := u.2.2.2.2.2.2.2
abbrev SndT : Type := Nat × Nat × (Nat → Nat) × (Nat → Nat) × (Nat → Nat)
abbrev sR (u : SndT) : Nat := u.1
abbrev sCl (u : SndT) : Nat := u.2.1
abbrev sSy (u : SndT) : Nat → Nat := u.2.2.1
abbrev sPl (u : SndT) : Nat → Nat := u.2.2.2.1
abbrev sU (u : SndT) : Nat → Nat := u.2.2.2.2
abbrev CavT : Type := Nat × Nat × Nat
abbrev vEar (u : CavT) : Nat := u.1
abbrev vSaid (u : CavT) : Nat := u.2.1
abbrev vWord (u : CavT) : Nat := u.2.2
abbrev MdlT : Type := Nat × Nat × Nat × Nat × Nat × Nat × (Nat → Nat) × (Nat → Nat)
abbrev mTh (u : MdlT) : Nat := u.1
abbrev mC (u : MdlT) : Nat := u.2.1
abbrev mP (u : MdlT) : Nat := u.2.2.1
abbrev mW (u : MdlT) : Nat := u.2.2.2.1
abbrev mEar (u : MdlT) : Nat := u.2.2.2.2.1
abbrev mSaid (u : MdlT) : Nat := u.2.2.2.2.2.1
abbrev mRo (u : MdlT) : Nat → Nat := u.2.2.2.2.2.2.1
abbrev mTu (u : MdlT) : Nat → Nat := u.2.2.2.2.2.2.2
abbrev MsnT : Type := ((Nat → Nat) × (Nat → Nat) × (Nat → Nat) × (Nat → Nat)) × ((Nat → Nat) × (Nat → Nat) × (Nat → Int32) × (Nat → Nat)) × (Nat × Nat × Nat × Nat) × (Nat × Nat × Int32 × Nat) × (Nat × Nat × Int32 × Nat)
abbrev tWo (u : MsnT) : Nat := u.2.2.2.2.1
abbrev tPl (u : MsnT) : Nat := u.2.2.2.2.2.1
abbrev tRu (u : MsnT) : Nat := u.2.2.1.2.1
abbrev tK (u : MsnT) : Nat := u.2.2.1.2.2.2
abbrev tCt (u : MsnT) : Nat := u.2.2.2.1.1
abbrev tOr (u : MsnT) : Nat := u.2.2.2.1.2.1
abbrev tLa (u : MsnT) : Int32 := u.2.2.2.1.2.2.1
abbrev tWa (u : MsnT) : Nat := u.2.2.1.1
abbrev tCl (u : MsnT) : Nat := u.2.2.1.2.2.1
abbrev tCh (u : MsnT) : Int32 := u.2.2.2.2.2.2.1
abbrev tWi (u : MsnT) : Nat := u.2.2.2.2.2.2.2
abbrev tLt (u : MsnT) : Nat := u.2.2.2.1.2.2.2
abbrev tFi (u : MsnT) : Nat → Int32 := u.2.1.2.2.1
abbrev tHe (u : MsnT) : Nat → Nat := u.2.1.2.2.2
abbrev tPc (u : MsnT) : Nat → Nat := u.1.2.2.1
abbrev tSy (u : MsnT) : Nat → Nat := u.1.2.2.2
abbrev tTh (u : MsnT) : Nat → Nat := u.2.1.1
abbrev tBa (u : MsnT) : Nat → Nat := u.2.1.2.1
abbrev tOd (u : MsnT) : Nat → Nat := u.1.1
abbrev tPw (u : MsnT) : Nat → Nat := u.1.2.1
def wC (ad : Nat → Nat) (cI cR : ClassId) (u : CaveT) : va_W := [
  (ad 0, .inr (0, [.int (nI (cC u)), .ref (ad 1), .ref (ad 2), .ref (ad 3), .ref (ad 4), .ref (ad 5), .ref (ad 6), .ref (ad 7), .int (nI (cP u)), .ref (ad 8), .ref (ad 9), .ref (ad 10), .ref (ad 11), .int (nI (cW u)), .ref (ad 12)])),
  (ad 1, .inl (cI, 12, .inl (fun j => nI (cWal u j)))),
  (ad 2, .inl (cI, 12, .inl (fun j => nI (cHgt u j)))),
  (ad 3, .inl (cI, 12, .inl (fun j => nI (cBat u j)))),
  (ad 4, .inl (cI, 12, .inl (fun j => nI (cSyl u j)))),
  (ad 5, .inl (cI, 12, .inl (fun j => nI (cDel u j)))),
  (ad 6, .inl (cI, 12, .inl (fun j => nI (cDrs u j)))),
  (ad 7, .inl (cR, 12, .inr (.inr (.inr (.inr (fun i => if i < 12 then some (ad (13 + i)) else none)))))),
  (ad 8, .inl (cI, 18, .inl (fun j => nI (cFrm u j)))),
  (ad 9, .inl (cI, 18, .inl (fun j => nI (cTo u j)))),
  (ad 10, .inl (cI, 18, .inl (fun j => nI (cLen u j)))),
  (ad 11, .inl (cI, 18, .inl (fun j => nI (cNar u j)))),
  (ad 12, .inl (cI, 12, .inl (cFnd u))),
  (ad 13, .inl (cI, 18, .inl (fun j => nI (cPb u 0 j)))),
  (ad 14, .inl (cI, 18, .inl (fun j => nI (cPb u 1 j)))),
  (ad 15, .inl (cI, 18, .inl (fun j => nI (cPb u 2 j)))),
  (ad 16, .inl (cI, 18, .inl (fun j => nI (cPb u 3 j)))),
  (ad 17, .inl (cI, 18, .inl (fun j => nI (cPb u 4 j)))),
  (ad 18, .inl (cI, 18, .inl (fun j => nI (cPb u 5 j)))),
  (ad 19, .inl (cI, 18, .inl (fun j => nI (cPb u 6 j)))),
  (ad 20, .inl (cI, 18, .inl (fun j => nI (cPb u 7 j)))),
  (ad 21, .inl (cI, 18, .inl (fun j => nI (cPb u 8 j)))),
  (ad 22, .inl (cI, 18, .inl (fun j => nI (cPb u 9 j)))),
  (ad 23, .inl (cI, 18, .inl (fun j => nI (cPb u 10 j)))),
  (ad 24, .inl (cI, 18, .inl (fun j => nI (cPb u 11 j))))]
def wQ (ad : Nat → Nat) (cI : ClassId) (q : QueT) : va_W := [
  (ad 30, .inr (1, [.ref (ad 31), .int (nI (qN q))])),
  (ad 31, .inl (cI, 629, .inl (fun j => nI (qH q j))))]
def wE (ad : Nat → Nat) (e : Nat) (cI : ClassId) (h : EchT) : va_W := [
  (ad e, .inr (2, [.ref (ad (e + 1)), .ref (ad (e + 2)), .int (nI (hPl h)), .int (nI (hEar h)), .int (nI (hK h)), .int (nI (hCt h)), .int (nI (hOr h)), .int (hLa h)])),
  (ad (e + 1), .inl (cI, 300, .inl (fun j => nI (hFa h j)))),
  (ad (e + 2), .inl (cI, 6, .inl (hFi h)))]
def wS (ad : Nat → Nat) (e : Nat) (cI cJ cR : ClassId) (g : SndT) (q : QueT) (u : CaveT) (h : EchT) : va_W := [
  (ad 32, .inr (3, [.ref (ad 0), .ref (ad 30), .ref (ad 33), .ref (ad 34), .ref (ad 35), .int (nI (sR g)), .int (nI (sCl g))])),
  (ad 33, .inl (cI, 17, .inl (fun j => nI (sSy g j)))),
  (ad 34, .inl (cI, 17, .inl (fun j => nI (sPl g j)))),
  (ad 35, .inl (cJ, 17, .inr (.inl (fun j => lN (sU g j))))),
  (ad 30, .inr (1, [.ref (ad 31), .int (nI (qN q))])),
  (ad 31, .inl (cI, 629, .inl (fun j => nI (qH q j)))),
  (ad 0, .inr (0, [.int (nI (cC u)), .ref (ad 1), .ref (ad 2), .ref (ad 3), .ref (ad 4), .ref (ad 5), .ref (ad 6), .ref (ad 7), .int (nI (cP u)), .ref (ad 8), .ref (ad 9), .ref (ad 10), .ref (ad 11), .int (nI (cW u)), .ref (ad 12)])),
  (ad 1, .inl (cI, 12, .inl (fun j => nI (cWal u j)))),
  (ad 2, .inl (cI, 12, .inl (fun j => nI (cHgt u j)))),
  (ad 3, .inl (cI, 12, .inl (fun j => nI (cBat u j)))),
  (ad 4, .inl (cI, 12, .inl (fun j => nI (cSyl u j)))),
  (ad 5, .inl (cI, 12, .inl (fun j => nI (cDel u j)))),
  (ad 6, .inl (cI, 12, .inl (fun j => nI (cDrs u j)))),
  (ad 7, .inl (cR, 12, .inr (.inr (.inr (.inr (fun i => if i < 12 then some (ad (13 + i)) else none)))))),
  (ad 8, .inl (cI, 18, .inl (fun j => nI (cFrm u j)))),
  (ad 9, .inl (cI, 18, .inl (fun j => nI (cTo u j)))),
  (ad 10, .inl (cI, 18, .inl (fun j => nI (cLen u j)))),
  (ad 11, .inl (cI, 18, .inl (fun j => nI (cNar u j)))),
  (ad 12, .inl (cI, 12, .inl (cFnd u))),
  (ad 13, .inl (cI, 18, .inl (fun j => nI (cPb u 0 j)))),
  (ad 14, .inl (cI, 18, .inl (fun j => nI (cPb u 1 j)))),
  (ad 15, .inl (cI, 18, .inl (fun j => nI (cPb u 2 j)))),
  (ad 16, .inl (cI, 18, .inl (fun j => nI (cPb u 3 j)))),
  (ad 17, .inl (cI, 18, .inl (fun j => nI (cPb u 4 j)))),
  (ad 18, .inl (cI, 18, .inl (fun j => nI (cPb u 5 j)))),
  (ad 19, .inl (cI, 18, .inl (fun j => nI (cPb u 6 j)))),
  (ad 20, .inl (cI, 18, .inl (fun j => nI (cPb u 7 j)))),
  (ad 21, .inl (cI, 18, .inl (fun j => nI (cPb u 8 j)))),
  (ad 22, .inl (cI, 18, .inl (fun j => nI (cPb u 9 j)))),
  (ad 23, .inl (cI, 18, .inl (fun j => nI (cPb u 10 j)))),
  (ad 24, .inl (cI, 18, .inl (fun j => nI (cPb u 11 j)))),
  (ad e, .inr (2, [.ref (ad (e + 1)), .ref (ad (e + 2)), .int (nI (hPl h)), .int (nI (hEar h)), .int (nI (hK h)), .int (nI (hCt h)), .int (nI (hOr h)), .int (hLa h)])),
  (ad (e + 1), .inl (cI, 300, .inl (fun j => nI (hFa h j)))),
  (ad (e + 2), .inl (cI, 6, .inl (hFi h)))]
/-- the kinds of arrays -/
abbrev tyW (cI cJ cR : ClassId) : List (ClassId × FieldType) := [(cI, .int), (cJ, .long), (cR, .array .int)]
/-- the links among nest mates -/
def nestW : List Cond := [.fieldLinkNest "EchoCave" 53 "EchoCave$Cave" "chambers" "I" "EchoCave",
  .fieldLinkNest "EchoCave" 86 "EchoCave$Cave" "bats" "[I" "EchoCave",
  .fieldLinkNest "EchoCave$Sound" 125 "EchoCave$Cave" "syllable" "[I" "EchoCave",
  .fieldLinkNest "EchoCave" 90 "EchoCave$Cave" "syllable" "[I" "EchoCave",
  .fieldLinkNest "EchoCave$Sound" 126 "EchoCave$Cave" "delay" "[I" "EchoCave",
  .fieldLinkNest "EchoCave" 144 "EchoCave$Cave" "delay" "[I" "EchoCave",
  .fieldLinkNest "EchoCave$Sound" 129 "EchoCave$Cave" "doors" "[I" "EchoCave",
  .fieldLinkNest "EchoCave$Sound" 132 "EchoCave$Cave" "passageBehind" "[[I" "EchoCave",
  .fieldLinkNest "EchoCave" 74 "EchoCave$Cave" "passages" "I" "EchoCave",
  .fieldLinkNest "EchoCave$Sound" 101 "EchoCave$Cave" "passages" "I" "EchoCave",
  .fieldLinkNest "EchoCave$Sound" 142 "EchoCave$Cave" "from" "[I" "EchoCave",
  .fieldLinkNest "EchoCave$Sound" 139 "EchoCave$Cave" "length" "[I" "EchoCave",
  .fieldLinkNest "EchoCave" 83 "EchoCave$Cave" "water" "I" "EchoCave",
  .fieldLinkNest "EchoCave" 141 "EchoCave$Sound" "runs" "I" "EchoCave",
  .fieldLinkNest "EchoCave" 131 "EchoCave$Echo" "firstTime" "[I" "EchoCave",
  .fieldLinkNest "EchoCave" 128 "EchoCave$Echo" "places" "I" "EchoCave",
  .fieldLinkNest "EchoCave" 118 "EchoCave$Echo" "kept" "I" "EchoCave",
  .fieldLinkNest "EchoCave" 115 "EchoCave$Echo" "counted" "I" "EchoCave",
  .fieldLinkNest "EchoCave" 138 "EchoCave$Echo" "lastTime" "I" "EchoCave",
  .methodLinkNest "EchoCave$Cave" 60 ⟨"EchoCave", "isWithin", "(III)Z"⟩ "EchoCave",
  .methodLinkNest "EchoCave$Sound" 40 ⟨"EchoCave", "placesOf", "(I)I"⟩ "EchoCave",
  .methodLinkNest "EchoCave$Echo" 47 ⟨"EchoCave", "isWithin", "(III)Z"⟩ "EchoCave"]
theorem nestW_ok : nestW.all ek_nest = true := by decide +kernel
theorem hd_X0_init : yX0_init.cls ≠ "java/lang/invoke/MethodHandle" ∧ yX0_init.cls ≠ "java/lang/invoke/VarHandle" ∧ (parseMethodDescriptor yX0_init.desc).map (fun d => d.parameters.length) = some 0 := by decide +kernel
theorem hdV_X0_init : yX0_init.cls = RX0 ∧ yX0_init.cls ≠ "java/lang/invoke/MethodHandle" ∧ yX0_init.cls ≠ "java/lang/invoke/VarHandle" ∧ (parseMethodDescriptor yX0_init.desc).map (fun d => d.parameters.length) = some 0 := ⟨rfl, hd_X0_init⟩
theorem hd_X0_hasChamber : yX0_hasChamber.cls ≠ "java/lang/invoke/MethodHandle" ∧ yX0_hasChamber.cls ≠ "java/lang/invoke/VarHandle" ∧ (parseMethodDescriptor yX0_hasChamber.desc).map (fun d => d.parameters.length) = some 1 := by decide +kernel
theorem hdV_X0_hasChamber : yX0_hasChamber.cls = RX0 ∧ yX0_hasChamber.cls ≠ "java/lang/invoke/MethodHandle" ∧ yX0_hasChamber.cls ≠ "java/lang/invoke/VarHandle" ∧ (parseMethodDescriptor yX0_hasChamber.desc).map (fun d => d.parameters.length) = some 1 := ⟨rfl, hd_X0_hasChamber⟩
theorem hd_X0_hasPassage : yX0_hasPassage.cls ≠ "java/lang/invoke/MethodHandle" ∧ yX0_hasPassage.cls ≠ "java/lang/invoke/VarHandle" ∧ (parseMethodDescriptor yX0_hasPassage.desc).map (fun d => d.parameters.length) = some 1 := by decide +kernel
theorem hdV_X0_hasPassage : yX0_hasPassage.cls = RX0 ∧ yX0_hasPassage.cls ≠ "java/lang/invoke/MethodHandle" ∧ yX0_hasPassage.cls ≠ "java/lang/invoke/VarHandle" ∧ (parseMethodDescriptor yX0_hasPassage.desc).map (fun d => d.parameters.length) = some 1 := ⟨rfl, hd_X0_hasPassage⟩
theorem hd_X0_findChamber : yX0_findChamber.cls ≠ "java/lang/invoke/MethodHandle" ∧ yX0_findChamber.cls ≠ "java/lang/invoke/VarHandle" ∧ (parseMethodDescriptor yX0_findChamber.desc).map (fun d => d.parameters.length) = some 3 := by decide +kernel
theorem hdV_X0_findChamber : yX0_findChamber.cls = RX0 ∧ yX0_findChamber.cls ≠ "java/lang/invoke/MethodHandle" ∧ yX0_findChamber.cls ≠ "java/lang/invoke/VarHandle" ∧ (parseMethodDescriptor yX0_findChamber.desc).map (fun d => d.parameters.length) = some 3 := ⟨rfl, hd_X0_findChamber⟩
theorem hd_X0_findPassage : yX0_findPassage.cls ≠ "java/lang/invoke/MethodHandle" ∧ yX0_findPassage.cls ≠ "java/lang/invoke/VarHandle" ∧ (parseMethodDescriptor yX0_findPassage.desc).map (fun d => d.parameters.length) = some 4 := by decide +kernel
theorem hdV_X0_findPassage : yX0_findPassage.cls = RX0 ∧ yX0_findPassage.cls ≠ "java/lang/invoke/MethodHandle" ∧ yX0_findPassage.cls ≠ "java/lang/invoke/VarHandle" ∧ (parseMethodDescriptor yX0_findPassage.desc).map (fun d => d.parameters.length) = some 4 := ⟨rfl, hd_X0_findPassage⟩
theorem hd_X0_addDoor : yX0_addDoor.cls ≠ "java/lang/invoke/MethodHandle" ∧ yX0_addDoor.cls ≠ "java/lang/invoke/VarHandle" ∧ (parseMethodDescriptor yX0_addDoor.desc).map (fun d => d.parameters.length) = some 2 := by decide +kernel
theorem hdV_X0_addDoor : yX0_addDoor.cls = RX0 ∧ yX0_addDoor.cls ≠ "java/lang/invoke/MethodHandle" ∧ yX0_addDoor.cls ≠ "java/lang/invoke/VarHandle" ∧ (parseMethodDescriptor yX0_addDoor.desc).map (fun d => d.parameters.length) = some 2 := ⟨rfl, hd_X0_addDoor⟩
theorem hd_X0_putClapper : yX0_putClapper.cls ≠ "java/lang/invoke/MethodHandle" ∧ yX0_putClapper.cls ≠ "java/lang/invoke/VarHandle" ∧ (parseMethodDescriptor yX0_putClapper.desc).map (fun d => d.parameters.length) = some 3 := by decide +kernel
theorem hdV_X0_putClapper : yX0_putClapper.cls = RX0 ∧ yX0_putClapper.cls ≠ "java/lang/invoke/MethodHandle" ∧ yX0_putClapper.cls ≠ "java/lang/invoke/VarHandle" ∧ (parseMethodDescriptor yX0_putClapper.desc).map (fun d => d.parameters.length) = some 3 := ⟨rfl, hd_X0_putClapper⟩
theorem hd_X0_isOpen : yX0_isOpen.cls ≠ "java/lang/invoke/MethodHandle" ∧ yX0_isOpen.cls ≠ "java/lang/invoke/VarHandle" ∧ (parseMethodDescriptor yX0_isOpen.desc).map (fun d => d.parameters.length) = some 1 := by decide +kernel
theorem hdV_X0_isOpen : yX0_isOpen.cls = RX0 ∧ yX0_isOpen.cls ≠ "java/lang/invoke/MethodHandle" ∧ yX0_isOpen.cls ≠ "java/lang/invoke/VarHandle" ∧ (parseMethodDescriptor yX0_isOpen.desc).map (fun d => d.parameters.length) = some 1 := ⟨rfl, hd_X0_isOpen⟩
theorem hd_X0_otherEnd : yX0_otherEnd.cls ≠ "java/lang/invoke/MethodHandle" ∧ yX0_otherEnd.cls ≠ "java/lang/invoke/VarHandle" ∧ (parseMethodDescriptor yX0_otherEnd.desc).map (fun d => d.parameters.length) = some 2 := by decide +kernel
theorem hdV_X0_otherEnd : yX0_otherEnd.cls = RX0 ∧ yX0_otherEnd.cls ≠ "java/lang/invoke/MethodHandle" ∧ yX0_otherEnd.cls ≠ "java/lang/invoke/VarHandle" ∧ (parseMethodDescriptor yX0_otherEnd.desc).map (fun d => d.parameters.length) = some 2 := ⟨rfl, hd_X0_otherEnd⟩
theorem hd_X0_drowns : yX0_drowns.cls ≠ "java/lang/invoke/MethodHandle" ∧ yX0_drowns.cls ≠ "java/lang/invoke/VarHandle" ∧ (parseMethodDescriptor yX0_drowns.desc).map (fun d => d.parameters.length) = some 2 := by decide +kernel
theorem hdV_X0_drowns : yX0_drowns.cls = RX0 ∧ yX0_drowns.cls ≠ "java/lang/invoke/MethodHandle" ∧ yX0_drowns.cls ≠ "java/lang/invoke/VarHandle" ∧ (parseMethodDescriptor yX0_drowns.desc).map (fun d => d.parameters.length) = some 2 := ⟨rfl, hd_X0_drowns⟩
theorem hd_X0_strengthBehind : yX0_strengthBehind.cls ≠ "java/lang/invoke/MethodHandle" ∧ yX0_strengthBehind.cls ≠ "java/lang/invoke/VarHandle" ∧ (parseMethodDescriptor yX0_strengthBehind.desc).map (fun d => d.parameters.length) = some 2 := by decide +kernel
theorem hdV_X0_strengthBehind : yX0_strengthBehind.cls = RX0 ∧ yX0_strengthBehind.cls ≠ "java/lang/invoke/MethodHandle" ∧ yX0_strengthBehind.cls ≠ "java/lang/invoke/VarHandle" ∧ (parseMethodDescriptor yX0_strengthBehind.desc).map (fun d => d.parameters.length) = some 2 := ⟨rfl, hd_X0_strengthBehind⟩
theorem hd_X0_strengthFromWall : yX0_strengthFromWall.cls ≠ "java/lang/invoke/MethodHandle" ∧ yX0_strengthFromWall.cls ≠ "java/lang/invoke/VarHandle" ∧ (parseMethodDescriptor yX0_strengthFromWall.desc).map (fun d => d.parameters.length) = some 2 := by decide +kernel
theorem hdV_X0_strengthFromWall : yX0_strengthFromWall.cls = RX0 ∧ yX0_strengthFromWall.cls ≠ "java/lang/invoke/MethodHandle" ∧ yX0_strengthFromWall.cls ≠ "java/lang/invoke/VarHandle" ∧ (parseMethodDescriptor yX0_strengthFromWall.desc).map (fun d => d.parameters.length) = some 2 := ⟨rfl, hd_X0_strengthFromWall⟩
theorem hd_X0_openPassages : yX0_openPassages.cls ≠ "java/lang/invoke/MethodHandle" ∧ yX0_openPassages.cls ≠ "java/lang/invoke/VarHandle" ∧ (parseMethodDescriptor yX0_openPassages.desc).map (fun d => d.parameters.length) = some 0 := by decide +kernel
theorem hdV_X0_openPassages : yX0_openPassages.cls = RX0 ∧ yX0_openPassages.cls ≠ "java/lang/invoke/MethodHandle" ∧ yX0_openPassages.cls ≠ "java/lang/invoke/VarHandle" ∧ (parseMethodDescriptor yX0_openPassages.desc).map (fun d => d.parameters.length) = some 0 := ⟨rfl, hd_X0_openPassages⟩
theorem hd_X0_clappers : yX0_clappers.cls ≠ "java/lang/invoke/MethodHandle" ∧ yX0_clappers.cls ≠ "java/lang/invoke/VarHandle" ∧ (parseMethodDescriptor yX0_clappers.desc).map (fun d => d.parameters.length) = some 0 := by decide +kernel
theorem hdV_X0_clappers : yX0_clappers.cls = RX0 ∧ yX0_clappers.cls ≠ "java/lang/invoke/MethodHandle" ∧ yX0_clappers.cls ≠ "java/lang/invoke/VarHandle" ∧ (parseMethodDescriptor yX0_clappers.desc).map (fun d => d.parameters.length) = some 0 := ⟨rfl, hd_X0_clappers⟩
theorem hd_X0_openDoors : yX0_openDoors.cls ≠ "java/lang/invoke/MethodHandle" ∧ yX0_openDoors.cls ≠ "java/lang/invoke/VarHandle" ∧ (parseMethodDescriptor yX0_openDoors.desc).map (fun d => d.parameters.length) = some 1 := by decide +kernel
theorem hdV_X0_openDoors : yX0_openDoors.cls = RX0 ∧ yX0_openDoors.cls ≠ "java/lang/invoke/MethodHandle" ∧ yX0_openDoors.cls ≠ "java/lang/invoke/VarHandle" ∧ (parseMethodDescriptor yX0_openDoors.desc).map (fun d => d.parameters.length) = some 1 := ⟨rfl, hd_X0_openDoors⟩
theorem hd_X0_chamberFact : yX0_chamberFact.cls ≠ "java/lang/invoke/MethodHandle" ∧ yX0_chamberFact.cls ≠ "java/lang/invoke/VarHandle" ∧ (parseMethodDescriptor yX0_chamberFact.desc).map (fun d => d.parameters.length) = some 2 := by decide +kernel
theorem hdV_X0_chamberFact : yX0_chamberFact.cls = RX0 ∧ yX0_chamberFact.cls ≠ "java/lang/invoke/MethodHandle" ∧ yX0_chamberFact.cls ≠ "java/lang/invoke/VarHandle" ∧ (parseMethodDescriptor yX0_chamberFact.desc).map (fun d => d.parameters.length) = some 2 := ⟨rfl, hd_X0_chamberFact⟩
theorem hd_X0_passageFact : yX0_passageFact.cls ≠ "java/lang/invoke/MethodHandle" ∧ yX0_passageFact.cls ≠ "java/lang/invoke/VarHandle" ∧ (parseMethodDescriptor yX0_passageFact.desc).map (fun d => d.parameters.length) = some 2 := by decide +kernel
theorem hdV_X0_passageFact : yX0_passageFact.cls = RX0 ∧ yX0_passageFact.cls ≠ "java/lang/invoke/MethodHandle" ∧ yX0_passageFact.cls ≠ "java/lang/invoke/VarHandle" ∧ (parseMethodDescriptor yX0_passageFact.desc).map (fun d => d.parameters.length) = some 2 := ⟨rfl, hd_X0_passageFact⟩
theorem hd_X0_shortestWay : yX0_shortestWay.cls ≠ "java/lang/invoke/MethodHandle" ∧ yX0_shortestWay.cls ≠ "java/lang/invoke/VarHandle" ∧ (parseMethodDescriptor yX0_shortestWay.desc).map (fun d => d.parameters.length) = some 2 := by decide +kernel
theorem hdV_X0_shortestWay : yX0_shortestWay.cls = RX0 ∧ yX0_shortestWay.cls ≠ "java/lang/invoke/MethodHandle" ∧ yX0_shortestWay.cls ≠ "java/lang/invoke/VarHandle" ∧ (parseMethodDescriptor yX0_shortestWay.desc).map (fun d => d.parameters.length) = some 2 := ⟨rfl, hd_X0_shortestWay⟩
theorem hd_X0_shorten : yX0_shorten.cls ≠ "java/lang/invoke/MethodHandle" ∧ yX0_shorten.cls ≠ "java/lang/invoke/VarHandle" ∧ (parseMethodDescriptor yX0_shorten.desc).map (fun d => d.parameters.length) = some 3 := by decide +kernel
theorem hdV_X0_shorten : yX0_shorten.cls = RX0 ∧ yX0_shorten.cls ≠ "java/lang/invoke/MethodHandle" ∧ yX0_shorten.cls ≠ "java/lang/invoke/VarHandle" ∧ (parseMethodDescriptor yX0_shorten.desc).map (fun d => d.parameters.length) = some 3 := ⟨rfl, hd_X0_shorten⟩
theorem hd_X0_highestWater : yX0_highestWater.cls ≠ "java/lang/invoke/MethodHandle" ∧ yX0_highestWater.cls ≠ "java/lang/invoke/VarHandle" ∧ (parseMethodDescriptor yX0_highestWater.desc).map (fun d => d.parameters.length) = some 1 := by decide +kernel
theorem hdV_X0_highestWater : yX0_highestWater.cls = RX0 ∧ yX0_highestWater.cls ≠ "java/lang/invoke/MethodHandle" ∧ yX0_highestWater.cls ≠ "java/lang/invoke/VarHandle" ∧ (parseMethodDescriptor yX0_highestWater.desc).map (fun d => d.parameters.length) = some 1 := ⟨rfl, hd_X0_highestWater⟩
theorem hd_X0_raise : yX0_raise.cls ≠ "java/lang/invoke/MethodHandle" ∧ yX0_raise.cls ≠ "java/lang/invoke/VarHandle" ∧ (parseMethodDescriptor yX0_raise.desc).map (fun d => d.parameters.length) = some 2 := by decide +kernel
theorem hdV_X0_raise : yX0_raise.cls = RX0 ∧ yX0_raise.cls ≠ "java/lang/invoke/MethodHandle" ∧ yX0_raise.cls ≠ "java/lang/invoke/VarHandle" ∧ (parseMethodDescriptor yX0_raise.desc).map (fun d => d.parameters.length) = some 2 := ⟨rfl, hd_X0_raise⟩
theorem hd_X1_init : yX1_init.cls ≠ "java/lang/invoke/MethodHandle" ∧ yX1_init.cls ≠ "java/lang/invoke/VarHandle" ∧ (parseMethodDescriptor yX1_init.desc).map (fun d => d.parameters.length) = some 0 := by decide +kernel
theorem hdV_X1_init : yX1_init.cls = RX1 ∧ yX1_init.cls ≠ "java/lang/invoke/MethodHandle" ∧ yX1_init.cls ≠ "java/lang/invoke/VarHandle" ∧ (parseMethodDescriptor yX1_init.desc).map (fun d => d.parameters.length) = some 0 := ⟨rfl, hd_X1_init⟩
theorem hd_X1_pack : yX1_pack.cls ≠ "java/lang/invoke/MethodHandle" ∧ yX1_pack.cls ≠ "java/lang/invoke/VarHandle" ∧ (parseMethodDescriptor yX1_pack.desc).map (fun d => d.parameters.length) = some 5 := by decide +kernel
theorem hdV_X1_pack : yX1_pack.cls = RX1 ∧ yX1_pack.cls ≠ "java/lang/invoke/MethodHandle" ∧ yX1_pack.cls ≠ "java/lang/invoke/VarHandle" ∧ (parseMethodDescriptor yX1_pack.desc).map (fun d => d.parameters.length) = some 5 := ⟨rfl, hd_X1_pack⟩
theorem hd_X1_timeOf : yX1_timeOf.cls ≠ "java/lang/invoke/MethodHandle" ∧ yX1_timeOf.cls ≠ "java/lang/invoke/VarHandle" ∧ (parseMethodDescriptor yX1_timeOf.desc).map (fun d => d.parameters.length) = some 1 := by decide +kernel
theorem hdV_X1_timeOf : yX1_timeOf.cls = RX1 ∧ yX1_timeOf.cls ≠ "java/lang/invoke/MethodHandle" ∧ yX1_timeOf.cls ≠ "java/lang/invoke/VarHandle" ∧ (parseMethodDescriptor yX1_timeOf.desc).map (fun d => d.parameters.length) = some 1 := ⟨rfl, hd_X1_timeOf⟩
theorem hd_X1_chamberOf : yX1_chamberOf.cls ≠ "java/lang/invoke/MethodHandle" ∧ yX1_chamberOf.cls ≠ "java/lang/invoke/VarHandle" ∧ (parseMethodDescriptor yX1_chamberOf.desc).map (fun d => d.parameters.length) = some 1 := by decide +kernel
theorem hdV_X1_chamberOf : yX1_chamberOf.cls = RX1 ∧ yX1_chamberOf.cls ≠ "java/lang/invoke/MethodHandle" ∧ yX1_chamberOf.cls ≠ "java/lang/invoke/VarHandle" ∧ (parseMethodDescriptor yX1_chamberOf.desc).map (fun d => d.parameters.length) = some 1 := ⟨rfl, hd_X1_chamberOf⟩
theorem hd_X1_runOf : yX1_runOf.cls ≠ "java/lang/invoke/MethodHandle" ∧ yX1_runOf.cls ≠ "java/lang/invoke/VarHandle" ∧ (parseMethodDescriptor yX1_runOf.desc).map (fun d => d.parameters.length) = some 1 := by decide +kernel
theorem hdV_X1_runOf : yX1_runOf.cls = RX1 ∧ yX1_runOf.cls ≠ "java/lang/invoke/MethodHandle" ∧ yX1_runOf.cls ≠ "java/lang/invoke/VarHandle" ∧ (parseMethodDescriptor yX1_runOf.desc).map (fun d => d.parameters.length) = some 1 := ⟨rfl, hd_X1_runOf⟩
theorem hd_X1_passageOf : yX1_passageOf.cls ≠ "java/lang/invoke/MethodHandle" ∧ yX1_passageOf.cls ≠ "java/lang/invoke/VarHandle" ∧ (parseMethodDescriptor yX1_passageOf.desc).map (fun d => d.parameters.length) = some 1 := by decide +kernel
theorem hdV_X1_passageOf : yX1_passageOf.cls = RX1 ∧ yX1_passageOf.cls ≠ "java/lang/invoke/MethodHandle" ∧ yX1_passageOf.cls ≠ "java/lang/invoke/VarHandle" ∧ (parseMethodDescriptor yX1_passageOf.desc).map (fun d => d.parameters.length) = some 1 := ⟨rfl, hd_X1_passageOf⟩
theorem hd_X1_strengthOf : yX1_strengthOf.cls ≠ "java/lang/invoke/MethodHandle" ∧ yX1_strengthOf.cls ≠ "java/lang/invoke/VarHandle" ∧ (parseMethodDescriptor yX1_strengthOf.desc).map (fun d => d.parameters.length) = some 1 := by decide +kernel
theorem hdV_X1_strengthOf : yX1_strengthOf.cls = RX1 ∧ yX1_strengthOf.cls ≠ "java/lang/invoke/MethodHandle" ∧ yX1_strengthOf.cls ≠ "java/lang/invoke/VarHandle" ∧ (parseMethodDescriptor yX1_strengthOf.desc).map (fun d => d.parameters.length) = some 1 := ⟨rfl, hd_X1_strengthOf⟩
theorem hd_X1_clear : yX1_clear.cls ≠ "java/lang/invoke/MethodHandle" ∧ yX1_clear.cls ≠ "java/lang/invoke/VarHandle" ∧ (parseMethodDescriptor yX1_clear.desc).map (fun d => d.parameters.length) = some 0 := by decide +kernel
theorem hdV_X1_clear : yX1_clear.cls = RX1 ∧ yX1_clear.cls ≠ "java/lang/invoke/MethodHandle" ∧ yX1_clear.cls ≠ "java/lang/invoke/VarHandle" ∧ (parseMethodDescriptor yX1_clear.desc).map (fun d => d.parameters.length) = some 0 := ⟨rfl, hd_X1_clear⟩
theorem hd_X1_isEmpty : yX1_isEmpty.cls ≠ "java/lang/invoke/MethodHandle" ∧ yX1_isEmpty.cls ≠ "java/lang/invoke/VarHandle" ∧ (parseMethodDescriptor yX1_isEmpty.desc).map (fun d => d.parameters.length) = some 0 := by decide +kernel
theorem hdV_X1_isEmpty : yX1_isEmpty.cls = RX1 ∧ yX1_isEmpty.cls ≠ "java/lang/invoke/MethodHandle" ∧ yX1_isEmpty.cls ≠ "java/lang/invoke/VarHandle" ∧ (parseMethodDescriptor yX1_isEmpty.desc).map (fun d => d.parameters.length) = some 0 := ⟨rfl, hd_X1_isEmpty⟩
theorem hd_X1_put : yX1_put.cls ≠ "java/lang/invoke/MethodHandle" ∧ yX1_put.cls ≠ "java/lang/invoke/VarHandle" ∧ (parseMethodDescriptor yX1_put.desc).map (fun d => d.parameters.length) = some 1 := by decide +kernel
theorem hdV_X1_put : yX1_put.cls = RX1 ∧ yX1_put.cls ≠ "java/lang/invoke/MethodHandle" ∧ yX1_put.cls ≠ "java/lang/invoke/VarHandle" ∧ (parseMethodDescriptor yX1_put.desc).map (fun d => d.parameters.length) = some 1 := ⟨rfl, hd_X1_put⟩
theorem hd_X1_takeNext : yX1_takeNext.cls ≠ "java/lang/invoke/MethodHandle" ∧ yX1_takeNext.cls ≠ "java/lang/invoke/VarHandle" ∧ (parseMethodDescriptor yX1_takeNext.desc).map (fun d => d.parameters.length) = some 0 := by decide +kernel
theorem hdV_X1_takeNext : yX1_takeNext.cls = RX1 ∧ yX1_takeNext.cls ≠ "java/lang/invoke/MethodHandle" ∧ yX1_takeNext.cls ≠ "java/lang/invoke/VarHandle" ∧ (parseMethodDescriptor yX1_takeNext.desc).map (fun d => d.parameters.length) = some 0 := ⟨rfl, hd_X1_takeNext⟩
theorem hd_X1_sink : yX1_sink.cls ≠ "java/lang/invoke/MethodHandle" ∧ yX1_sink.cls ≠ "java/lang/invoke/VarHandle" ∧ (parseMethodDescriptor yX1_sink.desc).map (fun d => d.parameters.length) = some 1 := by decide +kernel
theorem hdV_X1_sink : yX1_sink.cls = RX1 ∧ yX1_sink.cls ≠ "java/lang/invoke/MethodHandle" ∧ yX1_sink.cls ≠ "java/lang/invoke/VarHandle" ∧ (parseMethodDescriptor yX1_sink.desc).map (fun d => d.parameters.length) = some 1 := ⟨rfl, hd_X1_sink⟩
theorem hd_X2_init : yX2_init.cls ≠ "java/lang/invoke/MethodHandle" ∧ yX2_init.cls ≠ "java/lang/invoke/VarHandle" ∧ (parseMethodDescriptor yX2_init.desc).map (fun d => d.parameters.length) = some 0 := by decide +kernel
theorem hdV_X2_init : yX2_init.cls = RX2 ∧ yX2_init.cls ≠ "java/lang/invoke/MethodHandle" ∧ yX2_init.cls ≠ "java/lang/invoke/VarHandle" ∧ (parseMethodDescriptor yX2_init.desc).map (fun d => d.parameters.length) = some 0 := ⟨rfl, hd_X2_init⟩
theorem hd_X2_begin : yX2_begin.cls ≠ "java/lang/invoke/MethodHandle" ∧ yX2_begin.cls ≠ "java/lang/invoke/VarHandle" ∧ (parseMethodDescriptor yX2_begin.desc).map (fun d => d.parameters.length) = some 2 := by decide +kernel
theorem hdV_X2_begin : yX2_begin.cls = RX2 ∧ yX2_begin.cls ≠ "java/lang/invoke/MethodHandle" ∧ yX2_begin.cls ≠ "java/lang/invoke/VarHandle" ∧ (parseMethodDescriptor yX2_begin.desc).map (fun d => d.parameters.length) = some 2 := ⟨rfl, hd_X2_begin⟩
theorem hd_X2_hear : yX2_hear.cls ≠ "java/lang/invoke/MethodHandle" ∧ yX2_hear.cls ≠ "java/lang/invoke/VarHandle" ∧ (parseMethodDescriptor yX2_hear.desc).map (fun d => d.parameters.length) = some 4 := by decide +kernel
theorem hdV_X2_hear : yX2_hear.cls = RX2 ∧ yX2_hear.cls ≠ "java/lang/invoke/MethodHandle" ∧ yX2_hear.cls ≠ "java/lang/invoke/VarHandle" ∧ (parseMethodDescriptor yX2_hear.desc).map (fun d => d.parameters.length) = some 4 := ⟨rfl, hd_X2_hear⟩
theorem hd_X2_letCount : yX2_letCount.cls ≠ "java/lang/invoke/MethodHandle" ∧ yX2_letCount.cls ≠ "java/lang/invoke/VarHandle" ∧ (parseMethodDescriptor yX2_letCount.desc).map (fun d => d.parameters.length) = some 2 := by decide +kernel
theorem hdV_X2_letCount : yX2_letCount.cls = RX2 ∧ yX2_letCount.cls ≠ "java/lang/invoke/MethodHandle" ∧ yX2_letCount.cls ≠ "java/lang/invoke/VarHandle" ∧ (parseMethodDescriptor yX2_letCount.desc).map (fun d => d.parameters.length) = some 2 := ⟨rfl, hd_X2_letCount⟩
theorem hd_X2_cameInOrder : yX2_cameInOrder.cls ≠ "java/lang/invoke/MethodHandle" ∧ yX2_cameInOrder.cls ≠ "java/lang/invoke/VarHandle" ∧ (parseMethodDescriptor yX2_cameInOrder.desc).map (fun d => d.parameters.length) = some 0 := by decide +kernel
theorem hdV_X2_cameInOrder : yX2_cameInOrder.cls = RX2 ∧ yX2_cameInOrder.cls ≠ "java/lang/invoke/MethodHandle" ∧ yX2_cameInOrder.cls ≠ "java/lang/invoke/VarHandle" ∧ (parseMethodDescriptor yX2_cameInOrder.desc).map (fun d => d.parameters.length) = some 0 := ⟨rfl, hd_X2_cameInOrder⟩
theorem hd_X2_heardFact : yX2_heardFact.cls ≠ "java/lang/invoke/MethodHandle" ∧ yX2_heardFact.cls ≠ "java/lang/invoke/VarHandle" ∧ (parseMethodDescriptor yX2_heardFact.desc).map (fun d => d.parameters.length) = some 2 := by decide +kernel
theorem hdV_X2_heardFact : yX2_heardFact.cls = RX2 ∧ yX2_heardFact.cls ≠ "java/lang/invoke/MethodHandle" ∧ yX2_heardFact.cls ≠ "java/lang/invoke/VarHandle" ∧ (parseMethodDescriptor yX2_heardFact.desc).map (fun d => d.parameters.length) = some 2 := ⟨rfl, hd_X2_heardFact⟩
theorem hd_X2_meanStrength : yX2_meanStrength.cls ≠ "java/lang/invoke/MethodHandle" ∧ yX2_meanStrength.cls ≠ "java/lang/invoke/VarHandle" ∧ (parseMethodDescriptor yX2_meanStrength.desc).map (fun d => d.parameters.length) = some 0 := by decide +kernel
theorem hdV_X2_meanStrength : yX2_meanStrength.cls = RX2 ∧ yX2_meanStrength.cls ≠ "java/lang/invoke/MethodHandle" ∧ yX2_meanStrength.cls ≠ "java/lang/invoke/VarHandle" ∧ (parseMethodDescriptor yX2_meanStrength.desc).map (fun d => d.parameters.length) = some 0 := ⟨rfl, hd_X2_meanStrength⟩
theorem hd_X3_init : yX3_init.cls ≠ "java/lang/invoke/MethodHandle" ∧ yX3_init.cls ≠ "java/lang/invoke/VarHandle" ∧ (parseMethodDescriptor yX3_init.desc).map (fun d => d.parameters.length) = some 1 := by decide +kernel
theorem hdV_X3_init : yX3_init.cls = RX3 ∧ yX3_init.cls ≠ "java/lang/invoke/MethodHandle" ∧ yX3_init.cls ≠ "java/lang/invoke/VarHandle" ∧ (parseMethodDescriptor yX3_init.desc).map (fun d => d.parameters.length) = some 1 := ⟨rfl, hd_X3_init⟩
theorem hd_X3_runThrough : yX3_runThrough.cls ≠ "java/lang/invoke/MethodHandle" ∧ yX3_runThrough.cls ≠ "java/lang/invoke/VarHandle" ∧ (parseMethodDescriptor yX3_runThrough.desc).map (fun d => d.parameters.length) = some 4 := by decide +kernel
theorem hdV_X3_runThrough : yX3_runThrough.cls = RX3 ∧ yX3_runThrough.cls ≠ "java/lang/invoke/MethodHandle" ∧ yX3_runThrough.cls ≠ "java/lang/invoke/VarHandle" ∧ (parseMethodDescriptor yX3_runThrough.desc).map (fun d => d.parameters.length) = some 4 := ⟨rfl, hd_X3_runThrough⟩
theorem hd_X3_begin : yX3_begin.cls ≠ "java/lang/invoke/MethodHandle" ∧ yX3_begin.cls ≠ "java/lang/invoke/VarHandle" ∧ (parseMethodDescriptor yX3_begin.desc).map (fun d => d.parameters.length) = some 3 := by decide +kernel
theorem hdV_X3_begin : yX3_begin.cls = RX3 ∧ yX3_begin.cls ≠ "java/lang/invoke/MethodHandle" ∧ yX3_begin.cls ≠ "java/lang/invoke/VarHandle" ∧ (parseMethodDescriptor yX3_begin.desc).map (fun d => d.parameters.length) = some 3 := ⟨rfl, hd_X3_begin⟩
theorem hd_X3_startRun : yX3_startRun.cls ≠ "java/lang/invoke/MethodHandle" ∧ yX3_startRun.cls ≠ "java/lang/invoke/VarHandle" ∧ (parseMethodDescriptor yX3_startRun.desc).map (fun d => d.parameters.length) = some 5 := by decide +kernel
theorem hdV_X3_startRun : yX3_startRun.cls = RX3 ∧ yX3_startRun.cls ≠ "java/lang/invoke/MethodHandle" ∧ yX3_startRun.cls ≠ "java/lang/invoke/VarHandle" ∧ (parseMethodDescriptor yX3_startRun.desc).map (fun d => d.parameters.length) = some 5 := ⟨rfl, hd_X3_startRun⟩
theorem hd_X3_come : yX3_come.cls ≠ "java/lang/invoke/MethodHandle" ∧ yX3_come.cls ≠ "java/lang/invoke/VarHandle" ∧ (parseMethodDescriptor yX3_come.desc).map (fun d => d.parameters.length) = some 2 := by decide +kernel
theorem hdV_X3_come : yX3_come.cls = RX3 ∧ yX3_come.cls ≠ "java/lang/invoke/MethodHandle" ∧ yX3_come.cls ≠ "java/lang/invoke/VarHandle" ∧ (parseMethodDescriptor yX3_come.desc).map (fun d => d.parameters.length) = some 2 := ⟨rfl, hd_X3_come⟩
theorem hd_X3_setOffClapper : yX3_setOffClapper.cls ≠ "java/lang/invoke/MethodHandle" ∧ yX3_setOffClapper.cls ≠ "java/lang/invoke/VarHandle" ∧ (parseMethodDescriptor yX3_setOffClapper.desc).map (fun d => d.parameters.length) = some 3 := by decide +kernel
theorem hdV_X3_setOffClapper : yX3_setOffClapper.cls = RX3 ∧ yX3_setOffClapper.cls ≠ "java/lang/invoke/MethodHandle" ∧ yX3_setOffClapper.cls ≠ "java/lang/invoke/VarHandle" ∧ (parseMethodDescriptor yX3_setOffClapper.desc).map (fun d => d.parameters.length) = some 3 := ⟨rfl, hd_X3_setOffClapper⟩
theorem hd_X3_goOn : yX3_goOn.cls ≠ "java/lang/invoke/MethodHandle" ∧ yX3_goOn.cls ≠ "java/lang/invoke/VarHandle" ∧ (parseMethodDescriptor yX3_goOn.desc).map (fun d => d.parameters.length) = some 5 := by decide +kernel
theorem hdV_X3_goOn : yX3_goOn.cls = RX3 ∧ yX3_goOn.cls ≠ "java/lang/invoke/MethodHandle" ∧ yX3_goOn.cls ≠ "java/lang/invoke/VarHandle" ∧ (parseMethodDescriptor yX3_goOn.desc).map (fun d => d.parameters.length) = some 5 := ⟨rfl, hd_X3_goOn⟩
theorem hd_X3_goInto : yX3_goInto.cls ≠ "java/lang/invoke/MethodHandle" ∧ yX3_goInto.cls ≠ "java/lang/invoke/VarHandle" ∧ (parseMethodDescriptor yX3_goInto.desc).map (fun d => d.parameters.length) = some 5 := by decide +kernel
theorem hdV_X3_goInto : yX3_goInto.cls = RX3 ∧ yX3_goInto.cls ≠ "java/lang/invoke/MethodHandle" ∧ yX3_goInto.cls ≠ "java/lang/invoke/VarHandle" ∧ (parseMethodDescriptor yX3_goInto.desc).map (fun d => d.parameters.length) = some 5 := ⟨rfl, hd_X3_goInto⟩
theorem hd_X4_init : yX4_init.cls ≠ "java/lang/invoke/MethodHandle" ∧ yX4_init.cls ≠ "java/lang/invoke/VarHandle" ∧ (parseMethodDescriptor yX4_init.desc).map (fun d => d.parameters.length) = some 0 := by decide +kernel
theorem hdV_X4_init : yX4_init.cls = RX4 ∧ yX4_init.cls ≠ "java/lang/invoke/MethodHandle" ∧ yX4_init.cls ≠ "java/lang/invoke/VarHandle" ∧ (parseMethodDescriptor yX4_init.desc).map (fun d => d.parameters.length) = some 0 := ⟨rfl, hd_X4_init⟩
theorem hd_X4_addChamber : yX4_addChamber.cls ≠ "java/lang/invoke/MethodHandle" ∧ yX4_addChamber.cls ≠ "java/lang/invoke/VarHandle" ∧ (parseMethodDescriptor yX4_addChamber.desc).map (fun d => d.parameters.length) = some 3 := by decide +kernel
theorem hdV_X4_addChamber : yX4_addChamber.cls = RX4 ∧ yX4_addChamber.cls ≠ "java/lang/invoke/MethodHandle" ∧ yX4_addChamber.cls ≠ "java/lang/invoke/VarHandle" ∧ (parseMethodDescriptor yX4_addChamber.desc).map (fun d => d.parameters.length) = some 3 := ⟨rfl, hd_X4_addChamber⟩
theorem hd_X4_addPassage : yX4_addPassage.cls ≠ "java/lang/invoke/MethodHandle" ∧ yX4_addPassage.cls ≠ "java/lang/invoke/VarHandle" ∧ (parseMethodDescriptor yX4_addPassage.desc).map (fun d => d.parameters.length) = some 4 := by decide +kernel
theorem hdV_X4_addPassage : yX4_addPassage.cls = RX4 ∧ yX4_addPassage.cls ≠ "java/lang/invoke/MethodHandle" ∧ yX4_addPassage.cls ≠ "java/lang/invoke/VarHandle" ∧ (parseMethodDescriptor yX4_addPassage.desc).map (fun d => d.parameters.length) = some 4 := ⟨rfl, hd_X4_addPassage⟩
theorem hd_X4_setWater : yX4_setWater.cls ≠ "java/lang/invoke/MethodHandle" ∧ yX4_setWater.cls ≠ "java/lang/invoke/VarHandle" ∧ (parseMethodDescriptor yX4_setWater.desc).map (fun d => d.parameters.length) = some 1 := by decide +kernel
theorem hdV_X4_setWater : yX4_setWater.cls = RX4 ∧ yX4_setWater.cls ≠ "java/lang/invoke/MethodHandle" ∧ yX4_setWater.cls ≠ "java/lang/invoke/VarHandle" ∧ (parseMethodDescriptor yX4_setWater.desc).map (fun d => d.parameters.length) = some 1 := ⟨rfl, hd_X4_setWater⟩
theorem hd_X4_setBats : yX4_setBats.cls ≠ "java/lang/invoke/MethodHandle" ∧ yX4_setBats.cls ≠ "java/lang/invoke/VarHandle" ∧ (parseMethodDescriptor yX4_setBats.desc).map (fun d => d.parameters.length) = some 2 := by decide +kernel
theorem hdV_X4_setBats : yX4_setBats.cls = RX4 ∧ yX4_setBats.cls ≠ "java/lang/invoke/MethodHandle" ∧ yX4_setBats.cls ≠ "java/lang/invoke/VarHandle" ∧ (parseMethodDescriptor yX4_setBats.desc).map (fun d => d.parameters.length) = some 2 := ⟨rfl, hd_X4_setBats⟩
theorem hd_X4_setClapper : yX4_setClapper.cls ≠ "java/lang/invoke/MethodHandle" ∧ yX4_setClapper.cls ≠ "java/lang/invoke/VarHandle" ∧ (parseMethodDescriptor yX4_setClapper.desc).map (fun d => d.parameters.length) = some 3 := by decide +kernel
theorem hdV_X4_setClapper : yX4_setClapper.cls = RX4 ∧ yX4_setClapper.cls ≠ "java/lang/invoke/MethodHandle" ∧ yX4_setClapper.cls ≠ "java/lang/invoke/VarHandle" ∧ (parseMethodDescriptor yX4_setClapper.desc).map (fun d => d.parameters.length) = some 3 := ⟨rfl, hd_X4_setClapper⟩
theorem hd_X4_setEar : yX4_setEar.cls ≠ "java/lang/invoke/MethodHandle" ∧ yX4_setEar.cls ≠ "java/lang/invoke/VarHandle" ∧ (parseMethodDescriptor yX4_setEar.desc).map (fun d => d.parameters.length) = some 1 := by decide +kernel
theorem hdV_X4_setEar : yX4_setEar.cls = RX4 ∧ yX4_setEar.cls ≠ "java/lang/invoke/MethodHandle" ∧ yX4_setEar.cls ≠ "java/lang/invoke/VarHandle" ∧ (parseMethodDescriptor yX4_setEar.desc).map (fun d => d.parameters.length) = some 1 := ⟨rfl, hd_X4_setEar⟩
theorem hd_X4_chamber : yX4_chamber.cls ≠ "java/lang/invoke/MethodHandle" ∧ yX4_chamber.cls ≠ "java/lang/invoke/VarHandle" ∧ (parseMethodDescriptor yX4_chamber.desc).map (fun d => d.parameters.length) = some 2 := by decide +kernel
theorem hdV_X4_chamber : yX4_chamber.cls = RX4 ∧ yX4_chamber.cls ≠ "java/lang/invoke/MethodHandle" ∧ yX4_chamber.cls ≠ "java/lang/invoke/VarHandle" ∧ (parseMethodDescriptor yX4_chamber.desc).map (fun d => d.parameters.length) = some 2 := ⟨rfl, hd_X4_chamber⟩
theorem hd_X4_passage : yX4_passage.cls ≠ "java/lang/invoke/MethodHandle" ∧ yX4_passage.cls ≠ "java/lang/invoke/VarHandle" ∧ (parseMethodDescriptor yX4_passage.desc).map (fun d => d.parameters.length) = some 2 := by decide +kernel
theorem hdV_X4_passage : yX4_passage.cls = RX4 ∧ yX4_passage.cls ≠ "java/lang/invoke/MethodHandle" ∧ yX4_passage.cls ≠ "java/lang/invoke/VarHandle" ∧ (parseMethodDescriptor yX4_passage.desc).map (fun d => d.parameters.length) = some 2 := ⟨rfl, hd_X4_passage⟩
theorem hd_X4_say : yX4_say.cls ≠ "java/lang/invoke/MethodHandle" ∧ yX4_say.cls ≠ "java/lang/invoke/VarHandle" ∧ (parseMethodDescriptor yX4_say.desc).map (fun d => d.parameters.length) = some 2 := by decide +kernel
theorem hdV_X4_say : yX4_say.cls = RX4 ∧ yX4_say.cls ≠ "java/lang/invoke/MethodHandle" ∧ yX4_say.cls ≠ "java/lang/invoke/VarHandle" ∧ (parseMethodDescriptor yX4_say.desc).map (fun d => d.parameters.length) = some 2 := ⟨rfl, hd_X4_say⟩
theorem hd_X4_heard : yX4_heard.cls ≠ "java/lang/invoke/MethodHandle" ∧ yX4_heard.cls ≠ "java/lang/invoke/VarHandle" ∧ (parseMethodDescriptor yX4_heard.desc).map (fun d => d.parameters.length) = some 2 := by decide +kernel
theorem hdV_X4_heard : yX4_heard.cls = RX4 ∧ yX4_heard.cls ≠ "java/lang/invoke/MethodHandle" ∧ yX4_heard.cls ≠ "java/lang/invoke/VarHandle" ∧ (parseMethodDescriptor yX4_heard.desc).map (fun d => d.parameters.length) = some 2 := ⟨rfl, hd_X4_heard⟩
theorem hd_X4_inOrder : yX4_inOrder.cls ≠ "java/lang/invoke/MethodHandle" ∧ yX4_inOrder.cls ≠ "java/lang/invoke/VarHandle" ∧ (parseMethodDescriptor yX4_inOrder.desc).map (fun d => d.parameters.length) = some 0 := by decide +kernel
theorem hdV_X4_inOrder : yX4_inOrder.cls = RX4 ∧ yX4_inOrder.cls ≠ "java/lang/invoke/MethodHandle" ∧ yX4_inOrder.cls ≠ "java/lang/invoke/VarHandle" ∧ (parseMethodDescriptor yX4_inOrder.desc).map (fun d => d.parameters.length) = some 0 := ⟨rfl, hd_X4_inOrder⟩
theorem hd_X4_first : yX4_first.cls ≠ "java/lang/invoke/MethodHandle" ∧ yX4_first.cls ≠ "java/lang/invoke/VarHandle" ∧ (parseMethodDescriptor yX4_first.desc).map (fun d => d.parameters.length) = some 1 := by decide +kernel
theorem hdV_X4_first : yX4_first.cls = RX4 ∧ yX4_first.cls ≠ "java/lang/invoke/MethodHandle" ∧ yX4_first.cls ≠ "java/lang/invoke/VarHandle" ∧ (parseMethodDescriptor yX4_first.desc).map (fun d => d.parameters.length) = some 1 := ⟨rfl, hd_X4_first⟩
theorem hd_X4_count : yX4_count.cls ≠ "java/lang/invoke/MethodHandle" ∧ yX4_count.cls ≠ "java/lang/invoke/VarHandle" ∧ (parseMethodDescriptor yX4_count.desc).map (fun d => d.parameters.length) = some 1 := by decide +kernel
theorem hdV_X4_count : yX4_count.cls = RX4 ∧ yX4_count.cls ≠ "java/lang/invoke/MethodHandle" ∧ yX4_count.cls ≠ "java/lang/invoke/VarHandle" ∧ (parseMethodDescriptor yX4_count.desc).map (fun d => d.parameters.length) = some 1 := ⟨rfl, hd_X4_count⟩
theorem hd_X4_would : yX4_would.cls ≠ "java/lang/invoke/MethodHandle" ∧ yX4_would.cls ≠ "java/lang/invoke/VarHandle" ∧ (parseMethodDescriptor yX4_would.desc).map (fun d => d.parameters.length) = some 3 := by decide +kernel
theorem hdV_X4_would : yX4_would.cls = RX4 ∧ yX4_would.cls ≠ "java/lang/invoke/MethodHandle" ∧ yX4_would.cls ≠ "java/lang/invoke/VarHandle" ∧ (parseMethodDescriptor yX4_would.desc).map (fun d => d.parameters.length) = some 3 := ⟨rfl, hd_X4_would⟩
theorem hd_X4_advise : yX4_advise.cls ≠ "java/lang/invoke/MethodHandle" ∧ yX4_advise.cls ≠ "java/lang/invoke/VarHandle" ∧ (parseMethodDescriptor yX4_advise.desc).map (fun d => d.parameters.length) = some 4 := by decide +kernel
theorem hdV_X4_advise : yX4_advise.cls = RX4 ∧ yX4_advise.cls ≠ "java/lang/invoke/MethodHandle" ∧ yX4_advise.cls ≠ "java/lang/invoke/VarHandle" ∧ (parseMethodDescriptor yX4_advise.desc).map (fun d => d.parameters.length) = some 4 := ⟨rfl, hd_X4_advise⟩
theorem hd_X4_longest : yX4_longest.cls ≠ "java/lang/invoke/MethodHandle" ∧ yX4_longest.cls ≠ "java/lang/invoke/VarHandle" ∧ (parseMethodDescriptor yX4_longest.desc).map (fun d => d.parameters.length) = some 2 := by decide +kernel
theorem hdV_X4_longest : yX4_longest.cls = RX4 ∧ yX4_longest.cls ≠ "java/lang/invoke/MethodHandle" ∧ yX4_longest.cls ≠ "java/lang/invoke/VarHandle" ∧ (parseMethodDescriptor yX4_longest.desc).map (fun d => d.parameters.length) = some 2 := ⟨rfl, hd_X4_longest⟩
theorem hd_X4_quickest : yX4_quickest.cls ≠ "java/lang/invoke/MethodHandle" ∧ yX4_quickest.cls ≠ "java/lang/invoke/VarHandle" ∧ (parseMethodDescriptor yX4_quickest.desc).map (fun d => d.parameters.length) = some 1 := by decide +kernel
theorem hdV_X4_quickest : yX4_quickest.cls = RX4 ∧ yX4_quickest.cls ≠ "java/lang/invoke/MethodHandle" ∧ yX4_quickest.cls ≠ "java/lang/invoke/VarHandle" ∧ (parseMethodDescriptor yX4_quickest.desc).map (fun d => d.parameters.length) = some 1 := ⟨rfl, hd_X4_quickest⟩
theorem hd_X4_way : yX4_way.cls ≠ "java/lang/invoke/MethodHandle" ∧ yX4_way.cls ≠ "java/lang/invoke/VarHandle" ∧ (parseMethodDescriptor yX4_way.desc).map (fun d => d.parameters.length) = some 2 := by decide +kernel
theorem hdV_X4_way : yX4_way.cls = RX4 ∧ yX4_way.cls ≠ "java/lang/invoke/MethodHandle" ∧ yX4_way.cls ≠ "java/lang/invoke/VarHandle" ∧ (parseMethodDescriptor yX4_way.desc).map (fun d => d.parameters.length) = some 2 := ⟨rfl, hd_X4_way⟩
theorem hd_X4_highest : yX4_highest.cls ≠ "java/lang/invoke/MethodHandle" ∧ yX4_highest.cls ≠ "java/lang/invoke/VarHandle" ∧ (parseMethodDescriptor yX4_highest.desc).map (fun d => d.parameters.length) = some 1 := by decide +kernel
theorem hdV_X4_highest : yX4_highest.cls = RX4 ∧ yX4_highest.cls ≠ "java/lang/invoke/MethodHandle" ∧ yX4_highest.cls ≠ "java/lang/invoke/VarHandle" ∧ (parseMethodDescriptor yX4_highest.desc).map (fun d => d.parameters.length) = some 1 := ⟨rfl, hd_X4_highest⟩
theorem hd_X4_mean : yX4_mean.cls ≠ "java/lang/invoke/MethodHandle" ∧ yX4_mean.cls ≠ "java/lang/invoke/VarHandle" ∧ (parseMethodDescriptor yX4_mean.desc).map (fun d => d.parameters.length) = some 0 := by decide +kernel
theorem hdV_X4_mean : yX4_mean.cls = RX4 ∧ yX4_mean.cls ≠ "java/lang/invoke/MethodHandle" ∧ yX4_mean.cls ≠ "java/lang/invoke/VarHandle" ∧ (parseMethodDescriptor yX4_mean.desc).map (fun d => d.parameters.length) = some 0 := ⟨rfl, hd_X4_mean⟩
theorem hd_X4_digest : yX4_digest.cls ≠ "java/lang/invoke/MethodHandle" ∧ yX4_digest.cls ≠ "java/lang/invoke/VarHandle" ∧ (parseMethodDescriptor yX4_digest.desc).map (fun d => d.parameters.length) = some 0 := by decide +kernel
theorem hdV_X4_digest : yX4_digest.cls = RX4 ∧ yX4_digest.cls ≠ "java/lang/invoke/MethodHandle" ∧ yX4_digest.cls ≠ "java/lang/invoke/VarHandle" ∧ (parseMethodDescriptor yX4_digest.desc).map (fun d => d.parameters.length) = some 0 := ⟨rfl, hd_X4_digest⟩
theorem hd_X4_countFact : yX4_countFact.cls ≠ "java/lang/invoke/MethodHandle" ∧ yX4_countFact.cls ≠ "java/lang/invoke/VarHandle" ∧ (parseMethodDescriptor yX4_countFact.desc).map (fun d => d.parameters.length) = some 1 := by decide +kernel
theorem hdV_X4_countFact : yX4_countFact.cls = RX4 ∧ yX4_countFact.cls ≠ "java/lang/invoke/MethodHandle" ∧ yX4_countFact.cls ≠ "java/lang/invoke/VarHandle" ∧ (parseMethodDescriptor yX4_countFact.desc).map (fun d => d.parameters.length) = some 1 := ⟨rfl, hd_X4_countFact⟩
theorem hd_X4_wouldComeInOrder : yX4_wouldComeInOrder.cls ≠ "java/lang/invoke/MethodHandle" ∧ yX4_wouldComeInOrder.cls ≠ "java/lang/invoke/VarHandle" ∧ (parseMethodDescriptor yX4_wouldComeInOrder.desc).map (fun d => d.parameters.length) = some 2 := by decide +kernel
theorem hdV_X4_wouldComeInOrder : yX4_wouldComeInOrder.cls = RX4 ∧ yX4_wouldComeInOrder.cls ≠ "java/lang/invoke/MethodHandle" ∧ yX4_wouldComeInOrder.cls ≠ "java/lang/invoke/VarHandle" ∧ (parseMethodDescriptor yX4_wouldComeInOrder.desc).map (fun d => d.parameters.length) = some 2 := ⟨rfl, hd_X4_wouldComeInOrder⟩
theorem hd_X4_isWithin : yX4_isWithin.cls ≠ "java/lang/invoke/MethodHandle" ∧ yX4_isWithin.cls ≠ "java/lang/invoke/VarHandle" ∧ (parseMethodDescriptor yX4_isWithin.desc).map (fun d => d.parameters.length) = some 3 := by decide +kernel
theorem hdV_X4_isWithin : yX4_isWithin.cls = RX4 ∧ yX4_isWithin.cls ≠ "java/lang/invoke/MethodHandle" ∧ yX4_isWithin.cls ≠ "java/lang/invoke/VarHandle" ∧ (parseMethodDescriptor yX4_isWithin.desc).map (fun d => d.parameters.length) = some 3 := ⟨rfl, hd_X4_isWithin⟩
theorem hd_X4_isWord : yX4_isWord.cls ≠ "java/lang/invoke/MethodHandle" ∧ yX4_isWord.cls ≠ "java/lang/invoke/VarHandle" ∧ (parseMethodDescriptor yX4_isWord.desc).map (fun d => d.parameters.length) = some 1 := by decide +kernel
theorem hdV_X4_isWord : yX4_isWord.cls = RX4 ∧ yX4_isWord.cls ≠ "java/lang/invoke/MethodHandle" ∧ yX4_isWord.cls ≠ "java/lang/invoke/VarHandle" ∧ (parseMethodDescriptor yX4_isWord.desc).map (fun d => d.parameters.length) = some 1 := ⟨rfl, hd_X4_isWord⟩
theorem hd_X4_placesOf : yX4_placesOf.cls ≠ "java/lang/invoke/MethodHandle" ∧ yX4_placesOf.cls ≠ "java/lang/invoke/VarHandle" ∧ (parseMethodDescriptor yX4_placesOf.desc).map (fun d => d.parameters.length) = some 1 := by decide +kernel
theorem hdV_X4_placesOf : yX4_placesOf.cls = RX4 ∧ yX4_placesOf.cls ≠ "java/lang/invoke/MethodHandle" ∧ yX4_placesOf.cls ≠ "java/lang/invoke/VarHandle" ∧ (parseMethodDescriptor yX4_placesOf.desc).map (fun d => d.parameters.length) = some 1 := ⟨rfl, hd_X4_placesOf⟩
theorem hd_X4_requireIndex : yX4_requireIndex.cls ≠ "java/lang/invoke/MethodHandle" ∧ yX4_requireIndex.cls ≠ "java/lang/invoke/VarHandle" ∧ (parseMethodDescriptor yX4_requireIndex.desc).map (fun d => d.parameters.length) = some 1 := by decide +kernel
theorem hdV_X4_requireIndex : yX4_requireIndex.cls = RX4 ∧ yX4_requireIndex.cls ≠ "java/lang/invoke/MethodHandle" ∧ yX4_requireIndex.cls ≠ "java/lang/invoke/VarHandle" ∧ (parseMethodDescriptor yX4_requireIndex.desc).map (fun d => d.parameters.length) = some 1 := ⟨rfl, hd_X4_requireIndex⟩
theorem hd_X4_requireArgument : yX4_requireArgument.cls ≠ "java/lang/invoke/MethodHandle" ∧ yX4_requireArgument.cls ≠ "java/lang/invoke/VarHandle" ∧ (parseMethodDescriptor yX4_requireArgument.desc).map (fun d => d.parameters.length) = some 1 := by decide +kernel
theorem hdV_X4_requireArgument : yX4_requireArgument.cls = RX4 ∧ yX4_requireArgument.cls ≠ "java/lang/invoke/MethodHandle" ∧ yX4_requireArgument.cls ≠ "java/lang/invoke/VarHandle" ∧ (parseMethodDescriptor yX4_requireArgument.desc).map (fun d => d.parameters.length) = some 1 := ⟨rfl, hd_X4_requireArgument⟩
theorem hd_X4_requireWordAndBeat : yX4_requireWordAndBeat.cls ≠ "java/lang/invoke/MethodHandle" ∧ yX4_requireWordAndBeat.cls ≠ "java/lang/invoke/VarHandle" ∧ (parseMethodDescriptor yX4_requireWordAndBeat.desc).map (fun d => d.parameters.length) = some 2 := by decide +kernel
theorem hdV_X4_requireWordAndBeat : yX4_requireWordAndBeat.cls = RX4 ∧ yX4_requireWordAndBeat.cls ≠ "java/lang/invoke/MethodHandle" ∧ yX4_requireWordAndBeat.cls ≠ "java/lang/invoke/VarHandle" ∧ (parseMethodDescriptor yX4_requireWordAndBeat.desc).map (fun d => d.parameters.length) = some 2 := ⟨rfl, hd_X4_requireWordAndBeat⟩
theorem wC_row {ad : Nat → Nat} {cI cR : ClassId} {u : CaveT} (c : Nat) (h : c < 12) : (wC ad cI cR u)[13 + c]? = some (ad (13 + c), .inl (cI, 18, .inl (fun j => nI (cPb u c j)))) := by
  rcases (show c = 0 ∨ c = 1 ∨ c = 2 ∨ c = 3 ∨ c = 4 ∨ c = 5 ∨ c = 6 ∨ c = 7 ∨ c = 8 ∨ c = 9 ∨ c = 10 ∨ c = 11 by omega) with rfl | rfl | rfl | rfl | rfl | rfl | rfl | rfl | rfl | rfl | rfl | rfl <;> rfl
theorem wC_rowset {ad : Nat → Nat} {cI cR : ClassId} {u : CaveT} (c : Nat) (h : c < 12) (i v : Nat) : (wC ad cI cR u).set (13 + c) (ad (13 + c), .inl (cI, 18, .inl (fun j => nI (eN (cPb u c) i v j)))) = wC ad cI cR (cC u, cP u, cW u, cWal u, cHgt u, cBat u, cSyl u, cDel u, cDrs u, cFrm u, cTo u, cLen u, cNar u, eN (cPb u) c (eN (cPb u c) i v), cFnd u) := by
  rcases (show c = 0 ∨ c = 1 ∨ c = 2 ∨ c = 3 ∨ c = 4 ∨ c = 5 ∨ c = 6 ∨ c = 7 ∨ c = 8 ∨ c = 9 ∨ c = 10 ∨ c = 11 by omega) with rfl | rfl | rfl | rfl | rfl | rfl | rfl | rfl | rfl | rfl | rfl | rfl <;> rfl
/-- bounds of a cave's numbers -/
def cOk (u : CaveT) : Prop := (1 ≤ cC u ∧ cC u ≤ 12) ∧ cP u ≤ 18 ∧ cW u ≤ 30 ∧ (∀ j, cWal u j ≤ 100) ∧ (∀ j, cHgt u j ≤ 30) ∧ (∀ j, cBat u j ≤ 20) ∧ (∀ j, cSyl u j ≤ 9) ∧ (∀ j, cDel u j ≤ 20) ∧ (∀ j, cDrs u j ≤ cP u) ∧ (∀ j, cFrm u j < 12) ∧ (∀ j, cTo u j < 12) ∧ (∀ j, cLen u j ≤ 9) ∧ (∀ j, cNar u j ≤ 9) ∧ ∀ i j, cPb u i j < 18
section EKT
variable {p : Program} {l : Launch} {e : Env} {R : Room} {s : State} {m : MethodId} {args : Array Value} {below : List Frame} {meth : Method} {c : Code} {own : String} {cc : ByteArray} {nL : Nat} {ret : Option FieldType} {Ts N : List Cond} {D : va_G} {tys : List (ClassId × FieldType)} {A B : Nat → Prop} {wr : Prop} {k n : Nat} {Q : State → Prop} {w : va_W} {pc : Nat} {lv : List (Nat × Value)} {st rest : List Value}
theorem ek_tsN {dflt hi off : Int} {offs : Array Int} {len i : Nat} (X : ek_X p s m args meth c own cc nL ret Ts N D tys A B wr) (tgt : Nat) (hi0 : (i : Int) ≤ hi) (h31 : i < 2147483648) (ho : offs[i]? = some off) (ht : (pc : Int) + off = (tgt : Int)) (hdg : decode cc pc = .ok (.tableswitch dflt 0 hi offs, len)) (kk : ek_G p l e R s m args below meth c nL D A B k n Q w tgt lv st) : ek_G p l e R s m args below meth c nL D A B k n Q w pc lv (.int (nI i) :: st) := by
  have hz : (nI i).toInt = (i : Int) := nI_toInt (by omega)
  intro H locs ls hP hD hS hl
  exact lv_tableIn (x := nI i) X.1.1 X.1.2.1 hdg (by rw [hz]; omega) (by rw [hz]; omega) (by rw [hz]; rw [show ((i : Int) - 0).toNat = i by omega]; exact ho) ht (kk H locs ls hP hD hS hl)
theorem ek_tsO {dflt hi : Int} {offs : Array Int} {len i : Nat} (X : ek_X p s m args meth c own cc nL ret Ts N D tys A B wr) (tgt : Nat) (hi0 : hi < (i : Int)) (h31 : i < 2147483648) (ht : (pc : Int) + dflt = (tgt : Int)) (hdg : decode cc pc = .ok (.tableswitch dflt 0 hi offs, len)) (kk : ek_G p l e R s m args below meth c nL D A B k n Q w tgt lv st) : ek_G p l e R s m args below meth c nL D A B k n Q w pc lv (.int (nI i) :: st) := by
  have hz : (nI i).toInt = (i : Int) := nI_toInt (by omega)
  intro H locs ls hP hD hS hl
  exact lv_tableOut (x := nI i) X.1.1 X.1.2.1 hdg (by rw [hz]; omega) ht (kk H locs ls hP hD hS hl)
end EKT
/-- how many below n have q -/
def eC (q : Nat → Prop) [DecidablePred q] : Nat → Nat
  | 0 => 0
  | n + 1 => eC q n + if q n then 1 else 0
theorem eC_le (q : Nat → Prop) [DecidablePred q] : ∀ n, eC q n ≤ n
  | 0 => Nat.le_refl 0
  | n + 1 => by
    have := eC_le q n
    simp only [eC]
    split <;> omega
def eFill (n : Nat) (v : Int32) (f : Nat → Int32) : Nat → Int32 := fun j => if j < n then v else f j
theorem eFill_0 (v : Int32) (f : Nat → Int32) : eFill 0 v f = f := by
  funext j
  simp [eFill]
theorem eFill_s (n : Nat) (v : Int32) (f : Nat → Int32) : eN (eFill n v f) n v = eFill (n + 1) v f := by
  funext j
  by_cases h : j = n
  · subst h
    simp [eN, eFill]
  · by_cases h2 : j < n
    · simp [eN, eFill, h, h2, Nat.lt_succ_of_lt h2]
    · have : ¬ j < n + 1 := by omega
      simp [eN, eFill, h, h2, this]
theorem hd_J7_fill_53178 : yJ7_fill_53178.cls ≠ "java/lang/invoke/MethodHandle" ∧ yJ7_fill_53178.cls ≠ "java/lang/invoke/VarHandle" ∧ (parseMethodDescriptor yJ7_fill_53178.desc).map (fun d => d.parameters.length) = some 2 := by decide +kernel
