/-! ===== a callee that allocates; a loop whose room grows ===== -/
section EKA
variable {p : Program} {l : Launch} {e : Env} {R : Room} {s : State} {m : MethodId} {args : Array Value} {below : List Frame} {meth : Method} {c : Code} {own : String} {cc : ByteArray} {nL : Nat} {ret : Option FieldType} {Ts N : List Cond} {D : va_G} {tys : List (ClassId × FieldType)} {A B : Nat → Prop} {wr : Prop} {k n : Nat} {Q : State → Prop} {w : va_W} {pc : Nat} {lv : List (Nat × Value)} {st rest : List Value}
theorem ek_doWiA {post : Int32 → Unit → Prop} {W' : Unit → va_W} {wc : va_W} {mc ms : Nat} {a : Array Value} {st0 : List Value} (X : ek_X p s m args meth c own cc nL ret Ts N D tys A B True) (hr : ek_Run p l e R s m args below meth c nL D B k n w pc lv st0 rest mc ms (fun sz => ek_Q D (va_A wc sz) (fun r u => ∃ v : Int32, r = some (.int v) ∧ post v u) W' a) (fun sz => va_A wc sz))
    (isC isR : List Nat) (hC : isC.map (fun i => w[i]?) = wc.map some) (hR : isR.all (fun i => decide (i < w.length)) = true) (hn : va_nd isR = true) (hdis : ∀ i ∈ isR, i ∉ isC) (w2 : Unit → va_W) (is2 : List Nat) (hn2 : va_nd is2 = true) (h2 : ∀ u : Unit, is2.map (fun i => (ek_at w isR ++ W' u)[i]?) = (w2 u).map some)
    (kk : ∀ (v : Int32) (u : Unit), post v u → ek_G p l e R s m args below meth c nL D A B (k + mc) (n + ms) Q (w2 u) (pc + 3) lv (.int v :: rest)) : ek_G p l e R s m args below meth c nL D A B k n Q w pc lv st0 := ek_doW X hr isC isR hC (ek_at_map hR) hn hdis w2 is2 hn2 h2 (fun r u h => by obtain ⟨v, rfl, hp⟩ := h; exact kk v u hp)
theorem ek_loopKn {σ : Type} (kf nf : σ → Nat) (P : σ → Prop) (μ : σ → Nat) (wd : σ → va_W) (lc : σ → List (Nat × Value)) (h : ∀ a : σ, P a → (∀ b : σ, P b → μ b < μ a → ek_G p l e R s m args below meth c nL D A B (kf b) (nf b) Q (wd b) pc (lc b) st) → ek_G p l e R s m args below meth c nL D A B (kf a) (nf a) Q (wd a) pc (lc a) st) (a : σ) (ha : P a) (hw : w = wd a) (is : List Nat) (hl : lv_pick lv is = lc a) (hk : k ≤ kf a) (hn : n ≤ nf a) : ek_G p l e R s m args below meth c nL D A B k n Q w pc lv st := by
  subst hw
  have key : ∀ (z : Nat) (a : σ), μ a = z → P a → ek_G p l e R s m args below meth c nL D A B (kf a) (nf a) Q (wd a) pc (lc a) st := by
    intro z
    induction z using Nat.strongRecOn with
    | ind z ih =>
      intro a hz ha
      exact h a ha (fun b hb hlt => ih (μ b) (by omega) b rfl hb)
  exact ek_widen hk hn (ek_re is hl (key _ a rfl ha))
end EKA
/-! ===== shortest, way ===== -/
theorem e_min (a b : Nat) (ha : a < 2147483648) (hb : b < 2147483648) : emin (nI a) (nI b) = nI (min a b) := by
  unfold emin
  by_cases h : b < a
  · rw [if_pos ((nI_ltI hb ha).mpr h), Nat.min_eq_right (Nat.le_of_lt h)]
  · rw [if_neg (fun e => h ((nI_ltI hb ha).mp e)), Nat.min_eq_left (Nat.le_of_not_lt h)]
def sFill (a : Nat) : Nat → Nat → Nat
  | 0 => fun _ => 0
  | c + 1 => eN (sFill a c) c (if c = a then 0 else 120)
def sRel (m : MdlT) (h p : Nat) (w : Nat → Nat) : Nat → Nat := if mOpen m p h then (let x := mTu m (4 * p); let y := mTu m (4 * p + 1); let w1 := eN w x (min (w x) (w y + mTu m (4 * p + 2))); eN w1 y (min (w1 y) (w1 x + mTu m (4 * p + 2)))) else w
def sTurn (m : MdlT) (h : Nat) (w : Nat → Nat) : Nat → Nat → Nat
  | 0 => w
  | p + 1 => sRel m h p (sTurn m h w p)
def sAll (m : MdlT) (a h : Nat) : Nat → Nat → Nat
  | 0 => sFill a 12
  | t + 1 => sTurn m h (sAll m a h t) (mP m)
def sVal (x : Nat) : Int32 := if x < 120 then nI x else -1
def mShort (m : MdlT) (a b h : Nat) : Int32 := sVal (sAll m a h (mC m - 1) b)
theorem eN_le {f : Nat → Nat} {t v M : Nat} (h : ∀ j, f j ≤ M) (hv : v ≤ M) (j : Nat) : eN f t v j ≤ M := by
  have := eN_lt (M := M + 1) (h := f) (t := t) (v := v) (fun j => Nat.lt_succ_of_le (h j)) (by omega) j
  omega
theorem sFill_le (a : Nat) : ∀ c j, sFill a c j ≤ 120
  | 0, _ => by show 0 ≤ 120; omega
  | c + 1, j => eN_le (sFill_le a c) (by split <;> omega) j

theorem hin_X6_shortest_X6 : ∀ x ∈ wsX60, x ∈ wsX6_shortest := fun x h => List.mem_cons_of_mem _ (List.mem_append_right _ h)
abbrev rm_X6_shortest : Room := { frames := 2, cells := 1, slots := 12, locals := 34 }
set_option maxHeartbeats 4000000 in
set_option maxRecDepth 100000 in
theorem c_X6_shortest (l : Launch) (D : va_G) (cI cJ cR : ClassId) (ad : Nat → Nat) (m : MdlT) (hM : mOk m) (a b h : Nat) (ha : a < 12) (hb : b < 12) (hh : h ≤ 30) : ek_M (S := Unit) l yX6_shortest wsX6_shortest rm_X6_shortest D (tyW cI cJ cR) nestW [.ref (ad 50), .int (nI a), .int (nI b), .int (nI h)] (wM ad cI m) (fun r9 _ => ∃ v : Int32, r9 = some (.int v) ∧ v = mShort m a b h) (fun _ => wM ad cI m) := by
  refine ek_M.of (cc := cX6_shortest) (maxL := 10) (ret := (some .int)) (by decide) rfl (Nat.le_of_ble_eq_true rfl) ?_
  intro p9 e9 s9 m9 args9 below9 meth9 c9 A X hin
  obtain ⟨⟨mC1, mC2⟩, mPs, mWs, mEs, mTs, mSs, mRs, mTl⟩ := id hM
  refine ek_castL (lv' := [(0, .ref (ad 50)), (1, .int (nI a)), (2, .int (nI b)), (3, .int (nI h))]) rfl ?_
  refine ek_bp (v := nI 120) X (by decide) dX6_shortest_0 ?_
  refine ek_is (lv' := [(4, .int (nI 120)), (0, .ref (ad 50)), (1, .int (nI a)), (2, .int (nI b)), (3, .int (nI h))]) X (by decide) rfl dX6_shortest_2 ?_
  refine ek_bp (v := nI 12) X (by decide) dX6_shortest_4 ?_
  refine ek_newI X 0 rfl (List.mem_of_getElem? (i := 1) rfl) (by omega) ⟨Nat.le_of_ble_eq_true rfl, Nat.le_of_ble_eq_true rfl⟩ dX6_shortest_6 (fun q6 => ?_)
  refine ek_cast (w' := (wM ad cI m) ++ [(q6, .inl (cI, 12, .inl (fun j => nI (((fun _ => 0)) j))))]) rfl ?_
  refine ek_as (lv' := [(5, .ref q6), (4, .int (nI 120)), (0, .ref (ad 50)), (1, .int (nI a)), (2, .int (nI b)), (3, .int (nI h))]) X (by decide) rfl dX6_shortest_8 ?_
  refine ek_ic (v := nI 0) X (by decide) dX6_shortest_10 ?_
  refine ek_is (lv' := [(6, .int (nI 0)), (5, .ref q6), (4, .int (nI 120)), (0, .ref (ad 50)), (1, .int (nI a)), (2, .int (nI b)), (3, .int (nI h))]) X (by decide) rfl dX6_shortest_11 ?_
  refine ek_loopAt (σ := Nat × (Nat → Nat)) (fun zz => (fun (c : Nat) (w : Nat → Nat) => c ≤ 12 ∧ w = sFill a c) zz.1 zz.2) (fun zz => (fun (c : Nat) (w : Nat → Nat) => 12 - c) zz.1 zz.2) (fun zz => (fun (c : Nat) (w : Nat → Nat) => (wM ad cI m) ++ [(q6, .inl (cI, 12, .inl (fun j => nI (w j))))]) zz.1 zz.2) (fun zz => (fun (c : Nat) (w : Nat → Nat) => [(0, .ref (ad 50)), (1, .int (nI a)), (2, .int (nI b)), (3, .int (nI h)), (4, .int (nI 120)), (5, .ref q6), (6, .int (nI c))]) zz.1 zz.2) ?_ (0, (fun _ => 0)) ⟨Nat.zero_le _, rfl⟩ rfl [3, 4, 5, 6, 2, 1, 0] rfl
  intro zz ha_13 ih_13
  obtain ⟨c, w⟩ := zz
  replace ha_13 : c ≤ 12 ∧ w = sFill a c := ha_13
  refine ek_cast (w' := (wM ad cI m) ++ [(q6, .inl (cI, 12, .inl (fun j => nI (w j))))]) rfl ?_
  refine ek_castL (lv' := [(0, .ref (ad 50)), (1, .int (nI a)), (2, .int (nI b)), (3, .int (nI h)), (4, .int (nI 120)), (5, .ref q6), (6, .int (nI c))]) rfl ?_
  refine ek_il X 6 rfl dX6_shortest_13 ?_
  refine ek_bp (v := nI 12) X (by decide) dX6_shortest_15 ?_
  refine ek_Nge X (by omega) (by omega) 43 (by decide) dX6_shortest_17 (fun c_17 => ?_) (fun c_17 => ?_)
  · skip
    refine ek_ic (v := nI 1) X (by decide) dX6_shortest_43 ?_
    refine ek_is (lv' := [(6, .int (nI 1)), (0, .ref (ad 50)), (1, .int (nI a)), (2, .int (nI b)), (3, .int (nI h)), (4, .int (nI 120)), (5, .ref q6)]) X (by decide) rfl dX6_shortest_44 ?_
    refine ek_loopAt (σ := Nat × (Nat → Nat)) (fun zz => (fun (t : Nat) (w1 : Nat → Nat) => 1 ≤ t ∧ t ≤ mC m ∧ w1 = sAll m a h (t - 1) ∧ ∀ j9, w1 j9 ≤ 120) zz.1 zz.2) (fun zz => (fun (t : Nat) (w1 : Nat → Nat) => mC m - t) zz.1 zz.2) (fun zz => (fun (t : Nat) (w1 : Nat → Nat) => (wM ad cI m) ++ [(q6, .inl (cI, 12, .inl (fun j => nI (w1 j))))]) zz.1 zz.2) (fun zz => (fun (t : Nat) (w1 : Nat → Nat) => [(0, .ref (ad 50)), (1, .int (nI a)), (2, .int (nI b)), (3, .int (nI h)), (4, .int (nI 120)), (5, .ref q6), (6, .int (nI t))]) zz.1 zz.2) ?_ (1, w) (by obtain ⟨h1, h2⟩ := ha_13; have e : c = 12 := (by omega); subst e; subst h2; exact ⟨Nat.le_refl 1, mC1, rfl, sFill_le a 12⟩) rfl [1, 2, 3, 4, 5, 6, 0] rfl
    intro zz ha_46 ih_46
    obtain ⟨t, w1⟩ := zz
    replace ha_46 : 1 ≤ t ∧ t ≤ mC m ∧ w1 = sAll m a h (t - 1) ∧ ∀ j9, w1 j9 ≤ 120 := ha_46
    refine ek_cast (w' := (wM ad cI m) ++ [(q6, .inl (cI, 12, .inl (fun j => nI (w1 j))))]) rfl ?_
    refine ek_castL (lv' := [(0, .ref (ad 50)), (1, .int (nI a)), (2, .int (nI b)), (3, .int (nI h)), (4, .int (nI 120)), (5, .ref q6), (6, .int (nI t))]) rfl ?_
    have hw120 := ha_46.2.2.2
    have hwb := ha_46.2.2.2 b
    refine ek_il X 6 rfl dX6_shortest_46 ?_
    refine ek_aln X 0 rfl dX6_shortest_48 ?_
    refine ek_get X hin_X6_shortest_X6 0 rfl rfl 1 (by decide) (List.mem_of_getElem? (i := 2) rfl) rfl dX6_shortest_49 ?_
    refine ek_Nge X (by omega) (by omega) 176 (by decide) dX6_shortest_52 (fun c_52 => ?_) (fun c_52 => ?_)
    · skip
      refine ek_al X 5 rfl dX6_shortest_176 ?_
      refine ek_iln X 2 rfl dX6_shortest_178 ?_
      refine ek_ald X 3 0 rfl rfl (by omega) (by omega) dX6_shortest_179 ?_
      refine ek_top (v' := nI (w1 b)) rfl ?_
      refine ek_il X 4 rfl dX6_shortest_180 ?_
      refine ek_Nge X (by omega) (by omega) 192 (by decide) dX6_shortest_182 (fun c_182 => ?_) (fun c_182 => ?_)
      · skip
        refine ek_ic (v := -1) X (by decide) dX6_shortest_192 ?_
        refine ek_widen (k' := 1) (n' := 12) (Nat.le_of_ble_eq_true rfl) (Nat.le_of_ble_eq_true rfl) ?_
        refine ek_drop (w' := wM ad cI m) [0, 1, 2] rfl (by decide) ?_
        exact ek_reti X () ⟨_, rfl, (by obtain ⟨h1, h2, h3, h4⟩ := ha_46; unfold mShort; rw [show mC m - 1 = t - 1 by omega, ← h3]; unfold sVal; first | rw [if_pos (by omega)] | rw [if_neg (by omega)])⟩ rfl dX6_shortest_193
      · skip
        refine ek_al X 5 rfl dX6_shortest_185 ?_
        refine ek_iln X 2 rfl dX6_shortest_187 ?_
        refine ek_ald X 3 0 rfl rfl (by omega) (by omega) dX6_shortest_188 ?_
        refine ek_top (v' := nI (w1 b)) rfl ?_
        refine ek_goto X 193 (by decide) dX6_shortest_189 ?_
        refine ek_widen (k' := 1) (n' := 12) (Nat.le_of_ble_eq_true rfl) (Nat.le_of_ble_eq_true rfl) ?_
        refine ek_drop (w' := wM ad cI m) [0, 1, 2] rfl (by decide) ?_
        exact ek_reti X () ⟨_, rfl, (by obtain ⟨h1, h2, h3, h4⟩ := ha_46; unfold mShort; rw [show mC m - 1 = t - 1 by omega, ← h3]; unfold sVal; first | rw [if_pos (by omega)] | rw [if_neg (by omega)])⟩ rfl dX6_shortest_193
    · skip
      refine ek_ic (v := nI 0) X (by decide) dX6_shortest_55 ?_
      refine ek_is (lv' := [(7, .int (nI 0)), (0, .ref (ad 50)), (1, .int (nI a)), (2, .int (nI b)), (3, .int (nI h)), (4, .int (nI 120)), (5, .ref q6), (6, .int (nI t))]) X (by decide) rfl dX6_shortest_56 ?_
      refine ek_loopAt (σ := Nat × (Nat → Nat)) (fun zz => (fun (p : Nat) (w2 : Nat → Nat) => p ≤ mP m ∧ w2 = sTurn m h w1 p ∧ ∀ j9, w2 j9 ≤ 120) zz.1 zz.2) (fun zz => (fun (p : Nat) (w2 : Nat → Nat) => mP m - p) zz.1 zz.2) (fun zz => (fun (p : Nat) (w2 : Nat → Nat) => (wM ad cI m) ++ [(q6, .inl (cI, 12, .inl (fun j => nI (w2 j))))]) zz.1 zz.2) (fun zz => (fun (p : Nat) (w2 : Nat → Nat) => [(0, .ref (ad 50)), (1, .int (nI a)), (2, .int (nI b)), (3, .int (nI h)), (4, .int (nI 120)), (5, .ref q6), (6, .int (nI t)), (7, .int (nI p))]) zz.1 zz.2) ?_ (0, w1) ⟨Nat.zero_le _, rfl, hw120⟩ rfl [1, 2, 3, 4, 5, 6, 7, 0] rfl
      intro zz ha_58 ih_58
      obtain ⟨p, w2⟩ := zz
      replace ha_58 : p ≤ mP m ∧ w2 = sTurn m h w1 p ∧ ∀ j9, w2 j9 ≤ 120 := ha_58
      refine ek_cast (w' := (wM ad cI m) ++ [(q6, .inl (cI, 12, .inl (fun j => nI (w2 j))))]) rfl ?_
      refine ek_castL (lv' := [(0, .ref (ad 50)), (1, .int (nI a)), (2, .int (nI b)), (3, .int (nI h)), (4, .int (nI 120)), (5, .ref q6), (6, .int (nI t)), (7, .int (nI p))]) rfl ?_
      have hx1 := ha_58.2.2 (mTu m (4 * p))
      have hy1 := ha_58.2.2 (mTu m (4 * p + 1))
      have hu0 := mTl (4 * p)
      have hu1 := mTl (4 * p + 1)
      have hu2 := mTl (4 * p + 2)
      have hW1 : ∀ j, (eN w2 (mTu m (4 * p)) (min (w2 (mTu m (4 * p))) (w2 (mTu m (4 * p + 1)) + mTu m (4 * p + 2)))) j ≤ 120 := fun j => eN_le ha_58.2.2 (Nat.le_trans (Nat.min_le_left _ _) (by omega)) j
      have hx2 := hW1 (mTu m (4 * p))
      have hy2 := hW1 (mTu m (4 * p + 1))
      refine ek_il X 7 rfl dX6_shortest_58 ?_
      refine ek_aln X 0 rfl dX6_shortest_60 ?_
      refine ek_get X hin_X6_shortest_X6 0 rfl rfl 2 (by decide) (List.mem_of_getElem? (i := 3) rfl) rfl dX6_shortest_61 ?_
      refine ek_Nge X (by omega) (by omega) 170 (by decide) dX6_shortest_64 (fun c_64 => ?_) (fun c_64 => ?_)
      · skip
        refine ek_Ninc (j := 6) (d := 1) (lv' := [(6, .int (nI (t + 1))), (0, .ref (ad 50)), (1, .int (nI a)), (2, .int (nI b)), (3, .int (nI h)), (4, .int (nI 120)), (5, .ref q6), (7, .int (nI p))]) X rfl (by decide) rfl dX6_shortest_170 ?_
        refine ek_goto X 46 (by decide) dX6_shortest_173 ?_
        refine ek_re [1, 2, 3, 4, 5, 6, 0] rfl ?_
        exact ih_46 (t + 1, w2) (show 1 ≤ (t + 1) ∧ (t + 1) ≤ mC m ∧ w2 = sAll m a h ((t + 1) - 1) ∧ ∀ j9, w2 j9 ≤ 120 from (by obtain ⟨h1, h2, h3, h4⟩ := ha_46; obtain ⟨g1, g2, g3⟩ := ha_58; refine ⟨by omega, by omega, ?_, g3⟩; rw [g2, show p = mP m by omega, h3, show t + 1 - 1 = (t - 1) + 1 by omega]; rfl)) (by show mC m - (t + 1) < mC m - t; omega)
      · skip
        refine ek_aln X 0 rfl dX6_shortest_67 ?_
        refine ek_il X 7 rfl dX6_shortest_68 ?_
        refine ek_iln X 3 rfl dX6_shortest_70 ?_
        refine ek_doRi (ek_runV (As := [.int (nI p), .int (nI h)]) (rest := []) X (c_X6_isOpen l D cI cJ cR ad m hM p h (by omega) (by omega)) gX6_shortest_X6_isOpen rfl hdV_X6_isOpen ⟨Nat.le_of_ble_eq_true rfl, Nat.le_of_ble_eq_true rfl⟩ ⟨Nat.le_of_ble_eq_true rfl, Nat.le_of_ble_eq_true rfl⟩ [0, 1, 2] rfl (by decide) 0 6 rfl rfl (Nat.le_of_ble_eq_true rfl) dX6_shortest_71) (fun v_71 hv_71 => ?_)
        subst hv_71
        by_cases c_71 : mOpen m p h
        · refine ek_top (v' := nI 1) (congrArg nI (if_pos c_71)) ?_
          refine ek_Zne X (by omega) 80 (by decide) dX6_shortest_74 (fun _ => ?_) (fun h => absurd h (by omega))
          refine ek_aln X 0 rfl dX6_shortest_80 ?_
          refine ek_get X hin_X6_shortest_X6 0 rfl rfl 7 (by decide) (List.mem_of_getElem? (i := 4) rfl) rfl dX6_shortest_81 ?_
          refine ek_ic (v := nI 4) X (by decide) dX6_shortest_84 ?_
          refine ek_il X 7 rfl dX6_shortest_85 ?_
          refine ek_Nmul X dX6_shortest_87 ?_
          refine ek_ald X 2 0 rfl rfl (by omega) (by omega) dX6_shortest_88 ?_
          have b1_88 := mTl (4 * p)
          refine ek_is (lv' := [(8, .int (nI ((mTu m) (4 * p)))), (0, .ref (ad 50)), (1, .int (nI a)), (2, .int (nI b)), (3, .int (nI h)), (4, .int (nI 120)), (5, .ref q6), (6, .int (nI t)), (7, .int (nI p))]) X (by decide) rfl dX6_shortest_89 ?_
          refine ek_aln X 1 rfl dX6_shortest_91 ?_
          refine ek_get X hin_X6_shortest_X6 0 rfl rfl 7 (by decide) (List.mem_of_getElem? (i := 4) rfl) rfl dX6_shortest_92 ?_
          refine ek_ic (v := nI 4) X (by decide) dX6_shortest_95 ?_
          refine ek_il X 8 rfl dX6_shortest_96 ?_
          refine ek_Nmul X dX6_shortest_98 ?_
          refine ek_ic (v := nI 1) X (by decide) dX6_shortest_99 ?_
          refine ek_Nadd X dX6_shortest_100 ?_
          refine ek_ald X 2 0 rfl rfl (by omega) (by omega) dX6_shortest_101 ?_
          have b2_101 := mTl ((4 * p) + 1)
          refine ek_is (lv' := [(9, .int (nI ((mTu m) ((4 * p) + 1)))), (8, .int (nI ((mTu m) (4 * p)))), (0, .ref (ad 50)), (1, .int (nI a)), (2, .int (nI b)), (3, .int (nI h)), (4, .int (nI 120)), (5, .ref q6), (6, .int (nI t)), (7, .int (nI p))]) X (by decide) rfl dX6_shortest_102 ?_
          refine ek_al X 7 rfl dX6_shortest_104 ?_
          refine ek_il X 1 rfl dX6_shortest_106 ?_
          refine ek_al X 7 rfl dX6_shortest_108 ?_
          refine ek_il X 1 rfl dX6_shortest_110 ?_
          refine ek_ald X 3 0 rfl rfl (by omega) (by omega) dX6_shortest_112 ?_
          refine ek_top (v' := nI (w2 ((mTu m) (4 * p)))) rfl ?_
          refine ek_al X 7 rfl dX6_shortest_113 ?_
          refine ek_il X 0 rfl dX6_shortest_115 ?_
          refine ek_ald X 3 0 rfl rfl (by omega) (by omega) dX6_shortest_117 ?_
          refine ek_top (v' := nI (w2 ((mTu m) ((4 * p) + 1)))) rfl ?_
          refine ek_aln X 2 rfl dX6_shortest_118 ?_
          refine ek_get X hin_X6_shortest_X6 0 rfl rfl 7 (by decide) (List.mem_of_getElem? (i := 4) rfl) rfl dX6_shortest_119 ?_
          refine ek_ic (v := nI 4) X (by decide) dX6_shortest_122 ?_
          refine ek_il X 9 rfl dX6_shortest_123 ?_
          refine ek_Nmul X dX6_shortest_125 ?_
          refine ek_ic (v := nI 2) X (by decide) dX6_shortest_126 ?_
          refine ek_Nadd X dX6_shortest_127 ?_
          refine ek_ald X 2 0 rfl rfl (by omega) (by omega) dX6_shortest_128 ?_
          have b3_128 := mTl ((4 * p) + 2)
          refine ek_Nadd X dX6_shortest_129 ?_
          refine ek_mmin X (List.mem_of_getElem? (i := 5) rfl) (List.mem_of_getElem? (i := 6) rfl) (List.mem_of_getElem? (i := 7) rfl) (List.mem_of_getElem? (i := 8) rfl) (by decide) (Nat.le_of_ble_eq_true rfl) (by decide) dX6_shortest_130 ?_
          refine ek_top (v' := nI (min (w2 (mTu m (4 * p))) (w2 (mTu m (4 * p + 1)) + mTu m (4 * p + 2)))) (e_min _ _ (by omega) (by omega)) ?_
          refine ek_Nast (w' := (wM ad cI m) ++ [(q6, .inl (cI, 12, .inl (fun j => nI ((eN w2 ((mTu m) (4 * p)) (min (w2 (mTu m (4 * p))) (w2 (mTu m (4 * p + 1)) + mTu m (4 * p + 2)))) j))))]) X 3 0 rfl rfl (by omega) (by omega) rfl dX6_shortest_133 ?_
          refine ek_al X 7 rfl dX6_shortest_134 ?_
          refine ek_il X 0 rfl dX6_shortest_136 ?_
          refine ek_al X 7 rfl dX6_shortest_138 ?_
          refine ek_il X 0 rfl dX6_shortest_140 ?_
          refine ek_ald X 3 0 rfl rfl (by omega) (by omega) dX6_shortest_142 ?_
          refine ek_top (v' := nI ((eN w2 ((mTu m) (4 * p)) (min (w2 (mTu m (4 * p))) (w2 (mTu m (4 * p + 1)) + mTu m (4 * p + 2)))) ((mTu m) ((4 * p) + 1)))) rfl ?_
          refine ek_al X 7 rfl dX6_shortest_143 ?_
          refine ek_il X 1 rfl dX6_shortest_145 ?_
          refine ek_ald X 3 0 rfl rfl (by omega) (by omega) dX6_shortest_147 ?_
          refine ek_top (v' := nI ((eN w2 ((mTu m) (4 * p)) (min (w2 (mTu m (4 * p))) (w2 (mTu m (4 * p + 1)) + mTu m (4 * p + 2)))) ((mTu m) (4 * p)))) rfl ?_
          refine ek_aln X 2 rfl dX6_shortest_148 ?_
          refine ek_get X hin_X6_shortest_X6 0 rfl rfl 7 (by decide) (List.mem_of_getElem? (i := 4) rfl) rfl dX6_shortest_149 ?_
          refine ek_ic (v := nI 4) X (by decide) dX6_shortest_152 ?_
          refine ek_il X 9 rfl dX6_shortest_153 ?_
          refine ek_Nmul X dX6_shortest_155 ?_
          refine ek_ic (v := nI 2) X (by decide) dX6_shortest_156 ?_
          refine ek_Nadd X dX6_shortest_157 ?_
          refine ek_ald X 2 0 rfl rfl (by omega) (by omega) dX6_shortest_158 ?_
          have b4_158 := mTl ((4 * p) + 2)
          refine ek_Nadd X dX6_shortest_159 ?_
          refine ek_mmin X (List.mem_of_getElem? (i := 5) rfl) (List.mem_of_getElem? (i := 6) rfl) (List.mem_of_getElem? (i := 7) rfl) (List.mem_of_getElem? (i := 8) rfl) (by decide) (Nat.le_of_ble_eq_true rfl) (by decide) dX6_shortest_160 ?_
          refine ek_top (v' := nI (min ((eN w2 (mTu m (4 * p)) (min (w2 (mTu m (4 * p))) (w2 (mTu m (4 * p + 1)) + mTu m (4 * p + 2)))) (mTu m (4 * p + 1))) ((eN w2 (mTu m (4 * p)) (min (w2 (mTu m (4 * p))) (w2 (mTu m (4 * p + 1)) + mTu m (4 * p + 2)))) (mTu m (4 * p)) + mTu m (4 * p + 2)))) (e_min _ _ (by omega) (by omega)) ?_
          refine ek_Nast (w' := (wM ad cI m) ++ [(q6, .inl (cI, 12, .inl (fun j => nI ((eN (eN w2 ((mTu m) (4 * p)) (min (w2 (mTu m (4 * p))) (w2 (mTu m (4 * p + 1)) + mTu m (4 * p + 2)))) ((mTu m) ((4 * p) + 1)) (min ((eN w2 (mTu m (4 * p)) (min (w2 (mTu m (4 * p))) (w2 (mTu m (4 * p + 1)) + mTu m (4 * p + 2)))) (mTu m (4 * p + 1))) ((eN w2 (mTu m (4 * p)) (min (w2 (mTu m (4 * p))) (w2 (mTu m (4 * p + 1)) + mTu m (4 * p + 2)))) (mTu m (4 * p)) + mTu m (4 * p + 2)))) j))))]) X 3 0 rfl rfl (by omega) (by omega) rfl dX6_shortest_163 ?_
          refine ek_Ninc (j := 9) (d := 1) (lv' := [(7, .int (nI (p + 1))), (9, .int (nI ((mTu m) ((4 * p) + 1)))), (8, .int (nI ((mTu m) (4 * p)))), (0, .ref (ad 50)), (1, .int (nI a)), (2, .int (nI b)), (3, .int (nI h)), (4, .int (nI 120)), (5, .ref q6), (6, .int (nI t))]) X rfl (by decide) rfl dX6_shortest_164 ?_
          refine ek_goto X 58 (by decide) dX6_shortest_167 ?_
          refine ek_re [3, 4, 5, 6, 7, 8, 9, 0] rfl ?_
          exact ih_58 (p + 1, eN (eN w2 ((mTu m) (4 * p)) (min (w2 (mTu m (4 * p))) (w2 (mTu m (4 * p + 1)) + mTu m (4 * p + 2)))) ((mTu m) ((4 * p) + 1)) (min ((eN w2 (mTu m (4 * p)) (min (w2 (mTu m (4 * p))) (w2 (mTu m (4 * p + 1)) + mTu m (4 * p + 2)))) (mTu m (4 * p + 1))) ((eN w2 (mTu m (4 * p)) (min (w2 (mTu m (4 * p))) (w2 (mTu m (4 * p + 1)) + mTu m (4 * p + 2)))) (mTu m (4 * p)) + mTu m (4 * p + 2)))) (show (p + 1) ≤ mP m ∧ (eN (eN w2 ((mTu m) (4 * p)) (min (w2 (mTu m (4 * p))) (w2 (mTu m (4 * p + 1)) + mTu m (4 * p + 2)))) ((mTu m) ((4 * p) + 1)) (min ((eN w2 (mTu m (4 * p)) (min (w2 (mTu m (4 * p))) (w2 (mTu m (4 * p + 1)) + mTu m (4 * p + 2)))) (mTu m (4 * p + 1))) ((eN w2 (mTu m (4 * p)) (min (w2 (mTu m (4 * p))) (w2 (mTu m (4 * p + 1)) + mTu m (4 * p + 2)))) (mTu m (4 * p)) + mTu m (4 * p + 2)))) = sTurn m h w1 (p + 1) ∧ ∀ j9, (eN (eN w2 ((mTu m) (4 * p)) (min (w2 (mTu m (4 * p))) (w2 (mTu m (4 * p + 1)) + mTu m (4 * p + 2)))) ((mTu m) ((4 * p) + 1)) (min ((eN w2 (mTu m (4 * p)) (min (w2 (mTu m (4 * p))) (w2 (mTu m (4 * p + 1)) + mTu m (4 * p + 2)))) (mTu m (4 * p + 1))) ((eN w2 (mTu m (4 * p)) (min (w2 (mTu m (4 * p))) (w2 (mTu m (4 * p + 1)) + mTu m (4 * p + 2)))) (mTu m (4 * p)) + mTu m (4 * p + 2)))) j9 ≤ 120 from (by obtain ⟨g1, g2, g3⟩ := ha_58; first | (refine ⟨by omega, ?_, fun j => eN_le hW1 (Nat.le_trans (Nat.min_le_left _ _) (by omega)) j⟩; show _ = sRel m h p (sTurn m h w1 p); rw [← g2]; exact (if_pos (by assumption)).symm) | (refine ⟨by omega, ?_, g3⟩; show _ = sRel m h p (sTurn m h w1 p); rw [← g2]; exact (if_neg (by assumption)).symm))) (by show mP m - (p + 1) < mP m - p; omega)
        · refine ek_top (v' := nI 0) (congrArg nI (if_neg c_71)) ?_
          refine ek_Zne X (by omega) 80 (by decide) dX6_shortest_74 (fun h => absurd h (by omega)) (fun _ => ?_)
          refine ek_goto X 164 (by decide) dX6_shortest_77 ?_
          refine ek_Ninc (j := 7) (d := 1) (lv' := [(7, .int (nI (p + 1))), (0, .ref (ad 50)), (1, .int (nI a)), (2, .int (nI b)), (3, .int (nI h)), (4, .int (nI 120)), (5, .ref q6), (6, .int (nI t))]) X rfl (by decide) rfl dX6_shortest_164 ?_
          refine ek_goto X 58 (by decide) dX6_shortest_167 ?_
          refine ek_re [1, 2, 3, 4, 5, 6, 7, 0] rfl ?_
          exact ih_58 (p + 1, w2) (show (p + 1) ≤ mP m ∧ w2 = sTurn m h w1 (p + 1) ∧ ∀ j9, w2 j9 ≤ 120 from (by obtain ⟨g1, g2, g3⟩ := ha_58; first | (refine ⟨by omega, ?_, fun j => eN_le hW1 (Nat.le_trans (Nat.min_le_left _ _) (by omega)) j⟩; show _ = sRel m h p (sTurn m h w1 p); rw [← g2]; exact (if_pos (by assumption)).symm) | (refine ⟨by omega, ?_, g3⟩; show _ = sRel m h p (sTurn m h w1 p); rw [← g2]; exact (if_neg (by assumption)).symm))) (by show mP m - (p + 1) < mP m - p; omega)
  · skip
    refine ek_al X 5 rfl dX6_shortest_20 ?_
    refine ek_il X 6 rfl dX6_shortest_22 ?_
    refine ek_il X 6 rfl dX6_shortest_24 ?_
    refine ek_iln X 1 rfl dX6_shortest_26 ?_
    refine ek_Nne X (by omega) (by omega) 34 (by decide) dX6_shortest_27 (fun c_27 => ?_) (fun c_27 => ?_)
    · skip
      refine ek_il X 4 rfl dX6_shortest_34 ?_
      refine ek_Nast (w' := (wM ad cI m) ++ [(q6, .inl (cI, 12, .inl (fun j => nI ((eN w c 120) j))))]) X 3 0 rfl rfl (by omega) (by omega) rfl dX6_shortest_36 ?_
      refine ek_Ninc (j := 6) (d := 1) (lv' := [(6, .int (nI (c + 1))), (0, .ref (ad 50)), (1, .int (nI a)), (2, .int (nI b)), (3, .int (nI h)), (4, .int (nI 120)), (5, .ref q6)]) X rfl (by decide) rfl dX6_shortest_37 ?_
      refine ek_goto X 13 (by decide) dX6_shortest_40 ?_
      refine ek_re [1, 2, 3, 4, 5, 6, 0] rfl ?_
      exact ih_13 (c + 1, eN w c 120) (show (c + 1) ≤ 12 ∧ (eN w c 120) = sFill a (c + 1) from (by obtain ⟨h1, h2⟩ := ha_13; refine ⟨by omega, ?_⟩; rw [h2]; show _ = eN (sFill a c) c (if c = a then 0 else 120); first | rw [if_pos (by assumption)] | rw [if_neg (by assumption)])) (by show 12 - (c + 1) < 12 - c; omega)
    · skip
      refine ek_ic (v := nI 0) X (by decide) dX6_shortest_30 ?_
      refine ek_goto X 36 (by decide) dX6_shortest_31 ?_
      refine ek_Nast (w' := (wM ad cI m) ++ [(q6, .inl (cI, 12, .inl (fun j => nI ((eN w c 0) j))))]) X 3 0 rfl rfl (by omega) (by omega) rfl dX6_shortest_36 ?_
      refine ek_Ninc (j := 6) (d := 1) (lv' := [(6, .int (nI (c + 1))), (0, .ref (ad 50)), (1, .int (nI a)), (2, .int (nI b)), (3, .int (nI h)), (4, .int (nI 120)), (5, .ref q6)]) X rfl (by decide) rfl dX6_shortest_37 ?_
      refine ek_goto X 13 (by decide) dX6_shortest_40 ?_
      refine ek_re [1, 2, 3, 4, 5, 6, 0] rfl ?_
      exact ih_13 (c + 1, eN w c 0) (show (c + 1) ≤ 12 ∧ (eN w c 0) = sFill a (c + 1) from (by obtain ⟨h1, h2⟩ := ha_13; refine ⟨by omega, ?_⟩; rw [h2]; show _ = eN (sFill a c) c (if c = a then 0 else 120); first | rw [if_pos (by assumption)] | rw [if_neg (by assumption)])) (by show 12 - (c + 1) < 12 - c; omega)
