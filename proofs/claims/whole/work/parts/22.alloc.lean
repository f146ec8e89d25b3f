/-! ===== the layer's rows for a local array and arraycopy ===== -/
def mCpy (f g : Nat → Nat) (sp dp n : Nat) : Nat → Nat := fun k => if dp ≤ k ∧ k < dp + n then f (sp + (k - dp)) else g k
section EKC
variable {p : Program} {l : Launch} {e : Env} {R : Room} {s : State} {m : MethodId} {args : Array Value} {below : List Frame} {meth : Method} {c : Code} {own : String} {cc : ByteArray} {nL : Nat} {ret : Option FieldType} {Ts N : List Cond} {D : va_G} {tys : List (ClassId × FieldType)} {A B : Nat → Prop} {wr : Prop} {k n : Nat} {Q : State → Prop} {w : va_W} {pc : Nat} {lv : List (Nat × Value)} {st rest : List Value}
theorem ek_drop {w' : va_W} (is : List Nat) (h : is.map (fun i => w[i]?) = w'.map some) (hn : va_nd is = true) (kk : ek_G p l e R s m args below meth c nL D A B k n Q w' pc lv st) : ek_G p l e R s m args below meth c nL D A B k n Q w pc lv st := by
  have hf : is.filterMap (fun i => w[i]?) = w' := by
    have h1 : (is.map (fun i => w[i]?)).filterMap id = w' := by rw [h, List.filterMap_map]; simp
    rw [List.filterMap_map] at h1
    exact h1
  exact fun H locs ls hP hD hS hl => kk H locs ls (hP.sub is hf) (hD.sub is hn h) hS hl
theorem ek_copyI {cA : ClassId} {a0 a1 n0 n1 sp dp n9 ix : Nat} {f g : Nat → Nat} {w' : va_W} (X : ek_X p s m args meth c own cc nL ret Ts N D tys A B True) (q0 q1 t0 : Nat) (ha0 : w[q0]? = some (a0, .inl (cA, n0, .inl (fun j => nI (f j))))) (ha1 : w[q1]? = some (a1, .inl (cA, n1, .inl (fun j => nI (g j))))) (ht : tys[t0]? = some (cA, .int)) (h1 : Cond.methodLink own ix arraycopyName ∈ Ts) (h2 : Cond.native arraycopyName ∈ Ts) (h3 : Cond.static arraycopyName ∈ Ts) (h4 : Cond.initialized "java/lang/System" ∈ Ts) (hs : sp + n9 ≤ n0) (hd : dp + n9 ≤ n1) (hb0 : n0 < 2147483648) (hb1 : n1 < 2147483648) (hR : 1 ≤ R.frames ∧ (nativeFrameWords "java/lang/System" "arraycopy" 5 + 11) + 8 ≤ R.locals) (hst : (rest.map fun v => v.category).sum ≤ 8) (hw : w.set q1 (a1, .inl (cA, n1, .inl (fun j => nI (mCpy f g sp dp n9 j)))) = w') (hdg : decode cc pc = .ok (.invokestatic ix, 3)) (kk : ek_G p l e R s m args below meth c nL D A B k n Q w' (pc + 3) lv rest) : ek_G p l e R s m args below meth c nL D A B k n Q w pc lv (.int (nI n9) :: .int (nI dp) :: .ref a1 :: .int (nI sp) :: .ref a0 :: rest) := by
  intro H locs ls hP hD hS hl
  have hDA : va_D A w := hD.weaken (fun _ x _ h => ((X.2.2.2.2.2 trivial).1 x.1).mp h)
  subst hw
  have c1 := nI_clamp (n := sp) (by omega)
  have c2 := nI_clamp (n := dp) (by omega)
  have c3 := nI_clamp (n := n9) (by omega)
  have e9 : va_cpy (fun j => nI (f j)) (fun j => nI (g j)) sp dp n9 = fun j => nI (mCpy f g sp dp n9 j) := by
    funext j
    unfold va_cpy mCpy
    split <;> rfl
  refine va_copyi X.1.1 X.1.2.1 (by rw [X.1.2.2.1]; exact hl.1.symm) X.1.2.2.2.1 (X.1.2.2.2.2 _ h1) (X.1.2.2.2.2 _ h2) (X.1.2.2.2.2 _ h3) (X.1.2.2.2.2 _ h4) X.2.1 hP hDA hS q0 q1 t0 t0 ha0 ha1 ht ht rfl (nI_pos (by omega)) (nI_pos (by omega)) (nI_pos (by omega)) (by rw [c1, c3]; exact hs) (by rw [c2, c3]; exact hd) (fun i _ => rfl) hR.1 (by omega) hdg (fun H1 locs1 hP1 _ hS1 => ?_)
  rw [c1, c2, c3, e9] at hP1
  exact kk H1 locs1 ls hP1 (hD.set ha1) hS1 hl
end EKC
def mAddC (a h b : Nat) (m : MdlT) : MdlT := if a ≤ 100 ∧ h ≤ 30 ∧ b ≤ 20 then (if mC m = 12 then (2, mC m, mP m, mW m, mEar m, mSaid m, mRo m, mTu m) else (0, mC m + 1, mP m, mW m, mEar m, mSaid m, mCpy (eN (eN (eN (eN (eN (fun _ => 0) 0 a) 1 h) 2 b) 3 0) 4 0) (mRo m) 0 (5 * mC m) 5, mTu m)) else (1, mC m, mP m, mW m, mEar m, mSaid m, mRo m, mTu m)
def mAddP (a b n w : Nat) (m : MdlT) : MdlT := if a < mC m ∧ b < mC m then (if ¬ a = b ∧ (1 ≤ n ∧ n ≤ 9) ∧ w ≤ 9 then (if mP m = 18 then (3, mC m, mP m, mW m, mEar m, mSaid m, mRo m, mTu m) else (0, mC m, mP m + 1, mW m, mEar m, mSaid m, mRo m, mCpy (eN (eN (eN (eN (fun _ => 0) 0 a) 1 b) 2 n) 3 w) (mTu m) 0 (4 * mP m) 4)) else (2, mC m, mP m, mW m, mEar m, mSaid m, mRo m, mTu m)) else (1, mC m, mP m, mW m, mEar m, mSaid m, mRo m, mTu m)

theorem hin_X6_addChamber_X6 : ∀ x ∈ wsX60, x ∈ wsX6_addChamber := fun x h => List.mem_cons_of_mem _ (List.mem_append_right _ h)
abbrev rm_X6_addChamber : Room := { frames := 2, cells := 1, slots := 5, locals := 40 }
set_option maxHeartbeats 4000000 in
set_option maxRecDepth 100000 in
theorem c_X6_addChamber (l : Launch) (D : va_G) (cI cJ cR : ClassId) (ad : Nat → Nat) (m : MdlT) (hM : mOk m) (a h b : Nat) (ha : a < 4294967296) (hh : h < 4294967296) (hb : b < 4294967296) : ek_M (S := Unit) l yX6_addChamber wsX6_addChamber rm_X6_addChamber D (tyW cI cJ cR) nestW [.ref (ad 50), .int (nI a), .int (nI h), .int (nI b)] (wM ad cI m) (fun r9 _ => ∃ v : Int32, r9 = some (.int v) ∧ v = nI (if (a ≤ 100 ∧ h ≤ 30 ∧ b ≤ 20) ∧ mC m < 12 then mC m else 0)) (fun _ => wM ad cI (mAddC a h b m)) := by
  refine ek_M.of (cc := cX6_addChamber) (maxL := 5) (ret := (some .int)) (by decide) rfl (Nat.le_of_ble_eq_true rfl) ?_
  intro p9 e9 s9 m9 args9 below9 meth9 c9 A X hin
  obtain ⟨⟨mC1, mC2⟩, mPs, mWs, mEs, mTs, mSs, mRs, mTl⟩ := id hM
  refine ek_castL (lv' := [(0, .ref (ad 50)), (1, .int (nI a)), (2, .int (nI h)), (3, .int (nI b))]) rfl ?_
  refine ek_aln X 0 rfl dX6_addChamber_0 ?_
  refine ek_ic (v := nI 0) X (by decide) dX6_addChamber_1 ?_
  refine ek_put (w' := wM ad cI (0, mC m, mP m, mW m, mEar m, mSaid m, mRo m, mTu m)) X hin_X6_addChamber_X6 tyX6 tyX6_ok nmX6 0 rfl rfl 0 (by decide) (List.mem_of_getElem? (i := 1) rfl) rfl rfl rfl rfl (Nat.le_of_ble_eq_true rfl) rfl dX6_addChamber_2 ?_
  refine ek_iln X 1 rfl dX6_addChamber_5 ?_
  refine ek_ic (v := nI 0) X (by decide) dX6_addChamber_6 ?_
  refine ek_bp (v := nI 100) X (by decide) dX6_addChamber_7 ?_
  refine ek_doRi (ek_runS (As := [.int (nI a), .int (nI 0), .int (nI 100)]) (rest := []) X (c_X6_isInN l D cI cJ cR a 0 100 (by omega) (by omega) (by omega)) gX6_addChamber_X6_isIn rfl hd_X6_isIn ⟨Nat.le_of_ble_eq_true rfl, Nat.le_of_ble_eq_true rfl⟩ ⟨Nat.le_of_ble_eq_true rfl, Nat.le_of_ble_eq_true rfl⟩ [] rfl (by decide) (Nat.le_of_ble_eq_true rfl) dX6_addChamber_9) (fun v_9 hv_9 => ?_)
  subst hv_9
  by_cases c_9 : 0 ≤ a ∧ a ≤ 100
  · refine ek_top (v' := nI 1) (congrArg nI (if_pos c_9)) ?_
    refine ek_Zeq X (by omega) 35 (by decide) dX6_addChamber_12 (fun h => absurd h (by omega)) (fun _ => ?_)
    refine ek_iln X 2 rfl dX6_addChamber_15 ?_
    refine ek_ic (v := nI 0) X (by decide) dX6_addChamber_16 ?_
    refine ek_bp (v := nI 30) X (by decide) dX6_addChamber_17 ?_
    refine ek_doRi (ek_runS (As := [.int (nI h), .int (nI 0), .int (nI 30)]) (rest := []) X (c_X6_isInN l D cI cJ cR h 0 30 (by omega) (by omega) (by omega)) gX6_addChamber_X6_isIn rfl hd_X6_isIn ⟨Nat.le_of_ble_eq_true rfl, Nat.le_of_ble_eq_true rfl⟩ ⟨Nat.le_of_ble_eq_true rfl, Nat.le_of_ble_eq_true rfl⟩ [] rfl (by decide) (Nat.le_of_ble_eq_true rfl) dX6_addChamber_19) (fun v_19 hv_19 => ?_)
    subst hv_19
    by_cases c_19 : 0 ≤ h ∧ h ≤ 30
    · refine ek_top (v' := nI 1) (congrArg nI (if_pos c_19)) ?_
      refine ek_Zeq X (by omega) 35 (by decide) dX6_addChamber_22 (fun h => absurd h (by omega)) (fun _ => ?_)
      refine ek_iln X 3 rfl dX6_addChamber_25 ?_
      refine ek_ic (v := nI 0) X (by decide) dX6_addChamber_26 ?_
      refine ek_bp (v := nI 20) X (by decide) dX6_addChamber_27 ?_
      refine ek_doRi (ek_runS (As := [.int (nI b), .int (nI 0), .int (nI 20)]) (rest := []) X (c_X6_isInN l D cI cJ cR b 0 20 (by omega) (by omega) (by omega)) gX6_addChamber_X6_isIn rfl hd_X6_isIn ⟨Nat.le_of_ble_eq_true rfl, Nat.le_of_ble_eq_true rfl⟩ ⟨Nat.le_of_ble_eq_true rfl, Nat.le_of_ble_eq_true rfl⟩ [] rfl (by decide) (Nat.le_of_ble_eq_true rfl) dX6_addChamber_29) (fun v_29 hv_29 => ?_)
      subst hv_29
      by_cases c_29 : 0 ≤ b ∧ b ≤ 20
      · refine ek_top (v' := nI 1) (congrArg nI (if_pos c_29)) ?_
        refine ek_Zne X (by omega) 41 (by decide) dX6_addChamber_32 (fun _ => ?_) (fun h => absurd h (by omega))
        refine ek_aln X 0 rfl dX6_addChamber_41 ?_
        refine ek_get X hin_X6_addChamber_X6 0 rfl rfl 1 (by decide) (List.mem_of_getElem? (i := 2) rfl) rfl dX6_addChamber_42 ?_
        refine ek_top (v' := nI (mC m)) rfl ?_
        refine ek_bp (v := nI 12) X (by decide) dX6_addChamber_45 ?_
        refine ek_Nne X (by omega) (by omega) 56 (by decide) dX6_addChamber_47 (fun c_47 => ?_) (fun c_47 => ?_)
        · skip
          refine ek_ic (v := nI 5) X (by decide) dX6_addChamber_56 ?_
          refine ek_newI X 0 rfl (List.mem_of_getElem? (i := 3) rfl) (by omega) ⟨Nat.le_of_ble_eq_true rfl, Nat.le_of_ble_eq_true rfl⟩ dX6_addChamber_57 (fun q57 => ?_)
          refine ek_cast (w' := (wM ad cI (0, mC m, mP m, mW m, mEar m, mSaid m, mRo m, mTu m)) ++ [(q57, .inl (cI, 5, .inl (fun j => nI (((fun _ => 0)) j))))]) rfl ?_
          refine ek_dup X rfl dX6_addChamber_59 ?_
          refine ek_ic (v := nI 0) X (by decide) dX6_addChamber_60 ?_
          refine ek_iln X 1 rfl dX6_addChamber_61 ?_
          refine ek_Nast (w' := (wM ad cI (0, mC m, mP m, mW m, mEar m, mSaid m, mRo m, mTu m)) ++ [(q57, .inl (cI, 5, .inl (fun j => nI ((eN ((fun _ => 0)) 0 a) j))))]) X 3 0 rfl rfl (by omega) (by omega) rfl dX6_addChamber_62 ?_
          refine ek_dup X rfl dX6_addChamber_63 ?_
          refine ek_ic (v := nI 1) X (by decide) dX6_addChamber_64 ?_
          refine ek_iln X 2 rfl dX6_addChamber_65 ?_
          refine ek_Nast (w' := (wM ad cI (0, mC m, mP m, mW m, mEar m, mSaid m, mRo m, mTu m)) ++ [(q57, .inl (cI, 5, .inl (fun j => nI ((eN (eN ((fun _ => 0)) 0 a) 1 h) j))))]) X 3 0 rfl rfl (by omega) (by omega) rfl dX6_addChamber_66 ?_
          refine ek_dup X rfl dX6_addChamber_67 ?_
          refine ek_ic (v := nI 2) X (by decide) dX6_addChamber_68 ?_
          refine ek_iln X 3 rfl dX6_addChamber_69 ?_
          refine ek_Nast (w' := (wM ad cI (0, mC m, mP m, mW m, mEar m, mSaid m, mRo m, mTu m)) ++ [(q57, .inl (cI, 5, .inl (fun j => nI ((eN (eN (eN ((fun _ => 0)) 0 a) 1 h) 2 b) j))))]) X 3 0 rfl rfl (by omega) (by omega) rfl dX6_addChamber_70 ?_
          refine ek_dup X rfl dX6_addChamber_71 ?_
          refine ek_ic (v := nI 3) X (by decide) dX6_addChamber_72 ?_
          refine ek_ic (v := nI 0) X (by decide) dX6_addChamber_73 ?_
          refine ek_Nast (w' := (wM ad cI (0, mC m, mP m, mW m, mEar m, mSaid m, mRo m, mTu m)) ++ [(q57, .inl (cI, 5, .inl (fun j => nI ((eN (eN (eN (eN ((fun _ => 0)) 0 a) 1 h) 2 b) 3 0) j))))]) X 3 0 rfl rfl (by omega) (by omega) rfl dX6_addChamber_74 ?_
          refine ek_dup X rfl dX6_addChamber_75 ?_
          refine ek_ic (v := nI 4) X (by decide) dX6_addChamber_76 ?_
          refine ek_ic (v := nI 0) X (by decide) dX6_addChamber_77 ?_
          refine ek_Nast (w' := (wM ad cI (0, mC m, mP m, mW m, mEar m, mSaid m, mRo m, mTu m)) ++ [(q57, .inl (cI, 5, .inl (fun j => nI ((eN (eN (eN (eN (eN ((fun _ => 0)) 0 a) 1 h) 2 b) 3 0) 4 0) j))))]) X 3 0 rfl rfl (by omega) (by omega) rfl dX6_addChamber_78 ?_
          refine ek_as (lv' := [(4, .ref q57), (0, .ref (ad 50)), (1, .int (nI a)), (2, .int (nI h)), (3, .int (nI b))]) X (by decide) rfl dX6_addChamber_79 ?_
          refine ek_al X 0 rfl dX6_addChamber_81 ?_
          refine ek_ic (v := nI 0) X (by decide) dX6_addChamber_83 ?_
          refine ek_aln X 1 rfl dX6_addChamber_84 ?_
          refine ek_get X hin_X6_addChamber_X6 0 rfl rfl 6 (by decide) (List.mem_of_getElem? (i := 4) rfl) rfl dX6_addChamber_85 ?_
          refine ek_ic (v := nI 5) X (by decide) dX6_addChamber_88 ?_
          refine ek_aln X 1 rfl dX6_addChamber_89 ?_
          refine ek_get X hin_X6_addChamber_X6 0 rfl rfl 1 (by decide) (List.mem_of_getElem? (i := 2) rfl) rfl dX6_addChamber_90 ?_
          refine ek_top (v' := nI (mC m)) rfl ?_
          refine ek_Nmul X dX6_addChamber_93 ?_
          refine ek_ic (v := nI 5) X (by decide) dX6_addChamber_94 ?_
          refine ek_copyI (w' := (wM ad cI (0, mC m, mP m, mW m, mEar m, mSaid m, mCpy (eN (eN (eN (eN (eN ((fun _ => 0)) 0 a) 1 h) 2 b) 3 0) 4 0) (mRo m) 0 (5 * (mC m)) 5, mTu m)) ++ [(q57, .inl (cI, 5, .inl (fun j => nI ((eN (eN (eN (eN (eN ((fun _ => 0)) 0 a) 1 h) 2 b) 3 0) 4 0) j))))]) X 3 1 0 rfl rfl rfl (List.mem_of_getElem? (i := 5) rfl) (List.mem_of_getElem? (i := 6) rfl) (List.mem_of_getElem? (i := 7) rfl) (List.mem_of_getElem? (i := 8) rfl) (by omega) (by omega) (by omega) (by omega) ⟨Nat.le_of_ble_eq_true rfl, by decide⟩ (by decide) rfl dX6_addChamber_95 ?_
          refine ek_aln X 1 rfl dX6_addChamber_98 ?_
          refine ek_dup X rfl dX6_addChamber_99 ?_
          refine ek_get X hin_X6_addChamber_X6 0 rfl rfl 1 (by decide) (List.mem_of_getElem? (i := 2) rfl) rfl dX6_addChamber_100 ?_
          refine ek_top (v' := nI (mC m)) rfl ?_
          refine ek_ic (v := nI 1) X (by decide) dX6_addChamber_103 ?_
          refine ek_Nadd X dX6_addChamber_104 ?_
          refine ek_put (w' := (wM ad cI (0, (mC m) + 1, mP m, mW m, mEar m, mSaid m, mCpy (eN (eN (eN (eN (eN ((fun _ => 0)) 0 a) 1 h) 2 b) 3 0) 4 0) (mRo m) 0 (5 * (mC m)) 5, mTu m)) ++ [(q57, .inl (cI, 5, .inl (fun j => nI ((eN (eN (eN (eN (eN ((fun _ => 0)) 0 a) 1 h) 2 b) 3 0) 4 0) j))))]) X hin_X6_addChamber_X6 tyX6 tyX6_ok nmX6 0 rfl rfl 1 (by decide) (List.mem_of_getElem? (i := 2) rfl) rfl rfl rfl rfl (Nat.le_of_ble_eq_true rfl) rfl dX6_addChamber_105 ?_
          refine ek_aln X 1 rfl dX6_addChamber_108 ?_
          refine ek_get X hin_X6_addChamber_X6 0 rfl rfl 1 (by decide) (List.mem_of_getElem? (i := 2) rfl) rfl dX6_addChamber_109 ?_
          refine ek_top (v' := nI ((mC m) + 1)) rfl ?_
          refine ek_ic (v := nI 1) X (by decide) dX6_addChamber_112 ?_
          refine ek_Nsub X (by omega) dX6_addChamber_113 ?_
          refine ek_widen (k' := 1) (n' := 5) (Nat.le_of_ble_eq_true rfl) (Nat.le_of_ble_eq_true rfl) ?_
          refine ek_drop (w' := wM ad cI (0, (mC m) + 1, mP m, mW m, mEar m, mSaid m, mCpy (eN (eN (eN (eN (eN ((fun _ => 0)) 0 a) 1 h) 2 b) 3 0) 4 0) (mRo m) 0 (5 * (mC m)) 5, mTu m)) [0, 1, 2] rfl (by decide) ?_
          exact ek_reti X () ⟨_, rfl, (by first | exact (congrArg nI (if_pos (by omega))).symm | exact (congrArg nI (if_neg (by omega))).symm)⟩ (by unfold mAddC; first | (exfalso; omega) | rw [if_neg (show ¬ (a ≤ 100 ∧ h ≤ 30 ∧ b ≤ 20) by omega)] | rw [if_pos (show a ≤ 100 ∧ h ≤ 30 ∧ b ≤ 20 by omega), if_pos (show mC m = 12 by omega)] | rw [if_pos (show a ≤ 100 ∧ h ≤ 30 ∧ b ≤ 20 by omega), if_neg (show ¬ mC m = 12 by omega)]) dX6_addChamber_114
        · skip
          refine ek_aln X 0 rfl dX6_addChamber_50 ?_
          refine ek_ic (v := nI 2) X (by decide) dX6_addChamber_51 ?_
          refine ek_doWi X (ek_runV (As := [.int (nI 2)]) (rest := []) X (c_X6_no l D cI cJ cR ad ((0, mC m, mP m, mW m, mEar m, mSaid m, mRo m, mTu m)) 2) gX6_addChamber_X6_no rfl hdV_X6_no ⟨Nat.le_of_ble_eq_true rfl, Nat.le_of_ble_eq_true rfl⟩ ⟨Nat.le_of_ble_eq_true rfl, Nat.le_of_ble_eq_true rfl⟩ [0, 1, 2] rfl (by decide) 0 6 rfl rfl (Nat.le_of_ble_eq_true rfl) dX6_addChamber_52) [0, 1, 2] [] rfl rfl (by decide) (by decide) (fun _ => wM ad cI (2, mC m, mP m, mW m, mEar m, mSaid m, mRo m, mTu m)) [0, 1, 2] (by decide) (fun _ => rfl) (fun v_52 u_52 hv_52 => ?_)
          subst hv_52
          refine ek_widen (k' := 1) (n' := 5) (Nat.le_of_ble_eq_true rfl) (Nat.le_of_ble_eq_true rfl) ?_
          exact ek_reti X () ⟨_, rfl, (by first | exact (congrArg nI (if_pos (by omega))).symm | exact (congrArg nI (if_neg (by omega))).symm)⟩ (by unfold mAddC; first | (exfalso; omega) | rw [if_neg (show ¬ (a ≤ 100 ∧ h ≤ 30 ∧ b ≤ 20) by omega)] | rw [if_pos (show a ≤ 100 ∧ h ≤ 30 ∧ b ≤ 20 by omega), if_pos (show mC m = 12 by omega)] | rw [if_pos (show a ≤ 100 ∧ h ≤ 30 ∧ b ≤ 20 by omega), if_neg (show ¬ mC m = 12 by omega)]) dX6_addChamber_55
      · refine ek_top (v' := nI 0) (congrArg nI (if_neg c_29)) ?_
        refine ek_Zne X (by omega) 41 (by decide) dX6_addChamber_32 (fun h => absurd h (by omega)) (fun _ => ?_)
        refine ek_aln X 0 rfl dX6_addChamber_35 ?_
        refine ek_ic (v := nI 1) X (by decide) dX6_addChamber_36 ?_
        refine ek_doWi X (ek_runV (As := [.int (nI 1)]) (rest := []) X (c_X6_no l D cI cJ cR ad ((0, mC m, mP m, mW m, mEar m, mSaid m, mRo m, mTu m)) 1) gX6_addChamber_X6_no rfl hdV_X6_no ⟨Nat.le_of_ble_eq_true rfl, Nat.le_of_ble_eq_true rfl⟩ ⟨Nat.le_of_ble_eq_true rfl, Nat.le_of_ble_eq_true rfl⟩ [0, 1, 2] rfl (by decide) 0 6 rfl rfl (Nat.le_of_ble_eq_true rfl) dX6_addChamber_37) [0, 1, 2] [] rfl rfl (by decide) (by decide) (fun _ => wM ad cI (1, mC m, mP m, mW m, mEar m, mSaid m, mRo m, mTu m)) [0, 1, 2] (by decide) (fun _ => rfl) (fun v_37 u_37 hv_37 => ?_)
        subst hv_37
        refine ek_widen (k' := 1) (n' := 5) (Nat.le_of_ble_eq_true rfl) (Nat.le_of_ble_eq_true rfl) ?_
        exact ek_reti X () ⟨_, rfl, (by first | exact (congrArg nI (if_pos (by omega))).symm | exact (congrArg nI (if_neg (by omega))).symm)⟩ (by unfold mAddC; first | (exfalso; omega) | rw [if_neg (show ¬ (a ≤ 100 ∧ h ≤ 30 ∧ b ≤ 20) by omega)] | rw [if_pos (show a ≤ 100 ∧ h ≤ 30 ∧ b ≤ 20 by omega), if_pos (show mC m = 12 by omega)] | rw [if_pos (show a ≤ 100 ∧ h ≤ 30 ∧ b ≤ 20 by omega), if_neg (show ¬ mC m = 12 by omega)]) dX6_addChamber_40
    · refine ek_top (v' := nI 0) (congrArg nI (if_neg c_19)) ?_
      refine ek_Zeq X (by omega) 35 (by decide) dX6_addChamber_22 (fun _ => ?_) (fun h => absurd h (by omega))
      refine ek_aln X 0 rfl dX6_addChamber_35 ?_
      refine ek_ic (v := nI 1) X (by decide) dX6_addChamber_36 ?_
      refine ek_doWi X (ek_runV (As := [.int (nI 1)]) (rest := []) X (c_X6_no l D cI cJ cR ad ((0, mC m, mP m, mW m, mEar m, mSaid m, mRo m, mTu m)) 1) gX6_addChamber_X6_no rfl hdV_X6_no ⟨Nat.le_of_ble_eq_true rfl, Nat.le_of_ble_eq_true rfl⟩ ⟨Nat.le_of_ble_eq_true rfl, Nat.le_of_ble_eq_true rfl⟩ [0, 1, 2] rfl (by decide) 0 6 rfl rfl (Nat.le_of_ble_eq_true rfl) dX6_addChamber_37) [0, 1, 2] [] rfl rfl (by decide) (by decide) (fun _ => wM ad cI (1, mC m, mP m, mW m, mEar m, mSaid m, mRo m, mTu m)) [0, 1, 2] (by decide) (fun _ => rfl) (fun v_37 u_37 hv_37 => ?_)
      subst hv_37
      refine ek_widen (k' := 1) (n' := 5) (Nat.le_of_ble_eq_true rfl) (Nat.le_of_ble_eq_true rfl) ?_
      exact ek_reti X () ⟨_, rfl, (by first | exact (congrArg nI (if_pos (by omega))).symm | exact (congrArg nI (if_neg (by omega))).symm)⟩ (by unfold mAddC; first | (exfalso; omega) | rw [if_neg (show ¬ (a ≤ 100 ∧ h ≤ 30 ∧ b ≤ 20) by omega)] | rw [if_pos (show a ≤ 100 ∧ h ≤ 30 ∧ b ≤ 20 by omega), if_pos (show mC m = 12 by omega)] | rw [if_pos (show a ≤ 100 ∧ h ≤ 30 ∧ b ≤ 20 by omega), if_neg (show ¬ mC m = 12 by omega)]) dX6_addChamber_40
  · refine ek_top (v' := nI 0) (congrArg nI (if_neg c_9)) ?_
    refine ek_Zeq X (by omega) 35 (by decide) dX6_addChamber_12 (fun _ => ?_) (fun h => absurd h (by omega))
    refine ek_aln X 0 rfl dX6_addChamber_35 ?_
    refine ek_ic (v := nI 1) X (by decide) dX6_addChamber_36 ?_
    refine ek_doWi X (ek_runV (As := [.int (nI 1)]) (rest := []) X (c_X6_no l D cI cJ cR ad ((0, mC m, mP m, mW m, mEar m, mSaid m, mRo m, mTu m)) 1) gX6_addChamber_X6_no rfl hdV_X6_no ⟨Nat.le_of_ble_eq_true rfl, Nat.le_of_ble_eq_true rfl⟩ ⟨Nat.le_of_ble_eq_true rfl, Nat.le_of_ble_eq_true rfl⟩ [0, 1, 2] rfl (by decide) 0 6 rfl rfl (Nat.le_of_ble_eq_true rfl) dX6_addChamber_37) [0, 1, 2] [] rfl rfl (by decide) (by decide) (fun _ => wM ad cI (1, mC m, mP m, mW m, mEar m, mSaid m, mRo m, mTu m)) [0, 1, 2] (by decide) (fun _ => rfl) (fun v_37 u_37 hv_37 => ?_)
    subst hv_37
    refine ek_widen (k' := 1) (n' := 5) (Nat.le_of_ble_eq_true rfl) (Nat.le_of_ble_eq_true rfl) ?_
    exact ek_reti X () ⟨_, rfl, (by first | exact (congrArg nI (if_pos (by omega))).symm | exact (congrArg nI (if_neg (by omega))).symm)⟩ (by unfold mAddC; first | (exfalso; omega) | rw [if_neg (show ¬ (a ≤ 100 ∧ h ≤ 30 ∧ b ≤ 20) by omega)] | rw [if_pos (show a ≤ 100 ∧ h ≤ 30 ∧ b ≤ 20 by omega), if_pos (show mC m = 12 by omega)] | rw [if_pos (show a ≤ 100 ∧ h ≤ 30 ∧ b ≤ 20 by omega), if_neg (show ¬ mC m = 12 by omega)]) dX6_addChamber_40

theorem hin_X6_addPassage_X6 : ∀ x ∈ wsX60, x ∈ wsX6_addPassage := fun x h => List.mem_cons_of_mem _ (List.mem_append_right _ h)
abbrev rm_X6_addPassage : Room := { frames := 3, cells := 1, slots := 4, locals := 55 }
set_option maxHeartbeats 4000000 in
set_option maxRecDepth 100000 in
theorem c_X6_addPassage (l : Launch) (D : va_G) (cI cJ cR : ClassId) (ad : Nat → Nat) (m : MdlT) (hM : mOk m) (a b n w9 : Nat) (ha : a < 4294967296) (hb : b < 4294967296) (hn : n < 4294967296) (hw : w9 < 4294967296) : ek_M (S := Unit) l yX6_addPassage wsX6_addPassage rm_X6_addPassage D (tyW cI cJ cR) nestW [.ref (ad 50), .int (nI a), .int (nI b), .int (nI n), .int (nI w9)] (wM ad cI m) (fun r9 _ => ∃ v : Int32, r9 = some (.int v) ∧ v = nI (if (a < mC m ∧ b < mC m) ∧ (¬ a = b ∧ (1 ≤ n ∧ n ≤ 9) ∧ w9 ≤ 9) ∧ mP m < 18 then mP m else 0)) (fun _ => wM ad cI (mAddP a b n w9 m)) := by
  refine ek_M.of (cc := cX6_addPassage) (maxL := 6) (ret := (some .int)) (by decide) rfl (Nat.le_of_ble_eq_true rfl) ?_
  intro p9 e9 s9 m9 args9 below9 meth9 c9 A X hin
  obtain ⟨⟨mC1, mC2⟩, mPs, mWs, mEs, mTs, mSs, mRs, mTl⟩ := id hM
  refine ek_castL (lv' := [(0, .ref (ad 50)), (1, .int (nI a)), (2, .int (nI b)), (3, .int (nI n)), (4, .int (nI w9))]) rfl ?_
  refine ek_aln X 0 rfl dX6_addPassage_0 ?_
  refine ek_ic (v := nI 0) X (by decide) dX6_addPassage_1 ?_
  refine ek_put (w' := wM ad cI (0, mC m, mP m, mW m, mEar m, mSaid m, mRo m, mTu m)) X hin_X6_addPassage_X6 tyX6 tyX6_ok nmX6 0 rfl rfl 0 (by decide) (List.mem_of_getElem? (i := 1) rfl) rfl rfl rfl rfl (Nat.le_of_ble_eq_true rfl) rfl dX6_addPassage_2 ?_
  refine ek_aln X 0 rfl dX6_addPassage_5 ?_
  refine ek_iln X 1 rfl dX6_addPassage_6 ?_
  refine ek_doRi (ek_runV (As := [.int (nI a)]) (rest := []) X (c_X6_isChamberN l D cI cJ cR ad ((0, mC m, mP m, mW m, mEar m, mSaid m, mRo m, mTu m)) (mOk_thr hM) a (by omega)) gX6_addPassage_X6_isChamber rfl hdV_X6_isChamber ⟨Nat.le_of_ble_eq_true rfl, Nat.le_of_ble_eq_true rfl⟩ ⟨Nat.le_of_ble_eq_true rfl, Nat.le_of_ble_eq_true rfl⟩ [0, 1, 2] rfl (by decide) 0 6 rfl rfl (Nat.le_of_ble_eq_true rfl) dX6_addPassage_7) (fun v_7 hv_7 => ?_)
  subst hv_7
  by_cases c_7 : a < mC m
  · refine ek_top (v' := nI 1) (congrArg nI (if_pos c_7)) ?_
    refine ek_Zeq X (by omega) 21 (by decide) dX6_addPassage_10 (fun h => absurd h (by omega)) (fun _ => ?_)
    refine ek_aln X 0 rfl dX6_addPassage_13 ?_
    refine ek_iln X 2 rfl dX6_addPassage_14 ?_
    refine ek_doRi (ek_runV (As := [.int (nI b)]) (rest := []) X (c_X6_isChamberN l D cI cJ cR ad ((0, mC m, mP m, mW m, mEar m, mSaid m, mRo m, mTu m)) (mOk_thr hM) b (by omega)) gX6_addPassage_X6_isChamber rfl hdV_X6_isChamber ⟨Nat.le_of_ble_eq_true rfl, Nat.le_of_ble_eq_true rfl⟩ ⟨Nat.le_of_ble_eq_true rfl, Nat.le_of_ble_eq_true rfl⟩ [0, 1, 2] rfl (by decide) 0 6 rfl rfl (Nat.le_of_ble_eq_true rfl) dX6_addPassage_15) (fun v_15 hv_15 => ?_)
    subst hv_15
    by_cases c_15 : b < mC m
    · refine ek_top (v' := nI 1) (congrArg nI (if_pos c_15)) ?_
      refine ek_Zne X (by omega) 27 (by decide) dX6_addPassage_18 (fun _ => ?_) (fun h => absurd h (by omega))
      refine ek_iln X 1 rfl dX6_addPassage_27 ?_
      refine ek_iln X 2 rfl dX6_addPassage_28 ?_
      refine ek_Neq X (by omega) (by omega) 53 (by decide) dX6_addPassage_29 (fun c_29 => ?_) (fun c_29 => ?_)
      · skip
        refine ek_aln X 0 rfl dX6_addPassage_53 ?_
        refine ek_ic (v := nI 2) X (by decide) dX6_addPassage_54 ?_
        refine ek_doWi X (ek_runV (As := [.int (nI 2)]) (rest := []) X (c_X6_no l D cI cJ cR ad ((0, mC m, mP m, mW m, mEar m, mSaid m, mRo m, mTu m)) 2) gX6_addPassage_X6_no rfl hdV_X6_no ⟨Nat.le_of_ble_eq_true rfl, Nat.le_of_ble_eq_true rfl⟩ ⟨Nat.le_of_ble_eq_true rfl, Nat.le_of_ble_eq_true rfl⟩ [0, 1, 2] rfl (by decide) 0 6 rfl rfl (Nat.le_of_ble_eq_true rfl) dX6_addPassage_55) [0, 1, 2] [] rfl rfl (by decide) (by decide) (fun _ => wM ad cI (2, mC m, mP m, mW m, mEar m, mSaid m, mRo m, mTu m)) [0, 1, 2] (by decide) (fun _ => rfl) (fun v_55 u_55 hv_55 => ?_)
        subst hv_55
        refine ek_widen (k' := 1) (n' := 4) (Nat.le_of_ble_eq_true rfl) (Nat.le_of_ble_eq_true rfl) ?_
        exact ek_reti X () ⟨_, rfl, (by first | exact (congrArg nI (if_pos (by omega))).symm | exact (congrArg nI (if_neg (by omega))).symm)⟩ (by unfold mAddP; first | (exfalso; omega) | rw [if_neg (show ¬ (a < mC m ∧ b < mC m) by omega)] | rw [if_pos (show a < mC m ∧ b < mC m by omega), if_neg (show ¬ (¬ a = b ∧ (1 ≤ n ∧ n ≤ 9) ∧ w9 ≤ 9) by omega)] | rw [if_pos (show a < mC m ∧ b < mC m by omega), if_pos (show ¬ a = b ∧ (1 ≤ n ∧ n ≤ 9) ∧ w9 ≤ 9 by omega), if_pos (show mP m = 18 by omega)] | rw [if_pos (show a < mC m ∧ b < mC m by omega), if_pos (show ¬ a = b ∧ (1 ≤ n ∧ n ≤ 9) ∧ w9 ≤ 9 by omega), if_neg (show ¬ mP m = 18 by omega)]) dX6_addPassage_58
      · skip
        refine ek_iln X 3 rfl dX6_addPassage_32 ?_
        refine ek_ic (v := nI 1) X (by decide) dX6_addPassage_33 ?_
        refine ek_bp (v := nI 9) X (by decide) dX6_addPassage_34 ?_
        refine ek_doRi (ek_runS (As := [.int (nI n), .int (nI 1), .int (nI 9)]) (rest := []) X (c_X6_isInN l D cI cJ cR n 1 9 (by omega) (by omega) (by omega)) gX6_addPassage_X6_isIn rfl hd_X6_isIn ⟨Nat.le_of_ble_eq_true rfl, Nat.le_of_ble_eq_true rfl⟩ ⟨Nat.le_of_ble_eq_true rfl, Nat.le_of_ble_eq_true rfl⟩ [] rfl (by decide) (Nat.le_of_ble_eq_true rfl) dX6_addPassage_36) (fun v_36 hv_36 => ?_)
        subst hv_36
        by_cases c_36 : 1 ≤ n ∧ n ≤ 9
        · refine ek_top (v' := nI 1) (congrArg nI (if_pos c_36)) ?_
          refine ek_Zeq X (by omega) 53 (by decide) dX6_addPassage_39 (fun h => absurd h (by omega)) (fun _ => ?_)
          refine ek_il X 4 rfl dX6_addPassage_42 ?_
          refine ek_ic (v := nI 0) X (by decide) dX6_addPassage_44 ?_
          refine ek_bp (v := nI 9) X (by decide) dX6_addPassage_45 ?_
          refine ek_doRi (ek_runS (As := [.int (nI w9), .int (nI 0), .int (nI 9)]) (rest := []) X (c_X6_isInN l D cI cJ cR w9 0 9 (by omega) (by omega) (by omega)) gX6_addPassage_X6_isIn rfl hd_X6_isIn ⟨Nat.le_of_ble_eq_true rfl, Nat.le_of_ble_eq_true rfl⟩ ⟨Nat.le_of_ble_eq_true rfl, Nat.le_of_ble_eq_true rfl⟩ [] rfl (by decide) (Nat.le_of_ble_eq_true rfl) dX6_addPassage_47) (fun v_47 hv_47 => ?_)
          subst hv_47
          by_cases c_47 : 0 ≤ w9 ∧ w9 ≤ 9
          · refine ek_top (v' := nI 1) (congrArg nI (if_pos c_47)) ?_
            refine ek_Zne X (by omega) 59 (by decide) dX6_addPassage_50 (fun _ => ?_) (fun h => absurd h (by omega))
            refine ek_aln X 0 rfl dX6_addPassage_59 ?_
            refine ek_get X hin_X6_addPassage_X6 0 rfl rfl 2 (by decide) (List.mem_of_getElem? (i := 2) rfl) rfl dX6_addPassage_60 ?_
            refine ek_top (v' := nI (mP m)) rfl ?_
            refine ek_bp (v := nI 18) X (by decide) dX6_addPassage_63 ?_
            refine ek_Nne X (by omega) (by omega) 74 (by decide) dX6_addPassage_65 (fun c_65 => ?_) (fun c_65 => ?_)
            · skip
              refine ek_ic (v := nI 4) X (by decide) dX6_addPassage_74 ?_
              refine ek_newI X 0 rfl (List.mem_of_getElem? (i := 3) rfl) (by omega) ⟨Nat.le_of_ble_eq_true rfl, Nat.le_of_ble_eq_true rfl⟩ dX6_addPassage_75 (fun q75 => ?_)
              refine ek_cast (w' := (wM ad cI (0, mC m, mP m, mW m, mEar m, mSaid m, mRo m, mTu m)) ++ [(q75, .inl (cI, 4, .inl (fun j => nI (((fun _ => 0)) j))))]) rfl ?_
              refine ek_dup X rfl dX6_addPassage_77 ?_
              refine ek_ic (v := nI 0) X (by decide) dX6_addPassage_78 ?_
              refine ek_iln X 1 rfl dX6_addPassage_79 ?_
              refine ek_Nast (w' := (wM ad cI (0, mC m, mP m, mW m, mEar m, mSaid m, mRo m, mTu m)) ++ [(q75, .inl (cI, 4, .inl (fun j => nI ((eN ((fun _ => 0)) 0 a) j))))]) X 3 0 rfl rfl (by omega) (by omega) rfl dX6_addPassage_80 ?_
              refine ek_dup X rfl dX6_addPassage_81 ?_
              refine ek_ic (v := nI 1) X (by decide) dX6_addPassage_82 ?_
              refine ek_iln X 2 rfl dX6_addPassage_83 ?_
              refine ek_Nast (w' := (wM ad cI (0, mC m, mP m, mW m, mEar m, mSaid m, mRo m, mTu m)) ++ [(q75, .inl (cI, 4, .inl (fun j => nI ((eN (eN ((fun _ => 0)) 0 a) 1 b) j))))]) X 3 0 rfl rfl (by omega) (by omega) rfl dX6_addPassage_84 ?_
              refine ek_dup X rfl dX6_addPassage_85 ?_
              refine ek_ic (v := nI 2) X (by decide) dX6_addPassage_86 ?_
              refine ek_iln X 3 rfl dX6_addPassage_87 ?_
              refine ek_Nast (w' := (wM ad cI (0, mC m, mP m, mW m, mEar m, mSaid m, mRo m, mTu m)) ++ [(q75, .inl (cI, 4, .inl (fun j => nI ((eN (eN (eN ((fun _ => 0)) 0 a) 1 b) 2 n) j))))]) X 3 0 rfl rfl (by omega) (by omega) rfl dX6_addPassage_88 ?_
              refine ek_dup X rfl dX6_addPassage_89 ?_
              refine ek_ic (v := nI 3) X (by decide) dX6_addPassage_90 ?_
              refine ek_il X 4 rfl dX6_addPassage_91 ?_
              refine ek_Nast (w' := (wM ad cI (0, mC m, mP m, mW m, mEar m, mSaid m, mRo m, mTu m)) ++ [(q75, .inl (cI, 4, .inl (fun j => nI ((eN (eN (eN (eN ((fun _ => 0)) 0 a) 1 b) 2 n) 3 w9) j))))]) X 3 0 rfl rfl (by omega) (by omega) rfl dX6_addPassage_93 ?_
              refine ek_as (lv' := [(5, .ref q75), (0, .ref (ad 50)), (1, .int (nI a)), (2, .int (nI b)), (3, .int (nI n)), (4, .int (nI w9))]) X (by decide) rfl dX6_addPassage_94 ?_
              refine ek_al X 0 rfl dX6_addPassage_96 ?_
              refine ek_ic (v := nI 0) X (by decide) dX6_addPassage_98 ?_
              refine ek_aln X 1 rfl dX6_addPassage_99 ?_
              refine ek_get X hin_X6_addPassage_X6 0 rfl rfl 7 (by decide) (List.mem_of_getElem? (i := 4) rfl) rfl dX6_addPassage_100 ?_
              refine ek_ic (v := nI 4) X (by decide) dX6_addPassage_103 ?_
              refine ek_aln X 1 rfl dX6_addPassage_104 ?_
              refine ek_get X hin_X6_addPassage_X6 0 rfl rfl 2 (by decide) (List.mem_of_getElem? (i := 2) rfl) rfl dX6_addPassage_105 ?_
              refine ek_top (v' := nI (mP m)) rfl ?_
              refine ek_Nmul X dX6_addPassage_108 ?_
              refine ek_ic (v := nI 4) X (by decide) dX6_addPassage_109 ?_
              refine ek_copyI (w' := (wM ad cI (0, mC m, mP m, mW m, mEar m, mSaid m, mRo m, mCpy (eN (eN (eN (eN ((fun _ => 0)) 0 a) 1 b) 2 n) 3 w9) (mTu m) 0 (4 * (mP m)) 4)) ++ [(q75, .inl (cI, 4, .inl (fun j => nI ((eN (eN (eN (eN ((fun _ => 0)) 0 a) 1 b) 2 n) 3 w9) j))))]) X 3 2 0 rfl rfl rfl (List.mem_of_getElem? (i := 5) rfl) (List.mem_of_getElem? (i := 6) rfl) (List.mem_of_getElem? (i := 7) rfl) (List.mem_of_getElem? (i := 8) rfl) (by omega) (by omega) (by omega) (by omega) ⟨Nat.le_of_ble_eq_true rfl, by decide⟩ (by decide) rfl dX6_addPassage_110 ?_
              refine ek_aln X 1 rfl dX6_addPassage_113 ?_
              refine ek_dup X rfl dX6_addPassage_114 ?_
              refine ek_get X hin_X6_addPassage_X6 0 rfl rfl 2 (by decide) (List.mem_of_getElem? (i := 2) rfl) rfl dX6_addPassage_115 ?_
              refine ek_top (v' := nI (mP m)) rfl ?_
              refine ek_ic (v := nI 1) X (by decide) dX6_addPassage_118 ?_
              refine ek_Nadd X dX6_addPassage_119 ?_
              refine ek_put (w' := (wM ad cI (0, mC m, (mP m) + 1, mW m, mEar m, mSaid m, mRo m, mCpy (eN (eN (eN (eN ((fun _ => 0)) 0 a) 1 b) 2 n) 3 w9) (mTu m) 0 (4 * (mP m)) 4)) ++ [(q75, .inl (cI, 4, .inl (fun j => nI ((eN (eN (eN (eN ((fun _ => 0)) 0 a) 1 b) 2 n) 3 w9) j))))]) X hin_X6_addPassage_X6 tyX6 tyX6_ok nmX6 0 rfl rfl 2 (by decide) (List.mem_of_getElem? (i := 2) rfl) rfl rfl rfl rfl (Nat.le_of_ble_eq_true rfl) rfl dX6_addPassage_120 ?_
              refine ek_aln X 1 rfl dX6_addPassage_123 ?_
              refine ek_get X hin_X6_addPassage_X6 0 rfl rfl 2 (by decide) (List.mem_of_getElem? (i := 2) rfl) rfl dX6_addPassage_124 ?_
              refine ek_top (v' := nI ((mP m) + 1)) rfl ?_
              refine ek_ic (v := nI 1) X (by decide) dX6_addPassage_127 ?_
              refine ek_Nsub X (by omega) dX6_addPassage_128 ?_
              refine ek_widen (k' := 1) (n' := 4) (Nat.le_of_ble_eq_true rfl) (Nat.le_of_ble_eq_true rfl) ?_
              refine ek_drop (w' := wM ad cI (0, mC m, (mP m) + 1, mW m, mEar m, mSaid m, mRo m, mCpy (eN (eN (eN (eN ((fun _ => 0)) 0 a) 1 b) 2 n) 3 w9) (mTu m) 0 (4 * (mP m)) 4)) [0, 1, 2] rfl (by decide) ?_
              exact ek_reti X () ⟨_, rfl, (by first | exact (congrArg nI (if_pos (by omega))).symm | exact (congrArg nI (if_neg (by omega))).symm)⟩ (by unfold mAddP; first | (exfalso; omega) | rw [if_neg (show ¬ (a < mC m ∧ b < mC m) by omega)] | rw [if_pos (show a < mC m ∧ b < mC m by omega), if_neg (show ¬ (¬ a = b ∧ (1 ≤ n ∧ n ≤ 9) ∧ w9 ≤ 9) by omega)] | rw [if_pos (show a < mC m ∧ b < mC m by omega), if_pos (show ¬ a = b ∧ (1 ≤ n ∧ n ≤ 9) ∧ w9 ≤ 9 by omega), if_pos (show mP m = 18 by omega)] | rw [if_pos (show a < mC m ∧ b < mC m by omega), if_pos (show ¬ a = b ∧ (1 ≤ n ∧ n ≤ 9) ∧ w9 ≤ 9 by omega), if_neg (show ¬ mP m = 18 by omega)]) dX6_addPassage_129
            · skip
              refine ek_aln X 0 rfl dX6_addPassage_68 ?_
              refine ek_ic (v := nI 3) X (by decide) dX6_addPassage_69 ?_
              refine ek_doWi X (ek_runV (As := [.int (nI 3)]) (rest := []) X (c_X6_no l D cI cJ cR ad ((0, mC m, mP m, mW m, mEar m, mSaid m, mRo m, mTu m)) 3) gX6_addPassage_X6_no rfl hdV_X6_no ⟨Nat.le_of_ble_eq_true rfl, Nat.le_of_ble_eq_true rfl⟩ ⟨Nat.le_of_ble_eq_true rfl, Nat.le_of_ble_eq_true rfl⟩ [0, 1, 2] rfl (by decide) 0 6 rfl rfl (Nat.le_of_ble_eq_true rfl) dX6_addPassage_70) [0, 1, 2] [] rfl rfl (by decide) (by decide) (fun _ => wM ad cI (3, mC m, mP m, mW m, mEar m, mSaid m, mRo m, mTu m)) [0, 1, 2] (by decide) (fun _ => rfl) (fun v_70 u_70 hv_70 => ?_)
              subst hv_70
              refine ek_widen (k' := 1) (n' := 4) (Nat.le_of_ble_eq_true rfl) (Nat.le_of_ble_eq_true rfl) ?_
              exact ek_reti X () ⟨_, rfl, (by first | exact (congrArg nI (if_pos (by omega))).symm | exact (congrArg nI (if_neg (by omega))).symm)⟩ (by unfold mAddP; first | (exfalso; omega) | rw [if_neg (show ¬ (a < mC m ∧ b < mC m) by omega)] | rw [if_pos (show a < mC m ∧ b < mC m by omega), if_neg (show ¬ (¬ a = b ∧ (1 ≤ n ∧ n ≤ 9) ∧ w9 ≤ 9) by omega)] | rw [if_pos (show a < mC m ∧ b < mC m by omega), if_pos (show ¬ a = b ∧ (1 ≤ n ∧ n ≤ 9) ∧ w9 ≤ 9 by omega), if_pos (show mP m = 18 by omega)] | rw [if_pos (show a < mC m ∧ b < mC m by omega), if_pos (show ¬ a = b ∧ (1 ≤ n ∧ n ≤ 9) ∧ w9 ≤ 9 by omega), if_neg (show ¬ mP m = 18 by omega)]) dX6_addPassage_73
          · refine ek_top (v' := nI 0) (congrArg nI (if_neg c_47)) ?_
            refine ek_Zne X (by omega) 59 (by decide) dX6_addPassage_50 (fun h => absurd h (by omega)) (fun _ => ?_)
            refine ek_aln X 0 rfl dX6_addPassage_53 ?_
            refine ek_ic (v := nI 2) X (by decide) dX6_addPassage_54 ?_
            refine ek_doWi X (ek_runV (As := [.int (nI 2)]) (rest := []) X (c_X6_no l D cI cJ cR ad ((0, mC m, mP m, mW m, mEar m, mSaid m, mRo m, mTu m)) 2) gX6_addPassage_X6_no rfl hdV_X6_no ⟨Nat.le_of_ble_eq_true rfl, Nat.le_of_ble_eq_true rfl⟩ ⟨Nat.le_of_ble_eq_true rfl, Nat.le_of_ble_eq_true rfl⟩ [0, 1, 2] rfl (by decide) 0 6 rfl rfl (Nat.le_of_ble_eq_true rfl) dX6_addPassage_55) [0, 1, 2] [] rfl rfl (by decide) (by decide) (fun _ => wM ad cI (2, mC m, mP m, mW m, mEar m, mSaid m, mRo m, mTu m)) [0, 1, 2] (by decide) (fun _ => rfl) (fun v_55 u_55 hv_55 => ?_)
            subst hv_55
            refine ek_widen (k' := 1) (n' := 4) (Nat.le_of_ble_eq_true rfl) (Nat.le_of_ble_eq_true rfl) ?_
            exact ek_reti X () ⟨_, rfl, (by first | exact (congrArg nI (if_pos (by omega))).symm | exact (congrArg nI (if_neg (by omega))).symm)⟩ (by unfold mAddP; first | (exfalso; omega) | rw [if_neg (show ¬ (a < mC m ∧ b < mC m) by omega)] | rw [if_pos (show a < mC m ∧ b < mC m by omega), if_neg (show ¬ (¬ a = b ∧ (1 ≤ n ∧ n ≤ 9) ∧ w9 ≤ 9) by omega)] | rw [if_pos (show a < mC m ∧ b < mC m by omega), if_pos (show ¬ a = b ∧ (1 ≤ n ∧ n ≤ 9) ∧ w9 ≤ 9 by omega), if_pos (show mP m = 18 by omega)] | rw [if_pos (show a < mC m ∧ b < mC m by omega), if_pos (show ¬ a = b ∧ (1 ≤ n ∧ n ≤ 9) ∧ w9 ≤ 9 by omega), if_neg (show ¬ mP m = 18 by omega)]) dX6_addPassage_58
        · refine ek_top (v' := nI 0) (congrArg nI (if_neg c_36)) ?_
          refine ek_Zeq X (by omega) 53 (by decide) dX6_addPassage_39 (fun _ => ?_) (fun h => absurd h (by omega))
          refine ek_aln X 0 rfl dX6_addPassage_53 ?_
          refine ek_ic (v := nI 2) X (by decide) dX6_addPassage_54 ?_
          refine ek_doWi X (ek_runV (As := [.int (nI 2)]) (rest := []) X (c_X6_no l D cI cJ cR ad ((0, mC m, mP m, mW m, mEar m, mSaid m, mRo m, mTu m)) 2) gX6_addPassage_X6_no rfl hdV_X6_no ⟨Nat.le_of_ble_eq_true rfl, Nat.le_of_ble_eq_true rfl⟩ ⟨Nat.le_of_ble_eq_true rfl, Nat.le_of_ble_eq_true rfl⟩ [0, 1, 2] rfl (by decide) 0 6 rfl rfl (Nat.le_of_ble_eq_true rfl) dX6_addPassage_55) [0, 1, 2] [] rfl rfl (by decide) (by decide) (fun _ => wM ad cI (2, mC m, mP m, mW m, mEar m, mSaid m, mRo m, mTu m)) [0, 1, 2] (by decide) (fun _ => rfl) (fun v_55 u_55 hv_55 => ?_)
          subst hv_55
          refine ek_widen (k' := 1) (n' := 4) (Nat.le_of_ble_eq_true rfl) (Nat.le_of_ble_eq_true rfl) ?_
          exact ek_reti X () ⟨_, rfl, (by first | exact (congrArg nI (if_pos (by omega))).symm | exact (congrArg nI (if_neg (by omega))).symm)⟩ (by unfold mAddP; first | (exfalso; omega) | rw [if_neg (show ¬ (a < mC m ∧ b < mC m) by omega)] | rw [if_pos (show a < mC m ∧ b < mC m by omega), if_neg (show ¬ (¬ a = b ∧ (1 ≤ n ∧ n ≤ 9) ∧ w9 ≤ 9) by omega)] | rw [if_pos (show a < mC m ∧ b < mC m by omega), if_pos (show ¬ a = b ∧ (1 ≤ n ∧ n ≤ 9) ∧ w9 ≤ 9 by omega), if_pos (show mP m = 18 by omega)] | rw [if_pos (show a < mC m ∧ b < mC m by omega), if_pos (show ¬ a = b ∧ (1 ≤ n ∧ n ≤ 9) ∧ w9 ≤ 9 by omega), if_neg (show ¬ mP m = 18 by omega)]) dX6_addPassage_58
    · refine ek_top (v' := nI 0) (congrArg nI (if_neg c_15)) ?_
      refine ek_Zne X (by omega) 27 (by decide) dX6_addPassage_18 (fun h => absurd h (by omega)) (fun _ => ?_)
      refine ek_aln X 0 rfl dX6_addPassage_21 ?_
      refine ek_ic (v := nI 1) X (by decide) dX6_addPassage_22 ?_
      refine ek_doWi X (ek_runV (As := [.int (nI 1)]) (rest := []) X (c_X6_no l D cI cJ cR ad ((0, mC m, mP m, mW m, mEar m, mSaid m, mRo m, mTu m)) 1) gX6_addPassage_X6_no rfl hdV_X6_no ⟨Nat.le_of_ble_eq_true rfl, Nat.le_of_ble_eq_true rfl⟩ ⟨Nat.le_of_ble_eq_true rfl, Nat.le_of_ble_eq_true rfl⟩ [0, 1, 2] rfl (by decide) 0 6 rfl rfl (Nat.le_of_ble_eq_true rfl) dX6_addPassage_23) [0, 1, 2] [] rfl rfl (by decide) (by decide) (fun _ => wM ad cI (1, mC m, mP m, mW m, mEar m, mSaid m, mRo m, mTu m)) [0, 1, 2] (by decide) (fun _ => rfl) (fun v_23 u_23 hv_23 => ?_)
      subst hv_23
      refine ek_widen (k' := 1) (n' := 4) (Nat.le_of_ble_eq_true rfl) (Nat.le_of_ble_eq_true rfl) ?_
      exact ek_reti X () ⟨_, rfl, (by first | exact (congrArg nI (if_pos (by omega))).symm | exact (congrArg nI (if_neg (by omega))).symm)⟩ (by unfold mAddP; first | (exfalso; omega) | rw [if_neg (show ¬ (a < mC m ∧ b < mC m) by omega)] | rw [if_pos (show a < mC m ∧ b < mC m by omega), if_neg (show ¬ (¬ a = b ∧ (1 ≤ n ∧ n ≤ 9) ∧ w9 ≤ 9) by omega)] | rw [if_pos (show a < mC m ∧ b < mC m by omega), if_pos (show ¬ a = b ∧ (1 ≤ n ∧ n ≤ 9) ∧ w9 ≤ 9 by omega), if_pos (show mP m = 18 by omega)] | rw [if_pos (show a < mC m ∧ b < mC m by omega), if_pos (show ¬ a = b ∧ (1 ≤ n ∧ n ≤ 9) ∧ w9 ≤ 9 by omega), if_neg (show ¬ mP m = 18 by omega)]) dX6_addPassage_26
  · refine ek_top (v' := nI 0) (congrArg nI (if_neg c_7)) ?_
    refine ek_Zeq X (by omega) 21 (by decide) dX6_addPassage_10 (fun _ => ?_) (fun h => absurd h (by omega))
    refine ek_aln X 0 rfl dX6_addPassage_21 ?_
    refine ek_ic (v := nI 1) X (by decide) dX6_addPassage_22 ?_
    refine ek_doWi X (ek_runV (As := [.int (nI 1)]) (rest := []) X (c_X6_no l D cI cJ cR ad ((0, mC m, mP m, mW m, mEar m, mSaid m, mRo m, mTu m)) 1) gX6_addPassage_X6_no rfl hdV_X6_no ⟨Nat.le_of_ble_eq_true rfl, Nat.le_of_ble_eq_true rfl⟩ ⟨Nat.le_of_ble_eq_true rfl, Nat.le_of_ble_eq_true rfl⟩ [0, 1, 2] rfl (by decide) 0 6 rfl rfl (Nat.le_of_ble_eq_true rfl) dX6_addPassage_23) [0, 1, 2] [] rfl rfl (by decide) (by decide) (fun _ => wM ad cI (1, mC m, mP m, mW m, mEar m, mSaid m, mRo m, mTu m)) [0, 1, 2] (by decide) (fun _ => rfl) (fun v_23 u_23 hv_23 => ?_)
    subst hv_23
    refine ek_widen (k' := 1) (n' := 4) (Nat.le_of_ble_eq_true rfl) (Nat.le_of_ble_eq_true rfl) ?_
    exact ek_reti X () ⟨_, rfl, (by first | exact (congrArg nI (if_pos (by omega))).symm | exact (congrArg nI (if_neg (by omega))).symm)⟩ (by unfold mAddP; first | (exfalso; omega) | rw [if_neg (show ¬ (a < mC m ∧ b < mC m) by omega)] | rw [if_pos (show a < mC m ∧ b < mC m by omega), if_neg (show ¬ (¬ a = b ∧ (1 ≤ n ∧ n ≤ 9) ∧ w9 ≤ 9) by omega)] | rw [if_pos (show a < mC m ∧ b < mC m by omega), if_pos (show ¬ a = b ∧ (1 ≤ n ∧ n ≤ 9) ∧ w9 ≤ 9 by omega), if_pos (show mP m = 18 by omega)] | rw [if_pos (show a < mC m ∧ b < mC m by omega), if_pos (show ¬ a = b ∧ (1 ≤ n ∧ n ≤ 9) ∧ w9 ≤ 9 by omega), if_neg (show ¬ mP m = 18 by omega)]) dX6_addPassage_26
