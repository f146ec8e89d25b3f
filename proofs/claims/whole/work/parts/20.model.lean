/-! ===== EchoCaveModel: its worlds ===== -/
def wM (ad : Nat → Nat) (cI : ClassId) (m : MdlT) : va_W := [
  (ad 50, .inr (6, [.int (nI (mTh m)), .int (nI (mC m)), .int (nI (mP m)), .int (nI (mW m)), .int (nI (mEar m)), .int (nI (mSaid m)), .ref (ad 51), .ref (ad 52), .ref (ad 60), .ref (ad 70)])),
  (ad 51, .inl (cI, 60, .inl (fun j => nI (mRo m j)))),
  (ad 52, .inl (cI, 72, .inl (fun j => nI (mTu m j))))]
def wT (ad : Nat → Nat) (f : Nat) (cI : ClassId) (t : MsnT) (m : MdlT) : va_W := [
  (ad f, .inr (5, [.int (nI (tWo t)), .int (nI (tPl t)), .int (nI (tRu t)), .int (nI (tK t)), .int (nI (tCt t)), .int (nI (tOr t)), .int (tLa t), .int (nI (tWa t)), .int (nI (tCl t)), .int (tCh t), .int (nI (tWi t)), .int (nI (tLt t)), .ref (ad (f + 1)), .ref (ad (f + 2)), .ref (ad (f + 3)), .ref (ad (f + 4)), .ref (ad (f + 5)), .ref (ad (f + 6)), .ref (ad (f + 7)), .ref (ad (f + 8)), .ref (ad 50)])),
  (ad (f + 1), .inl (cI, 6, .inl (tFi t))),
  (ad (f + 2), .inl (cI, 300, .inl (fun j => nI (tHe t j)))),
  (ad (f + 3), .inl (cI, 17, .inl (fun j => nI (tPc t j)))),
  (ad (f + 4), .inl (cI, 17, .inl (fun j => nI (tSy t j)))),
  (ad (f + 5), .inl (cI, 17, .inl (fun j => nI (tTh t j)))),
  (ad (f + 6), .inl (cI, 17, .inl (fun j => nI (tBa t j)))),
  (ad (f + 7), .inl (cI, 629, .inl (fun j => nI (tOd t j)))),
  (ad (f + 8), .inl (cI, 629, .inl (fun j => nI (tPw t j)))),
  (ad 50, .inr (6, [.int (nI (mTh m)), .int (nI (mC m)), .int (nI (mP m)), .int (nI (mW m)), .int (nI (mEar m)), .int (nI (mSaid m)), .ref (ad 51), .ref (ad 52), .ref (ad 60), .ref (ad 70)])),
  (ad 51, .inl (cI, 60, .inl (fun j => nI (mRo m j)))),
  (ad 52, .inl (cI, 72, .inl (fun j => nI (mTu m j))))]
/-- bounds of the reference's cave -/
def mOk (m : MdlT) : Prop := (1 ≤ mC m ∧ mC m ≤ 12) ∧ mP m ≤ 18 ∧ mW m ≤ 30 ∧ mEar m ≤ 50 ∧ mTh m ≤ 3 ∧ mSaid m ≤ 512 ∧ (∀ j, mRo m j ≤ 100) ∧ ∀ j, mTu m j < 12
abbrev mOpen (m : MdlT) (i x : Nat) : Prop := x ≤ mRo m (5 * mTu m (4 * i) + 1) ∧ x ≤ mRo m (5 * mTu m (4 * i + 1) + 1)
abbrev mTouch (m : MdlT) (i c : Nat) : Prop := mTu m (4 * i) = c ∨ mTu m (4 * i + 1) = c

abbrev rm_X6_isIn : Room := { frames := 1, cells := 0, slots := 0, locals := 12 }
set_option maxHeartbeats 4000000 in
set_option maxRecDepth 100000 in
theorem c_X6_isIn (l : Launch) (D : va_G) (cI cJ cR : ClassId) (x lo hi : Int32) : ek_R l yX6_isIn wsX6_isIn rm_X6_isIn D (tyW cI cJ cR) nestW [.int x, .int lo, .int hi] ([]) (fun r9 => ∃ v : Int32, r9 = some (.int v) ∧ v = nI (if lo ≤ x ∧ x ≤ hi then 1 else 0)) := by
  refine ek_R.of (cc := cX6_isIn) (maxL := 3) (ret := (some .boolean)) (by decide) rfl (Nat.le_of_ble_eq_true rfl) ?_
  intro p9 e9 s9 m9 args9 below9 meth9 c9 X
  refine ek_castL (lv' := [(0, .int x), (1, .int lo), (2, .int hi)]) rfl ?_
  refine ek_iln X 0 rfl dX6_isIn_0 ?_
  refine ek_iln X 1 rfl dX6_isIn_1 ?_
  refine ek_icmp_lt X 14 (by decide) dX6_isIn_2 (fun c_2 => ?_) (fun c_2 => ?_)
  · skip
    refine ek_ic (v := nI 0) X (by decide) dX6_isIn_14 ?_
    exact ek_retzR X (by decide) ⟨_, rfl, (by first | exact (congrArg nI (if_pos ⟨Int32.not_lt.mp c_2, Int32.not_lt.mp c_7⟩)).symm | exact (congrArg nI (if_neg (fun h => Int32.not_lt.mpr h.1 c_2))).symm | exact (congrArg nI (if_neg (fun h => Int32.not_lt.mpr h.2 c_7))).symm)⟩ dX6_isIn_15
  · skip
    refine ek_iln X 0 rfl dX6_isIn_5 ?_
    refine ek_iln X 2 rfl dX6_isIn_6 ?_
    refine ek_icmp_gt X 14 (by decide) dX6_isIn_7 (fun c_7 => ?_) (fun c_7 => ?_)
    · skip
      refine ek_ic (v := nI 0) X (by decide) dX6_isIn_14 ?_
      exact ek_retzR X (by decide) ⟨_, rfl, (by first | exact (congrArg nI (if_pos ⟨Int32.not_lt.mp c_2, Int32.not_lt.mp c_7⟩)).symm | exact (congrArg nI (if_neg (fun h => Int32.not_lt.mpr h.1 c_2))).symm | exact (congrArg nI (if_neg (fun h => Int32.not_lt.mpr h.2 c_7))).symm)⟩ dX6_isIn_15
    · skip
      refine ek_ic (v := nI 1) X (by decide) dX6_isIn_10 ?_
      refine ek_goto X 15 (by decide) dX6_isIn_11 ?_
      exact ek_retzR X (by decide) ⟨_, rfl, (by first | exact (congrArg nI (if_pos ⟨Int32.not_lt.mp c_2, Int32.not_lt.mp c_7⟩)).symm | exact (congrArg nI (if_neg (fun h => Int32.not_lt.mpr h.1 c_2))).symm | exact (congrArg nI (if_neg (fun h => Int32.not_lt.mpr h.2 c_7))).symm)⟩ dX6_isIn_15

theorem hin_X6_isChamber_X6 : ∀ x ∈ wsX60, x ∈ wsX6_isChamber := fun x h => List.mem_cons_of_mem _ (List.mem_append_right _ h)
abbrev rm_X6_isChamber : Room := { frames := 2, cells := 0, slots := 0, locals := 34 }
set_option maxHeartbeats 4000000 in
set_option maxRecDepth 100000 in
theorem c_X6_isChamber (l : Launch) (D : va_G) (cI cJ cR : ClassId) (ad : Nat → Nat) (m : MdlT) (hM : mOk m) (x : Int32) : ek_R l yX6_isChamber wsX6_isChamber rm_X6_isChamber D (tyW cI cJ cR) nestW [.ref (ad 50), .int x] (wM ad cI m) (fun r9 => ∃ v : Int32, r9 = some (.int v) ∧ v = nI (if nI 0 ≤ x ∧ x ≤ nI (mC m - 1) then 1 else 0)) := by
  refine ek_R.of (cc := cX6_isChamber) (maxL := 2) (ret := (some .boolean)) (by decide) rfl (Nat.le_of_ble_eq_true rfl) ?_
  intro p9 e9 s9 m9 args9 below9 meth9 c9 X
  obtain ⟨⟨mC1, mC2⟩, mPs, mWs, mEs, mTs, mSs, mRs, mTl⟩ := id hM
  refine ek_castL (lv' := [(0, .ref (ad 50)), (1, .int x)]) rfl ?_
  refine ek_iln X 1 rfl dX6_isChamber_0 ?_
  refine ek_ic (v := nI 0) X (by decide) dX6_isChamber_1 ?_
  refine ek_aln X 0 rfl dX6_isChamber_2 ?_
  refine ek_get X hin_X6_isChamber_X6 0 rfl rfl 1 (by decide) (List.mem_of_getElem? (i := 1) rfl) rfl dX6_isChamber_3 ?_
  refine ek_ic (v := nI 1) X (by decide) dX6_isChamber_6 ?_
  refine ek_Nsub X (by omega) dX6_isChamber_7 ?_
  refine ek_doRi (ek_runS (As := [.int x, .int (nI 0), .int (nI ((mC m) - 1))]) (rest := []) X (c_X6_isIn l D cI cJ cR (x) (nI 0) (nI ((mC m) - 1))) gX6_isChamber_X6_isIn rfl hd_X6_isIn ⟨Nat.le_of_ble_eq_true rfl, Nat.le_of_ble_eq_true rfl⟩ ⟨Nat.le_of_ble_eq_true rfl, Nat.le_of_ble_eq_true rfl⟩ [] rfl (by decide) (Nat.le_of_ble_eq_true rfl) dX6_isChamber_8) (fun v_8 hv_8 => ?_)
  subst hv_8
  by_cases c_8 : nI 0 ≤ x ∧ x ≤ nI ((mC m) - 1)
  · refine ek_top (v' := nI 1) (congrArg nI (if_pos c_8)) ?_
    exact ek_retzR X (by decide) ⟨_, rfl, (by first | exact (congrArg nI (if_pos (by assumption))).symm | exact (congrArg nI (if_neg (by assumption))).symm)⟩ dX6_isChamber_11
  · refine ek_top (v' := nI 0) (congrArg nI (if_neg c_8)) ?_
    exact ek_retzR X (by decide) ⟨_, rfl, (by first | exact (congrArg nI (if_pos (by assumption))).symm | exact (congrArg nI (if_neg (by assumption))).symm)⟩ dX6_isChamber_11

theorem hin_X6_touches_X6 : ∀ x ∈ wsX60, x ∈ wsX6_touches := fun x h => List.mem_cons_of_mem _ (List.mem_append_right _ h)
abbrev rm_X6_touches : Room := { frames := 1, cells := 0, slots := 0, locals := 12 }
set_option maxHeartbeats 4000000 in
set_option maxRecDepth 100000 in
theorem c_X6_touches (l : Launch) (D : va_G) (cI cJ cR : ClassId) (ad : Nat → Nat) (m : MdlT) (hM : mOk m) (i c : Nat) (hi : i < 18) (hc : c < 2147483648) : ek_R l yX6_touches wsX6_touches rm_X6_touches D (tyW cI cJ cR) nestW [.ref (ad 50), .int (nI i), .int (nI c)] (wM ad cI m) (fun r9 => ∃ v : Int32, r9 = some (.int v) ∧ v = nI (if mTouch m i c then 1 else 0)) := by
  refine ek_R.of (cc := cX6_touches) (maxL := 3) (ret := (some .boolean)) (by decide) rfl (Nat.le_of_ble_eq_true rfl) ?_
  intro p9 e9 s9 m9 args9 below9 meth9 c9 X
  obtain ⟨⟨mC1, mC2⟩, mPs, mWs, mEs, mTs, mSs, mRs, mTl⟩ := id hM
  refine ek_castL (lv' := [(0, .ref (ad 50)), (1, .int (nI i)), (2, .int (nI c))]) rfl ?_
  refine ek_aln X 0 rfl dX6_touches_0 ?_
  refine ek_get X hin_X6_touches_X6 0 rfl rfl 7 (by decide) (List.mem_of_getElem? (i := 1) rfl) rfl dX6_touches_1 ?_
  refine ek_ic (v := nI 4) X (by decide) dX6_touches_4 ?_
  refine ek_iln X 1 rfl dX6_touches_5 ?_
  refine ek_Nmul X dX6_touches_6 ?_
  refine ek_ald X 2 0 rfl rfl (by omega) (by omega) dX6_touches_7 ?_
  have b1_7 := mTl (4 * i)
  refine ek_iln X 2 rfl dX6_touches_8 ?_
  refine ek_Neq X (by omega) (by omega) 26 (by decide) dX6_touches_9 (fun c_9 => ?_) (fun c_9 => ?_)
  · skip
    refine ek_ic (v := nI 1) X (by decide) dX6_touches_26 ?_
    refine ek_goto X 31 (by decide) dX6_touches_27 ?_
    exact ek_retzR X (by decide) ⟨_, rfl, (by first | exact (congrArg nI (if_pos (by omega))).symm | exact (congrArg nI (if_neg (by omega))).symm)⟩ dX6_touches_31
  · skip
    refine ek_aln X 0 rfl dX6_touches_12 ?_
    refine ek_get X hin_X6_touches_X6 0 rfl rfl 7 (by decide) (List.mem_of_getElem? (i := 1) rfl) rfl dX6_touches_13 ?_
    refine ek_ic (v := nI 4) X (by decide) dX6_touches_16 ?_
    refine ek_iln X 1 rfl dX6_touches_17 ?_
    refine ek_Nmul X dX6_touches_18 ?_
    refine ek_ic (v := nI 1) X (by decide) dX6_touches_19 ?_
    refine ek_Nadd X dX6_touches_20 ?_
    refine ek_ald X 2 0 rfl rfl (by omega) (by omega) dX6_touches_21 ?_
    have b2_21 := mTl ((4 * i) + 1)
    refine ek_iln X 2 rfl dX6_touches_22 ?_
    refine ek_Nne X (by omega) (by omega) 30 (by decide) dX6_touches_23 (fun c_23 => ?_) (fun c_23 => ?_)
    · skip
      refine ek_ic (v := nI 0) X (by decide) dX6_touches_30 ?_
      exact ek_retzR X (by decide) ⟨_, rfl, (by first | exact (congrArg nI (if_pos (by omega))).symm | exact (congrArg nI (if_neg (by omega))).symm)⟩ dX6_touches_31
    · skip
      refine ek_ic (v := nI 1) X (by decide) dX6_touches_26 ?_
      refine ek_goto X 31 (by decide) dX6_touches_27 ?_
      exact ek_retzR X (by decide) ⟨_, rfl, (by first | exact (congrArg nI (if_pos (by omega))).symm | exact (congrArg nI (if_neg (by omega))).symm)⟩ dX6_touches_31

theorem hin_X6_isOpen_X6 : ∀ x ∈ wsX60, x ∈ wsX6_isOpen := fun x h => List.mem_cons_of_mem _ (List.mem_append_right _ h)
abbrev rm_X6_isOpen : Room := { frames := 1, cells := 0, slots := 0, locals := 12 }
set_option maxHeartbeats 4000000 in
set_option maxRecDepth 100000 in
theorem c_X6_isOpen (l : Launch) (D : va_G) (cI cJ cR : ClassId) (ad : Nat → Nat) (m : MdlT) (hM : mOk m) (i x : Nat) (hi : i < 18) (hx : x < 2147483648) : ek_R l yX6_isOpen wsX6_isOpen rm_X6_isOpen D (tyW cI cJ cR) nestW [.ref (ad 50), .int (nI i), .int (nI x)] (wM ad cI m) (fun r9 => ∃ v : Int32, r9 = some (.int v) ∧ v = nI (if mOpen m i x then 1 else 0)) := by
  refine ek_R.of (cc := cX6_isOpen) (maxL := 3) (ret := (some .boolean)) (by decide) rfl (Nat.le_of_ble_eq_true rfl) ?_
  intro p9 e9 s9 m9 args9 below9 meth9 c9 X
  obtain ⟨⟨mC1, mC2⟩, mPs, mWs, mEs, mTs, mSs, mRs, mTl⟩ := id hM
  refine ek_castL (lv' := [(0, .ref (ad 50)), (1, .int (nI i)), (2, .int (nI x))]) rfl ?_
  refine ek_aln X 0 rfl dX6_isOpen_0 ?_
  refine ek_get X hin_X6_isOpen_X6 0 rfl rfl 6 (by decide) (List.mem_of_getElem? (i := 1) rfl) rfl dX6_isOpen_1 ?_
  refine ek_ic (v := nI 5) X (by decide) dX6_isOpen_4 ?_
  refine ek_aln X 0 rfl dX6_isOpen_5 ?_
  refine ek_get X hin_X6_isOpen_X6 0 rfl rfl 7 (by decide) (List.mem_of_getElem? (i := 2) rfl) rfl dX6_isOpen_6 ?_
  refine ek_ic (v := nI 4) X (by decide) dX6_isOpen_9 ?_
  refine ek_iln X 1 rfl dX6_isOpen_10 ?_
  refine ek_Nmul X dX6_isOpen_11 ?_
  refine ek_ald X 2 0 rfl rfl (by omega) (by omega) dX6_isOpen_12 ?_
  have b1_12 := mTl (4 * i)
  refine ek_Nmul X dX6_isOpen_13 ?_
  refine ek_ic (v := nI 1) X (by decide) dX6_isOpen_14 ?_
  refine ek_Nadd X dX6_isOpen_15 ?_
  refine ek_ald X 1 0 rfl rfl (by omega) (by omega) dX6_isOpen_16 ?_
  have b2_16 := mRs ((5 * ((mTu m) (4 * i))) + 1)
  refine ek_iln X 2 rfl dX6_isOpen_17 ?_
  refine ek_Nlt X (by omega) (by omega) 48 (by decide) dX6_isOpen_18 (fun c_18 => ?_) (fun c_18 => ?_)
  · skip
    refine ek_ic (v := nI 0) X (by decide) dX6_isOpen_48 ?_
    exact ek_retzR X (by decide) ⟨_, rfl, (by first | exact (congrArg nI (if_pos (by omega))).symm | exact (congrArg nI (if_neg (by omega))).symm)⟩ dX6_isOpen_49
  · skip
    refine ek_aln X 0 rfl dX6_isOpen_21 ?_
    refine ek_get X hin_X6_isOpen_X6 0 rfl rfl 6 (by decide) (List.mem_of_getElem? (i := 1) rfl) rfl dX6_isOpen_22 ?_
    refine ek_ic (v := nI 5) X (by decide) dX6_isOpen_25 ?_
    refine ek_aln X 0 rfl dX6_isOpen_26 ?_
    refine ek_get X hin_X6_isOpen_X6 0 rfl rfl 7 (by decide) (List.mem_of_getElem? (i := 2) rfl) rfl dX6_isOpen_27 ?_
    refine ek_ic (v := nI 4) X (by decide) dX6_isOpen_30 ?_
    refine ek_iln X 1 rfl dX6_isOpen_31 ?_
    refine ek_Nmul X dX6_isOpen_32 ?_
    refine ek_ic (v := nI 1) X (by decide) dX6_isOpen_33 ?_
    refine ek_Nadd X dX6_isOpen_34 ?_
    refine ek_ald X 2 0 rfl rfl (by omega) (by omega) dX6_isOpen_35 ?_
    have b3_35 := mTl ((4 * i) + 1)
    refine ek_Nmul X dX6_isOpen_36 ?_
    refine ek_ic (v := nI 1) X (by decide) dX6_isOpen_37 ?_
    refine ek_Nadd X dX6_isOpen_38 ?_
    refine ek_ald X 1 0 rfl rfl (by omega) (by omega) dX6_isOpen_39 ?_
    have b4_39 := mRs ((5 * ((mTu m) ((4 * i) + 1))) + 1)
    refine ek_iln X 2 rfl dX6_isOpen_40 ?_
    refine ek_Nlt X (by omega) (by omega) 48 (by decide) dX6_isOpen_41 (fun c_41 => ?_) (fun c_41 => ?_)
    · skip
      refine ek_ic (v := nI 0) X (by decide) dX6_isOpen_48 ?_
      exact ek_retzR X (by decide) ⟨_, rfl, (by first | exact (congrArg nI (if_pos (by omega))).symm | exact (congrArg nI (if_neg (by omega))).symm)⟩ dX6_isOpen_49
    · skip
      refine ek_ic (v := nI 1) X (by decide) dX6_isOpen_44 ?_
      refine ek_goto X 49 (by decide) dX6_isOpen_45 ?_
      exact ek_retzR X (by decide) ⟨_, rfl, (by first | exact (congrArg nI (if_pos (by omega))).symm | exact (congrArg nI (if_neg (by omega))).symm)⟩ dX6_isOpen_49

/-! ===== EchoCaveModel.Sound ===== -/
def tIns (n z : Nat) : Nat → (Nat → Nat) → (Nat → Nat) → (Nat → Nat) × (Nat → Nat)
  | 0, o, p => (eN o 0 n, eN p 0 z)
  | k + 1, o, p => if o k < n then tIns n z k (eN o (k + 1) (o k)) (eN p (k + 1) (p k)) else (eN o (k + 1) n, eN p (k + 1) z)
abbrev kR (t c r b : Nat) : Nat := ((t * 12 + c) * 17 + r) * 19 + b
def tCome (x c r b z : Nat) (t : MsnT) : MsnT := if 200 < x then t else (((tIns (kR x c r b) z (tWa t) (tOd t) (tPw t)).1, (tIns (kR x c r b) z (tWa t) (tOd t) (tPw t)).2, tPc t, tSy t), (tTh t, tBa t, tFi t, tHe t), (tWa t + 1, tRu t, tCl t, tK t), (tCt t, tOr t, tLa t, tLt t), (tWo t, tPl t, tCh t, tWi t))
def tNew (p y : Nat) (t : MsnT) : MsnT := ((tOd t, tPw t, eN (tPc t) (tRu t) p, eN (tSy t) (tRu t) y), (eN (tTh t) (tRu t) 0, eN (tBa t) (tRu t) 0, tFi t, tHe t), (tWa t, tRu t, tCl t, tK t), (tCt t, tOr t, tLa t, tLt t), (tWo t, tPl t, tCh t, tWi t))
def tMore (t : MsnT) : MsnT := ((tOd t, tPw t, tPc t, tSy t), (tTh t, tBa t, tFi t, tHe t), (tWa t, tRu t + 1, tCl t, tK t), (tCt t, tOr t, tLa t, tLt t), (tWo t, tPl t, tCh t, tWi t))
def tStart (x c p y z : Nat) (t : MsnT) : MsnT := tMore (tCome x c (tRu t) 0 z (tNew p y t))
theorem tIns_step (n z k : Nat) (o p : Nat → Nat) (h : o k < n) : tIns n z (k + 1) o p = tIns n z k (eN o (k + 1) (o k)) (eN p (k + 1) (p k)) := if_pos h
theorem tIns_stop (n z k : Nat) (o p : Nat → Nat) (h : k = 0 ∨ ∃ j, k = j + 1 ∧ ¬ o j < n) : tIns n z k o p = (eN o k n, eN p k z) := by
  rcases h with rfl | ⟨j, rfl, h⟩
  · rfl
  · exact if_neg h
theorem tCome_far (x c r b z : Nat) (t : MsnT) (h : 200 < x) : tCome x c r b z t = t := if_pos h
theorem tCome_near (x c r b z n k : Nat) (t : MsnT) (o p : Nat → Nat) (hn : n = kR x c r b) (h : ¬ 200 < x) (h2 : tIns n z k o p = tIns n z (tWa t) (tOd t) (tPw t)) (h3 : k = 0 ∨ ∃ j, k = j + 1 ∧ ¬ o j < n) : tCome x c r b z t = ((eN o k n, eN p k z, tPc t, tSy t), (tTh t, tBa t, tFi t, tHe t), (tWa t + 1, tRu t, tCl t, tK t), (tCt t, tOr t, tLa t, tLt t), (tWo t, tPl t, tCh t, tWi t)) := by
  subst hn
  unfold tCome
  rw [if_neg h, ← h2, tIns_stop _ _ _ _ _ h3]
theorem tIns_at (n z : Nat) : ∀ (k : Nat) (o p : Nat → Nat) (M : Nat), n < M → (∀ j, o j < M) → ∀ j, (tIns n z k o p).1 j < M
  | 0, o, p, M, h1, h2, j => eN_lt h2 h1 j
  | k + 1, o, p, M, h1, h2, j => by
    unfold tIns
    split
    · exact tIns_at n z k _ _ M h1 (eN_lt h2 (h2 k)) j
    · exact eN_lt h2 h1 j

theorem hin_X5_instead_X5 : ∀ x ∈ wsX50, x ∈ wsX5_instead := fun x h => List.mem_cons_of_mem _ (List.mem_append_right _ h)
abbrev rm_X5_instead : Room := { frames := 1, cells := 0, slots := 0, locals := 12 }
set_option maxHeartbeats 4000000 in
set_option maxRecDepth 100000 in
theorem c_X5_instead (l : Launch) (D : va_G) (cI cJ cR : ClassId) (ad : Nat → Nat) (f : Nat) (m : MdlT) (t : MsnT) (x : Int32) (y d : Nat) : ek_M (S := Unit) l yX5_instead wsX5_instead rm_X5_instead D (tyW cI cJ cR) nestW [.ref (ad f), .int x, .int (nI y), .int (nI d)] (wT ad f cI t m) (fun r9 _ => r9 = none ∧ True) (fun _ => wT ad f cI ((tOd t, tPw t, tPc t, tSy t), (tTh t, tBa t, tFi t, tHe t), (tWa t, tRu t, tCl t, tK t), (tCt t, tOr t, tLa t, d), (tWo t, tPl t, x, y)) m) := by
  refine ek_M.of (cc := cX5_instead) (maxL := 4) (ret := none) (by decide) rfl (Nat.le_of_ble_eq_true rfl) ?_
  intro p9 e9 s9 m9 args9 below9 meth9 c9 A X hin
  refine ek_castL (lv' := [(0, .ref (ad f)), (1, .int x), (2, .int (nI y)), (3, .int (nI d))]) rfl ?_
  refine ek_aln X 0 rfl dX5_instead_0 ?_
  refine ek_iln X 1 rfl dX5_instead_1 ?_
  refine ek_put (w' := wT ad f cI ((tOd t, tPw t, tPc t, tSy t), (tTh t, tBa t, tFi t, tHe t), (tWa t, tRu t, tCl t, tK t), (tCt t, tOr t, tLa t, tLt t), (tWo t, tPl t, x, tWi t)) m) X hin_X5_instead_X5 tyX5 tyX5_ok nmX5 0 rfl rfl 9 (by decide) (List.mem_of_getElem? (i := 1) rfl) rfl rfl rfl rfl (Nat.le_of_ble_eq_true rfl) rfl dX5_instead_2 ?_
  refine ek_aln X 0 rfl dX5_instead_5 ?_
  refine ek_iln X 2 rfl dX5_instead_6 ?_
  refine ek_put (w' := wT ad f cI ((tOd t, tPw t, tPc t, tSy t), (tTh t, tBa t, tFi t, tHe t), (tWa t, tRu t, tCl t, tK t), (tCt t, tOr t, tLa t, tLt t), (tWo t, tPl t, x, y)) m) X hin_X5_instead_X5 tyX5 tyX5_ok nmX5 0 rfl rfl 10 (by decide) (List.mem_of_getElem? (i := 2) rfl) rfl rfl rfl rfl (Nat.le_of_ble_eq_true rfl) rfl dX5_instead_7 ?_
  refine ek_aln X 0 rfl dX5_instead_10 ?_
  refine ek_iln X 3 rfl dX5_instead_11 ?_
  refine ek_put (w' := wT ad f cI ((tOd t, tPw t, tPc t, tSy t), (tTh t, tBa t, tFi t, tHe t), (tWa t, tRu t, tCl t, tK t), (tCt t, tOr t, tLa t, d), (tWo t, tPl t, x, y)) m) X hin_X5_instead_X5 tyX5 tyX5_ok nmX5 0 rfl rfl 11 (by decide) (List.mem_of_getElem? (i := 3) rfl) rfl rfl rfl rfl (Nat.le_of_ble_eq_true rfl) rfl dX5_instead_12 ?_
  exact ek_retv X () ⟨rfl, trivial⟩ rfl dX5_instead_15

theorem hin_X5_come_X5 : ∀ x ∈ wsX50, x ∈ wsX5_come := fun x h => List.mem_cons_of_mem _ (List.mem_append_right _ h)
abbrev rm_X5_come : Room := { frames := 1, cells := 0, slots := 0, locals := 12 }
set_option maxHeartbeats 4000000 in
set_option maxRecDepth 100000 in
theorem c_X5_come (l : Launch) (D : va_G) (cI cJ cR : ClassId) (ad : Nat → Nat) (f : Nat) (m : MdlT) (t : MsnT) (hM : mOk m) (x c r b z : Nat) (w : Int32) (hw : w + nI 1 = nI b) (hx : x < 2147483648) (hc : c < 12) (hr : r < 17) (hb : b < 19) (hwa : tWa t < 629) (ho : ∀ j, tOd t j < 2147483648) : ek_M (S := Unit) l yX5_come wsX5_come rm_X5_come D (tyW cI cJ cR) nestW [.ref (ad f), .int (nI x), .int (nI c), .int (nI r), .int w, .int (nI z)] (wT ad f cI t m) (fun r9 _ => r9 = none ∧ True) (fun _ => wT ad f cI (tCome x c r b z t) m) := by
  refine ek_M.of (cc := cX5_come) (maxL := 8) (ret := none) (by decide) rfl (Nat.le_of_ble_eq_true rfl) ?_
  intro p9 e9 s9 m9 args9 below9 meth9 c9 A X hin
  obtain ⟨n9, hn9⟩ : ∃ n9, n9 = kR x c r b := ⟨_, rfl⟩
  refine ek_castL (lv' := [(0, .ref (ad f)), (1, .int (nI x)), (2, .int (nI c)), (3, .int (nI r)), (4, .int w), (5, .int (nI z))]) rfl ?_
  refine ek_iln X 1 rfl dX5_come_0 ?_
  refine ek_sp (v := nI 200) X (by decide) dX5_come_1 ?_
  refine ek_Nle X (by omega) (by omega) 8 (by decide) dX5_come_4 (fun c_4 => ?_) (fun c_4 => ?_)
  · skip
    refine ek_iln X 1 rfl dX5_come_8 ?_
    refine ek_bp (v := nI 12) X (by decide) dX5_come_9 ?_
    refine ek_Nmul X dX5_come_11 ?_
    refine ek_iln X 2 rfl dX5_come_12 ?_
    refine ek_Nadd X dX5_come_13 ?_
    refine ek_bp (v := nI 17) X (by decide) dX5_come_14 ?_
    refine ek_Nmul X dX5_come_16 ?_
    refine ek_iln X 3 rfl dX5_come_17 ?_
    refine ek_Nadd X dX5_come_18 ?_
    refine ek_bp (v := nI 19) X (by decide) dX5_come_19 ?_
    refine ek_Nmul X dX5_come_21 ?_
    refine ek_il X 4 rfl dX5_come_22 ?_
    refine ek_add X dX5_come_24 ?_
    refine ek_ic (v := nI 1) X (by decide) dX5_come_25 ?_
    refine ek_add X dX5_come_26 ?_
    refine ek_top (v' := nI n9) (by rw [Int32.add_assoc, hw, nI_add, hn9]) ?_
    refine ek_is (lv' := [(6, .int (nI n9)), (0, .ref (ad f)), (1, .int (nI x)), (2, .int (nI c)), (3, .int (nI r)), (4, .int w), (5, .int (nI z))]) X (by decide) rfl dX5_come_27 ?_
    refine ek_aln X 1 rfl dX5_come_29 ?_
    refine ek_get X hin_X5_come_X5 0 rfl rfl 7 (by decide) (List.mem_of_getElem? (i := 1) rfl) rfl dX5_come_30 ?_
    refine ek_is (lv' := [(7, .int (nI (tWa t))), (6, .int (nI n9)), (0, .ref (ad f)), (1, .int (nI x)), (2, .int (nI c)), (3, .int (nI r)), (4, .int w), (5, .int (nI z))]) X (by decide) rfl dX5_come_33 ?_
    refine ek_loopAt (σ := Nat × (Nat → Nat) × (Nat → Nat)) (fun zz => (fun (k : Nat) (o : Nat → Nat) (p : Nat → Nat) => k ≤ tWa t ∧ (∀ j9, o j9 < 2147483648) ∧ tIns n9 z k o p = tIns n9 z (tWa t) (tOd t) (tPw t)) zz.1 zz.2.1 zz.2.2) (fun zz => (fun (k : Nat) (o : Nat → Nat) (p : Nat → Nat) => k) zz.1 zz.2.1 zz.2.2) (fun zz => (fun (k : Nat) (o : Nat → Nat) (p : Nat → Nat) => wT ad f cI ((o, p, tPc t, tSy t), (tTh t, tBa t, tFi t, tHe t), (tWa t, tRu t, tCl t, tK t), (tCt t, tOr t, tLa t, tLt t), (tWo t, tPl t, tCh t, tWi t)) m) zz.1 zz.2.1 zz.2.2) (fun zz => (fun (k : Nat) (o : Nat → Nat) (p : Nat → Nat) => [(0, .ref (ad f)), (1, .int (nI x)), (2, .int (nI c)), (3, .int (nI r)), (4, .int w), (5, .int (nI z)), (6, .int (nI n9)), (7, .int (nI k))]) zz.1 zz.2.1 zz.2.2) ?_ (tWa t, tOd t, tPw t) ⟨Nat.le_refl _, ho, rfl⟩ rfl [2, 3, 4, 5, 6, 7, 1, 0] rfl
    intro zz ha_35 ih_35
    obtain ⟨k, o, p⟩ := zz
    replace ha_35 : k ≤ tWa t ∧ (∀ j9, o j9 < 2147483648) ∧ tIns n9 z k o p = tIns n9 z (tWa t) (tOd t) (tPw t) := ha_35
    refine ek_cast (w' := wT ad f cI ((o, p, tPc t, tSy t), (tTh t, tBa t, tFi t, tHe t), (tWa t, tRu t, tCl t, tK t), (tCt t, tOr t, tLa t, tLt t), (tWo t, tPl t, tCh t, tWi t)) m) rfl ?_
    refine ek_castL (lv' := [(0, .ref (ad f)), (1, .int (nI x)), (2, .int (nI c)), (3, .int (nI r)), (4, .int w), (5, .int (nI z)), (6, .int (nI n9)), (7, .int (nI k))]) rfl ?_
    have ho9 := ha_35.2.1
    have ho1 := ho9 (k - 1)
    have hkr : n9 < 2147483648 := by rw [hn9]; show ((x * 12 + c) * 17 + r) * 19 + b < 2147483648; omega
    refine ek_il X 7 rfl dX5_come_35 ?_
    refine ek_Zle X (by omega) 92 (by decide) dX5_come_37 (fun c_37 => ?_) (fun c_37 => ?_)
    · skip
      refine ek_aln X 0 rfl dX5_come_92 ?_
      refine ek_get X hin_X5_come_X5 0 rfl rfl 18 (by decide) (List.mem_of_getElem? (i := 2) rfl) rfl dX5_come_93 ?_
      refine ek_il X 7 rfl dX5_come_96 ?_
      refine ek_il X 6 rfl dX5_come_98 ?_
      refine ek_Nast (w' := wT ad f cI ((eN o k n9, p, tPc t, tSy t), (tTh t, tBa t, tFi t, tHe t), (tWa t, tRu t, tCl t, tK t), (tCt t, tOr t, tLa t, tLt t), (tWo t, tPl t, tCh t, tWi t)) m) X 7 0 rfl rfl (by omega) (by omega) rfl dX5_come_100 ?_
      refine ek_aln X 0 rfl dX5_come_101 ?_
      refine ek_get X hin_X5_come_X5 0 rfl rfl 19 (by decide) (List.mem_of_getElem? (i := 3) rfl) rfl dX5_come_102 ?_
      refine ek_il X 7 rfl dX5_come_105 ?_
      refine ek_il X 5 rfl dX5_come_107 ?_
      refine ek_Nast (w' := wT ad f cI ((eN o k n9, eN p k z, tPc t, tSy t), (tTh t, tBa t, tFi t, tHe t), (tWa t, tRu t, tCl t, tK t), (tCt t, tOr t, tLa t, tLt t), (tWo t, tPl t, tCh t, tWi t)) m) X 8 0 rfl rfl (by omega) (by omega) rfl dX5_come_109 ?_
      refine ek_aln X 0 rfl dX5_come_110 ?_
      refine ek_dup X rfl dX5_come_111 ?_
      refine ek_get X hin_X5_come_X5 0 rfl rfl 7 (by decide) (List.mem_of_getElem? (i := 1) rfl) rfl dX5_come_112 ?_
      refine ek_top (v' := nI (tWa t)) rfl ?_
      refine ek_ic (v := nI 1) X (by decide) dX5_come_115 ?_
      refine ek_Nadd X dX5_come_116 ?_
      refine ek_put (w' := wT ad f cI ((eN o k n9, eN p k z, tPc t, tSy t), (tTh t, tBa t, tFi t, tHe t), ((tWa t) + 1, tRu t, tCl t, tK t), (tCt t, tOr t, tLa t, tLt t), (tWo t, tPl t, tCh t, tWi t)) m) X hin_X5_come_X5 tyX5 tyX5_ok nmX5 0 rfl rfl 7 (by decide) (List.mem_of_getElem? (i := 1) rfl) rfl rfl rfl rfl (Nat.le_of_ble_eq_true rfl) rfl dX5_come_117 ?_
      exact ek_retv X () ⟨rfl, trivial⟩ (congrArg (fun a => wT ad f cI a m) (tCome_near x c r b z n9 k t o p hn9 (by omega) ha_35.2.2 (by first | exact Or.inl (by omega) | exact Or.inr ⟨k - 1, by omega, by omega⟩)).symm) dX5_come_120
    · skip
      refine ek_aln X 0 rfl dX5_come_40 ?_
      refine ek_get X hin_X5_come_X5 0 rfl rfl 18 (by decide) (List.mem_of_getElem? (i := 2) rfl) rfl dX5_come_41 ?_
      refine ek_il X 7 rfl dX5_come_44 ?_
      refine ek_ic (v := nI 1) X (by decide) dX5_come_46 ?_
      refine ek_Nsub X (by omega) dX5_come_47 ?_
      refine ek_ald X 7 0 rfl rfl (by omega) (by omega) dX5_come_48 ?_
      refine ek_top (v' := nI (o (k - 1))) rfl ?_
      refine ek_il X 6 rfl dX5_come_49 ?_
      refine ek_Nge X (by omega) (by omega) 92 (by decide) dX5_come_51 (fun c_51 => ?_) (fun c_51 => ?_)
      · skip
        refine ek_aln X 0 rfl dX5_come_92 ?_
        refine ek_get X hin_X5_come_X5 0 rfl rfl 18 (by decide) (List.mem_of_getElem? (i := 2) rfl) rfl dX5_come_93 ?_
        refine ek_il X 7 rfl dX5_come_96 ?_
        refine ek_il X 6 rfl dX5_come_98 ?_
        refine ek_Nast (w' := wT ad f cI ((eN o k n9, p, tPc t, tSy t), (tTh t, tBa t, tFi t, tHe t), (tWa t, tRu t, tCl t, tK t), (tCt t, tOr t, tLa t, tLt t), (tWo t, tPl t, tCh t, tWi t)) m) X 7 0 rfl rfl (by omega) (by omega) rfl dX5_come_100 ?_
        refine ek_aln X 0 rfl dX5_come_101 ?_
        refine ek_get X hin_X5_come_X5 0 rfl rfl 19 (by decide) (List.mem_of_getElem? (i := 3) rfl) rfl dX5_come_102 ?_
        refine ek_il X 7 rfl dX5_come_105 ?_
        refine ek_il X 5 rfl dX5_come_107 ?_
        refine ek_Nast (w' := wT ad f cI ((eN o k n9, eN p k z, tPc t, tSy t), (tTh t, tBa t, tFi t, tHe t), (tWa t, tRu t, tCl t, tK t), (tCt t, tOr t, tLa t, tLt t), (tWo t, tPl t, tCh t, tWi t)) m) X 8 0 rfl rfl (by omega) (by omega) rfl dX5_come_109 ?_
        refine ek_aln X 0 rfl dX5_come_110 ?_
        refine ek_dup X rfl dX5_come_111 ?_
        refine ek_get X hin_X5_come_X5 0 rfl rfl 7 (by decide) (List.mem_of_getElem? (i := 1) rfl) rfl dX5_come_112 ?_
        refine ek_top (v' := nI (tWa t)) rfl ?_
        refine ek_ic (v := nI 1) X (by decide) dX5_come_115 ?_
        refine ek_Nadd X dX5_come_116 ?_
        refine ek_put (w' := wT ad f cI ((eN o k n9, eN p k z, tPc t, tSy t), (tTh t, tBa t, tFi t, tHe t), ((tWa t) + 1, tRu t, tCl t, tK t), (tCt t, tOr t, tLa t, tLt t), (tWo t, tPl t, tCh t, tWi t)) m) X hin_X5_come_X5 tyX5 tyX5_ok nmX5 0 rfl rfl 7 (by decide) (List.mem_of_getElem? (i := 1) rfl) rfl rfl rfl rfl (Nat.le_of_ble_eq_true rfl) rfl dX5_come_117 ?_
        exact ek_retv X () ⟨rfl, trivial⟩ (congrArg (fun a => wT ad f cI a m) (tCome_near x c r b z n9 k t o p hn9 (by omega) ha_35.2.2 (by first | exact Or.inl (by omega) | exact Or.inr ⟨k - 1, by omega, by omega⟩)).symm) dX5_come_120
      · skip
        refine ek_aln X 0 rfl dX5_come_54 ?_
        refine ek_get X hin_X5_come_X5 0 rfl rfl 18 (by decide) (List.mem_of_getElem? (i := 2) rfl) rfl dX5_come_55 ?_
        refine ek_il X 7 rfl dX5_come_58 ?_
        refine ek_aln X 0 rfl dX5_come_60 ?_
        refine ek_get X hin_X5_come_X5 0 rfl rfl 18 (by decide) (List.mem_of_getElem? (i := 2) rfl) rfl dX5_come_61 ?_
        refine ek_il X 7 rfl dX5_come_64 ?_
        refine ek_ic (v := nI 1) X (by decide) dX5_come_66 ?_
        refine ek_Nsub X (by omega) dX5_come_67 ?_
        refine ek_ald X 7 0 rfl rfl (by omega) (by omega) dX5_come_68 ?_
        refine ek_top (v' := nI (o (k - 1))) rfl ?_
        refine ek_Nast (w' := wT ad f cI ((eN o k (o (k - 1)), p, tPc t, tSy t), (tTh t, tBa t, tFi t, tHe t), (tWa t, tRu t, tCl t, tK t), (tCt t, tOr t, tLa t, tLt t), (tWo t, tPl t, tCh t, tWi t)) m) X 7 0 rfl rfl (by omega) (by omega) rfl dX5_come_69 ?_
        refine ek_aln X 0 rfl dX5_come_70 ?_
        refine ek_get X hin_X5_come_X5 0 rfl rfl 19 (by decide) (List.mem_of_getElem? (i := 3) rfl) rfl dX5_come_71 ?_
        refine ek_il X 7 rfl dX5_come_74 ?_
        refine ek_aln X 0 rfl dX5_come_76 ?_
        refine ek_get X hin_X5_come_X5 0 rfl rfl 19 (by decide) (List.mem_of_getElem? (i := 3) rfl) rfl dX5_come_77 ?_
        refine ek_il X 7 rfl dX5_come_80 ?_
        refine ek_ic (v := nI 1) X (by decide) dX5_come_82 ?_
        refine ek_Nsub X (by omega) dX5_come_83 ?_
        refine ek_ald X 8 0 rfl rfl (by omega) (by omega) dX5_come_84 ?_
        refine ek_top (v' := nI (p (k - 1))) rfl ?_
        refine ek_Nast (w' := wT ad f cI ((eN o k (o (k - 1)), eN p k (p (k - 1)), tPc t, tSy t), (tTh t, tBa t, tFi t, tHe t), (tWa t, tRu t, tCl t, tK t), (tCt t, tOr t, tLa t, tLt t), (tWo t, tPl t, tCh t, tWi t)) m) X 8 0 rfl rfl (by omega) (by omega) rfl dX5_come_85 ?_
        refine ek_Ndec (j := 7) (lv' := [(7, .int (nI (k - 1))), (0, .ref (ad f)), (1, .int (nI x)), (2, .int (nI c)), (3, .int (nI r)), (4, .int w), (5, .int (nI z)), (6, .int (nI n9))]) X (by omega) rfl (by decide) rfl dX5_come_86 ?_
        refine ek_goto X 35 (by decide) dX5_come_89 ?_
        refine ek_re [1, 2, 3, 4, 5, 6, 7, 0] rfl ?_
        exact ih_35 (k - 1, eN o k (o (k - 1)), eN p k (p (k - 1))) (show (k - 1) ≤ tWa t ∧ (∀ j9, (eN o k (o (k - 1))) j9 < 2147483648) ∧ tIns n9 z (k - 1) (eN o k (o (k - 1))) (eN p k (p (k - 1))) = tIns n9 z (tWa t) (tOd t) (tPw t) from (by obtain ⟨h1, h2, h3⟩ := ha_35; refine ⟨by omega, eN_lt h2 (h2 _), ?_⟩; obtain ⟨k, rfl⟩ : ∃ y, k = y + 1 := ⟨k - 1, by omega⟩; rw [← h3]; exact (tIns_step _ _ _ _ _ (by assumption)).symm)) (by show k - 1 < k; omega)
  · skip
    exact ek_retv X () ⟨rfl, trivial⟩ (congrArg (fun a => wT ad f cI a m) (tCome_far _ _ _ _ _ _ (by omega)).symm) dX5_come_7

theorem hin_X5_start_X5 : ∀ x ∈ wsX50, x ∈ wsX5_start := fun x h => List.mem_cons_of_mem _ (List.mem_append_right _ h)
abbrev rm_X5_start : Room := { frames := 2, cells := 0, slots := 0, locals := 39 }
set_option maxHeartbeats 4000000 in
set_option maxRecDepth 100000 in
theorem c_X5_start (l : Launch) (D : va_G) (cI cJ cR : ClassId) (ad : Nat → Nat) (f : Nat) (m : MdlT) (t : MsnT) (hM : mOk m) (x c p y z : Nat) (hx : x < 2147483648) (hc : c < 12) (hr : tRu t < 17) (hwa : tWa t < 629) (ho : ∀ j, tOd t j < 2147483648) : ek_M (S := Unit) l yX5_start wsX5_start rm_X5_start D (tyW cI cJ cR) nestW [.ref (ad f), .int (nI x), .int (nI c), .int (nI p), .int (nI y), .int (nI z)] (wT ad f cI t m) (fun r9 _ => r9 = none ∧ True) (fun _ => wT ad f cI (tStart x c p y z t) m) := by
  refine ek_M.of (cc := cX5_start) (maxL := 6) (ret := none) (by decide) rfl (Nat.le_of_ble_eq_true rfl) ?_
  intro p9 e9 s9 m9 args9 below9 meth9 c9 A X hin
  refine ek_castL (lv' := [(0, .ref (ad f)), (1, .int (nI x)), (2, .int (nI c)), (3, .int (nI p)), (4, .int (nI y)), (5, .int (nI z))]) rfl ?_
  refine ek_aln X 0 rfl dX5_start_0 ?_
  refine ek_get X hin_X5_start_X5 0 rfl rfl 14 (by decide) (List.mem_of_getElem? (i := 1) rfl) rfl dX5_start_1 ?_
  refine ek_aln X 0 rfl dX5_start_4 ?_
  refine ek_get X hin_X5_start_X5 0 rfl rfl 2 (by decide) (List.mem_of_getElem? (i := 2) rfl) rfl dX5_start_5 ?_
  refine ek_iln X 3 rfl dX5_start_8 ?_
  refine ek_Nast (w' := wT ad f cI ((tOd t, tPw t, eN (tPc t) (tRu t) p, tSy t), (tTh t, tBa t, tFi t, tHe t), (tWa t, tRu t, tCl t, tK t), (tCt t, tOr t, tLa t, tLt t), (tWo t, tPl t, tCh t, tWi t)) m) X 3 0 rfl rfl (by omega) (by omega) rfl dX5_start_9 ?_
  refine ek_aln X 0 rfl dX5_start_10 ?_
  refine ek_get X hin_X5_start_X5 0 rfl rfl 15 (by decide) (List.mem_of_getElem? (i := 3) rfl) rfl dX5_start_11 ?_
  refine ek_aln X 0 rfl dX5_start_14 ?_
  refine ek_get X hin_X5_start_X5 0 rfl rfl 2 (by decide) (List.mem_of_getElem? (i := 2) rfl) rfl dX5_start_15 ?_
  refine ek_top (v' := nI (tRu t)) rfl ?_
  refine ek_il X 4 rfl dX5_start_18 ?_
  refine ek_Nast (w' := wT ad f cI ((tOd t, tPw t, eN (tPc t) (tRu t) p, eN (tSy t) (tRu t) y), (tTh t, tBa t, tFi t, tHe t), (tWa t, tRu t, tCl t, tK t), (tCt t, tOr t, tLa t, tLt t), (tWo t, tPl t, tCh t, tWi t)) m) X 4 0 rfl rfl (by omega) (by omega) rfl dX5_start_20 ?_
  refine ek_aln X 0 rfl dX5_start_21 ?_
  refine ek_get X hin_X5_start_X5 0 rfl rfl 16 (by decide) (List.mem_of_getElem? (i := 4) rfl) rfl dX5_start_22 ?_
  refine ek_aln X 0 rfl dX5_start_25 ?_
  refine ek_get X hin_X5_start_X5 0 rfl rfl 2 (by decide) (List.mem_of_getElem? (i := 2) rfl) rfl dX5_start_26 ?_
  refine ek_top (v' := nI (tRu t)) rfl ?_
  refine ek_ic (v := nI 0) X (by decide) dX5_start_29 ?_
  refine ek_Nast (w' := wT ad f cI ((tOd t, tPw t, eN (tPc t) (tRu t) p, eN (tSy t) (tRu t) y), (eN (tTh t) (tRu t) 0, tBa t, tFi t, tHe t), (tWa t, tRu t, tCl t, tK t), (tCt t, tOr t, tLa t, tLt t), (tWo t, tPl t, tCh t, tWi t)) m) X 5 0 rfl rfl (by omega) (by omega) rfl dX5_start_30 ?_
  refine ek_aln X 0 rfl dX5_start_31 ?_
  refine ek_get X hin_X5_start_X5 0 rfl rfl 17 (by decide) (List.mem_of_getElem? (i := 5) rfl) rfl dX5_start_32 ?_
  refine ek_aln X 0 rfl dX5_start_35 ?_
  refine ek_get X hin_X5_start_X5 0 rfl rfl 2 (by decide) (List.mem_of_getElem? (i := 2) rfl) rfl dX5_start_36 ?_
  refine ek_top (v' := nI (tRu t)) rfl ?_
  refine ek_ic (v := nI 0) X (by decide) dX5_start_39 ?_
  refine ek_Nast (w' := wT ad f cI ((tOd t, tPw t, eN (tPc t) (tRu t) p, eN (tSy t) (tRu t) y), (eN (tTh t) (tRu t) 0, eN (tBa t) (tRu t) 0, tFi t, tHe t), (tWa t, tRu t, tCl t, tK t), (tCt t, tOr t, tLa t, tLt t), (tWo t, tPl t, tCh t, tWi t)) m) X 6 0 rfl rfl (by omega) (by omega) rfl dX5_start_40 ?_
  refine ek_aln X 0 rfl dX5_start_41 ?_
  refine ek_iln X 1 rfl dX5_start_42 ?_
  refine ek_iln X 2 rfl dX5_start_43 ?_
  refine ek_aln X 0 rfl dX5_start_44 ?_
  refine ek_get X hin_X5_start_X5 0 rfl rfl 2 (by decide) (List.mem_of_getElem? (i := 2) rfl) rfl dX5_start_45 ?_
  refine ek_top (v' := nI (tRu t)) rfl ?_
  refine ek_ic (v := -1) X (by decide) dX5_start_48 ?_
  refine ek_il X 5 rfl dX5_start_49 ?_
  refine ek_doWv X (ek_runV (As := [.int (nI x), .int (nI c), .int (nI (tRu t)), .int (-1), .int (nI z)]) (rest := []) X (c_X5_come l D cI cJ cR ad f m (((tOd t, tPw t, eN (tPc t) (tRu t) p, eN (tSy t) (tRu t) y), (eN (tTh t) (tRu t) 0, eN (tBa t) (tRu t) 0, tFi t, tHe t), (tWa t, tRu t, tCl t, tK t), (tCt t, tOr t, tLa t, tLt t), (tWo t, tPl t, tCh t, tWi t))) hM x c (tRu t) 0 z (-1) (by decide) (by omega) (by omega) (by omega) (by omega) hwa ho) gX5_start_X5_come rfl hdV_X5_come ⟨Nat.le_of_ble_eq_true rfl, Nat.le_of_ble_eq_true rfl⟩ ⟨Nat.le_of_ble_eq_true rfl, Nat.le_of_ble_eq_true rfl⟩ [0, 1, 2, 3, 4, 5, 6, 7, 8, 9, 10, 11] rfl (by decide) 0 5 rfl rfl (Nat.le_of_ble_eq_true rfl) dX5_start_51) [0, 1, 2, 3, 4, 5, 6, 7, 8, 9, 10, 11] [] rfl rfl (by decide) (by decide) (fun _ => wT ad f cI (tCome x c (tRu t) 0 z (((tOd t, tPw t, eN (tPc t) (tRu t) p, eN (tSy t) (tRu t) y), (eN (tTh t) (tRu t) 0, eN (tBa t) (tRu t) 0, tFi t, tHe t), (tWa t, tRu t, tCl t, tK t), (tCt t, tOr t, tLa t, tLt t), (tWo t, tPl t, tCh t, tWi t)))) m) [0, 1, 2, 3, 4, 5, 6, 7, 8, 9, 10, 11] (by decide) (fun _ => rfl) (fun u_51 hv_51 => ?_)
  refine ek_aln X 0 rfl dX5_start_54 ?_
  refine ek_dup X rfl dX5_start_55 ?_
  refine ek_get X hin_X5_start_X5 0 rfl rfl 2 (by decide) (List.mem_of_getElem? (i := 2) rfl) rfl dX5_start_56 ?_
  refine ek_ic (v := nI 1) X (by decide) dX5_start_59 ?_
  refine ek_Nadd X dX5_start_60 ?_
  refine ek_put (w' := wT ad f cI ((tOd (tCome x c (tRu t) 0 z (((tOd t, tPw t, eN (tPc t) (tRu t) p, eN (tSy t) (tRu t) y), (eN (tTh t) (tRu t) 0, eN (tBa t) (tRu t) 0, tFi t, tHe t), (tWa t, tRu t, tCl t, tK t), (tCt t, tOr t, tLa t, tLt t), (tWo t, tPl t, tCh t, tWi t)))), tPw (tCome x c (tRu t) 0 z (((tOd t, tPw t, eN (tPc t) (tRu t) p, eN (tSy t) (tRu t) y), (eN (tTh t) (tRu t) 0, eN (tBa t) (tRu t) 0, tFi t, tHe t), (tWa t, tRu t, tCl t, tK t), (tCt t, tOr t, tLa t, tLt t), (tWo t, tPl t, tCh t, tWi t)))), tPc (tCome x c (tRu t) 0 z (((tOd t, tPw t, eN (tPc t) (tRu t) p, eN (tSy t) (tRu t) y), (eN (tTh t) (tRu t) 0, eN (tBa t) (tRu t) 0, tFi t, tHe t), (tWa t, tRu t, tCl t, tK t), (tCt t, tOr t, tLa t, tLt t), (tWo t, tPl t, tCh t, tWi t)))), tSy (tCome x c (tRu t) 0 z (((tOd t, tPw t, eN (tPc t) (tRu t) p, eN (tSy t) (tRu t) y), (eN (tTh t) (tRu t) 0, eN (tBa t) (tRu t) 0, tFi t, tHe t), (tWa t, tRu t, tCl t, tK t), (tCt t, tOr t, tLa t, tLt t), (tWo t, tPl t, tCh t, tWi t))))), (tTh (tCome x c (tRu t) 0 z (((tOd t, tPw t, eN (tPc t) (tRu t) p, eN (tSy t) (tRu t) y), (eN (tTh t) (tRu t) 0, eN (tBa t) (tRu t) 0, tFi t, tHe t), (tWa t, tRu t, tCl t, tK t), (tCt t, tOr t, tLa t, tLt t), (tWo t, tPl t, tCh t, tWi t)))), tBa (tCome x c (tRu t) 0 z (((tOd t, tPw t, eN (tPc t) (tRu t) p, eN (tSy t) (tRu t) y), (eN (tTh t) (tRu t) 0, eN (tBa t) (tRu t) 0, tFi t, tHe t), (tWa t, tRu t, tCl t, tK t), (tCt t, tOr t, tLa t, tLt t), (tWo t, tPl t, tCh t, tWi t)))), tFi (tCome x c (tRu t) 0 z (((tOd t, tPw t, eN (tPc t) (tRu t) p, eN (tSy t) (tRu t) y), (eN (tTh t) (tRu t) 0, eN (tBa t) (tRu t) 0, tFi t, tHe t), (tWa t, tRu t, tCl t, tK t), (tCt t, tOr t, tLa t, tLt t), (tWo t, tPl t, tCh t, tWi t)))), tHe (tCome x c (tRu t) 0 z (((tOd t, tPw t, eN (tPc t) (tRu t) p, eN (tSy t) (tRu t) y), (eN (tTh t) (tRu t) 0, eN (tBa t) (tRu t) 0, tFi t, tHe t), (tWa t, tRu t, tCl t, tK t), (tCt t, tOr t, tLa t, tLt t), (tWo t, tPl t, tCh t, tWi t))))), (tWa (tCome x c (tRu t) 0 z (((tOd t, tPw t, eN (tPc t) (tRu t) p, eN (tSy t) (tRu t) y), (eN (tTh t) (tRu t) 0, eN (tBa t) (tRu t) 0, tFi t, tHe t), (tWa t, tRu t, tCl t, tK t), (tCt t, tOr t, tLa t, tLt t), (tWo t, tPl t, tCh t, tWi t)))), (tRu (tCome x c (tRu t) 0 z (((tOd t, tPw t, eN (tPc t) (tRu t) p, eN (tSy t) (tRu t) y), (eN (tTh t) (tRu t) 0, eN (tBa t) (tRu t) 0, tFi t, tHe t), (tWa t, tRu t, tCl t, tK t), (tCt t, tOr t, tLa t, tLt t), (tWo t, tPl t, tCh t, tWi t))))) + 1, tCl (tCome x c (tRu t) 0 z (((tOd t, tPw t, eN (tPc t) (tRu t) p, eN (tSy t) (tRu t) y), (eN (tTh t) (tRu t) 0, eN (tBa t) (tRu t) 0, tFi t, tHe t), (tWa t, tRu t, tCl t, tK t), (tCt t, tOr t, tLa t, tLt t), (tWo t, tPl t, tCh t, tWi t)))), tK (tCome x c (tRu t) 0 z (((tOd t, tPw t, eN (tPc t) (tRu t) p, eN (tSy t) (tRu t) y), (eN (tTh t) (tRu t) 0, eN (tBa t) (tRu t) 0, tFi t, tHe t), (tWa t, tRu t, tCl t, tK t), (tCt t, tOr t, tLa t, tLt t), (tWo t, tPl t, tCh t, tWi t))))), (tCt (tCome x c (tRu t) 0 z (((tOd t, tPw t, eN (tPc t) (tRu t) p, eN (tSy t) (tRu t) y), (eN (tTh t) (tRu t) 0, eN (tBa t) (tRu t) 0, tFi t, tHe t), (tWa t, tRu t, tCl t, tK t), (tCt t, tOr t, tLa t, tLt t), (tWo t, tPl t, tCh t, tWi t)))), tOr (tCome x c (tRu t) 0 z (((tOd t, tPw t, eN (tPc t) (tRu t) p, eN (tSy t) (tRu t) y), (eN (tTh t) (tRu t) 0, eN (tBa t) (tRu t) 0, tFi t, tHe t), (tWa t, tRu t, tCl t, tK t), (tCt t, tOr t, tLa t, tLt t), (tWo t, tPl t, tCh t, tWi t)))), tLa (tCome x c (tRu t) 0 z (((tOd t, tPw t, eN (tPc t) (tRu t) p, eN (tSy t) (tRu t) y), (eN (tTh t) (tRu t) 0, eN (tBa t) (tRu t) 0, tFi t, tHe t), (tWa t, tRu t, tCl t, tK t), (tCt t, tOr t, tLa t, tLt t), (tWo t, tPl t, tCh t, tWi t)))), tLt (tCome x c (tRu t) 0 z (((tOd t, tPw t, eN (tPc t) (tRu t) p, eN (tSy t) (tRu t) y), (eN (tTh t) (tRu t) 0, eN (tBa t) (tRu t) 0, tFi t, tHe t), (tWa t, tRu t, tCl t, tK t), (tCt t, tOr t, tLa t, tLt t), (tWo t, tPl t, tCh t, tWi t))))), (tWo (tCome x c (tRu t) 0 z (((tOd t, tPw t, eN (tPc t) (tRu t) p, eN (tSy t) (tRu t) y), (eN (tTh t) (tRu t) 0, eN (tBa t) (tRu t) 0, tFi t, tHe t), (tWa t, tRu t, tCl t, tK t), (tCt t, tOr t, tLa t, tLt t), (tWo t, tPl t, tCh t, tWi t)))), tPl (tCome x c (tRu t) 0 z (((tOd t, tPw t, eN (tPc t) (tRu t) p, eN (tSy t) (tRu t) y), (eN (tTh t) (tRu t) 0, eN (tBa t) (tRu t) 0, tFi t, tHe t), (tWa t, tRu t, tCl t, tK t), (tCt t, tOr t, tLa t, tLt t), (tWo t, tPl t, tCh t, tWi t)))), tCh (tCome x c (tRu t) 0 z (((tOd t, tPw t, eN (tPc t) (tRu t) p, eN (tSy t) (tRu t) y), (eN (tTh t) (tRu t) 0, eN (tBa t) (tRu t) 0, tFi t, tHe t), (tWa t, tRu t, tCl t, tK t), (tCt t, tOr t, tLa t, tLt t), (tWo t, tPl t, tCh t, tWi t)))), tWi (tCome x c (tRu t) 0 z (((tOd t, tPw t, eN (tPc t) (tRu t) p, eN (tSy t) (tRu t) y), (eN (tTh t) (tRu t) 0, eN (tBa t) (tRu t) 0, tFi t, tHe t), (tWa t, tRu t, tCl t, tK t), (tCt t, tOr t, tLa t, tLt t), (tWo t, tPl t, tCh t, tWi t)))))) m) X hin_X5_start_X5 tyX5 tyX5_ok nmX5 0 rfl rfl 2 (by decide) (List.mem_of_getElem? (i := 2) rfl) rfl rfl rfl rfl (Nat.le_of_ble_eq_true rfl) rfl dX5_start_61 ?_
  exact ek_retv X () ⟨rfl, trivial⟩ rfl dX5_start_64
