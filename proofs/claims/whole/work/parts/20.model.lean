/-! ===== EchoCaveModel: its worlds ===== -/
def wM (ad : Nat → Nat) (cI : ClassId) (m : MdlT) : va_W := [
  (ad 50, .inr (6, [.int (nI (mTh m)), .int (nI (mC m)), .int (nI (mP m)), .int (nI (mW m)), .int (nI (mEar m)), .int (nI (mSaid m)), .ref (ad 51), .ref (ad 52), .ref (ad 60), .ref (ad 70)])),
  (ad 51, .inl (cI, 60, .inl (fun j => nI (mRo m j)))),
  (ad 52, .inl (cI, 72, .inl (fun j => nI (mTu m j))))]
def wT (ad : Nat → Nat) (f : Nat) (cI : ClassId) (t : MsnT) (m : MdlT) : va_W := [
  (ad f, .inr (5, [.int (nI (tWo t)), .int (nI (tPl t)), .int (nI (tRu t)), .int (nI (tK t)), .int (nI (tCt t)), .int (nI (tOr t)), .int (tLa t), .int (nI (tWa t)), .int (nI (tCl t)), .int (tCh t), .int (nI (tWi t)), .int (nI (tLt t)), .ref (ad (f + 1)), .ref (ad (f + 2)), .ref (ad (f + 3)), .ref (ad (f + 4)), .ref (ad (f + 5)), .ref (ad (f + 6)), .ref (ad (f + 7)), .ref (ad (f + 8)), .ref (ad 50)])),
  (ad (f + 1), .inl (cI, 6, .inl (tFi t))),
  (ad (f + 2), .inl (cI, 300, .inl (fun j => nI (tHe t j)))),
  (ad (f + 3), .inl (cI, 17, .inl (fun j => nI (tPc t j)))),
  (ad (f + 4), .inl (cI, 17, .inl (fun j => nI (tSy t j)))),
  (ad (f + 5), .inl (cI, 17, .inl (fun j => nI (tTh t j)))),
  (ad (f + 6), .inl (cI, 17, .inl (fun j => nI (tBa t j)))),
  (ad (f + 7), .inl (cI, 629, .inl (fun j => nI (tOd t j)))),
  (ad (f + 8), .inl (cI, 629, .inl (fun j => nI (tPw t j)))),
  (ad 50, .inr (6, [.int (nI (mTh m)), .int (nI (mC m)), .int (nI (mP m)), .int (nI (mW m)), .int (nI (mEar m)), .int (nI (mSaid m)), .ref (ad 51), .ref (ad 52), .ref (ad 60), .ref (ad 70)])),
  (ad 51, .inl (cI, 60, .inl (fun j => nI (mRo m j)))),
  (ad 52, .inl (cI, 72, .inl (fun j => nI (mTu m j))))]
/-- bounds of the reference's cave -/
def mOk (m : MdlT) : Prop := (1 ≤ mC m ∧ mC m ≤ 12) ∧ mP m ≤ 18 ∧ mW m ≤ 30 ∧ mEar m ≤ 50 ∧ mTh m ≤ 3 ∧ mSaid m ≤ 512 ∧ (∀ j, mRo m j ≤ 100) ∧ ∀ j, mTu m j < 12
abbrev mOpen (m : MdlT) (i x : Nat) : Prop := x ≤ mRo m (5 * mTu m (4 * i) + 1) ∧ x ≤ mRo m (5 * mTu m (4 * i + 1) + 1)
abbrev mTouch (m : MdlT) (i c : Nat) : Prop := mTu m (4 * i) = c ∨ mTu m (4 * i + 1) = c

abbrev rm_X6_isIn : Room := { frames := 1, cells := 0, slots := 0, locals := 12 }
set_option maxHeartbeats 4000000 in
set_option maxRecDepth 100000 in
theorem c_X6_isIn (l : Launch) (D : va_G) (cI cJ cR : ClassId) (x lo hi : Int32) : ek_R l yX6_isIn wsX6_isIn rm_X6_isIn D (tyW cI cJ cR) nestW [.int x, .int lo, .int hi] ([]) (fun r9 => ∃ v : Int32, r9 = some (.int v) ∧ v = nI (if lo ≤ x ∧ x ≤ hi then 1 else 0)) := by
  refine ek_R.of (cc := cX6_isIn) (maxL := 3) (ret := (some .boolean)) (by decide) rfl (Nat.le_of_ble_eq_true rfl) ?_
  intro p9 e9 s9 m9 args9 below9 meth9 c9 X
  refine ek_castL (lv' := [(0, .int x), (1, .int lo), (2, .int hi)]) rfl ?_
  refine ek_iln X 0 rfl dX6_isIn_0 ?_
  refine ek_iln X 1 rfl dX6_isIn_1 ?_
  refine ek_icmp_lt X 14 (by decide) dX6_isIn_2 (fun c_2 => ?_) (fun c_2 => ?_)
  · skip
    refine ek_ic (v := nI 0) X (by decide) dX6_isIn_14 ?_
    exact ek_retzR X (by decide) ⟨_, rfl, (by first | exact (congrArg nI (if_pos ⟨Int32.not_lt.mp c_2, Int32.not_lt.mp c_7⟩)).symm | exact (congrArg nI (if_neg (fun h => Int32.not_lt.mpr h.1 c_2))).symm | exact (congrArg nI (if_neg (fun h => Int32.not_lt.mpr h.2 c_7))).symm)⟩ dX6_isIn_15
  · skip
    refine ek_iln X 0 rfl dX6_isIn_5 ?_
    refine ek_iln X 2 rfl dX6_isIn_6 ?_
    refine ek_icmp_gt X 14 (by decide) dX6_isIn_7 (fun c_7 => ?_) (fun c_7 => ?_)
    · skip
      refine ek_ic (v := nI 0) X (by decide) dX6_isIn_14 ?_
      exact ek_retzR X (by decide) ⟨_, rfl, (by first | exact (congrArg nI (if_pos ⟨Int32.not_lt.mp c_2, Int32.not_lt.mp c_7⟩)).symm | exact (congrArg nI (if_neg (fun h => Int32.not_lt.mpr h.1 c_2))).symm | exact (congrArg nI (if_neg (fun h => Int32.not_lt.mpr h.2 c_7))).symm)⟩ dX6_isIn_15
    · skip
      refine ek_ic (v := nI 1) X (by decide) dX6_isIn_10 ?_
      refine ek_goto X 15 (by decide) dX6_isIn_11 ?_
      exact ek_retzR X (by decide) ⟨_, rfl, (by first | exact (congrArg nI (if_pos ⟨Int32.not_lt.mp c_2, Int32.not_lt.mp c_7⟩)).symm | exact (congrArg nI (if_neg (fun h => Int32.not_lt.mpr h.1 c_2))).symm | exact (congrArg nI (if_neg (fun h => Int32.not_lt.mpr h.2 c_7))).symm)⟩ dX6_isIn_15

theorem hin_X6_isChamber_X6 : ∀ x ∈ wsX60, x ∈ wsX6_isChamber := fun x h => List.mem_cons_of_mem _ (List.mem_append_right _ h)
abbrev rm_X6_isChamber : Room := { frames := 2, cells := 0, slots := 0, locals := 34 }
set_option maxHeartbeats 4000000 in
set_option maxRecDepth 100000 in
theorem c_X6_isChamber (l : Launch) (D : va_G) (cI cJ cR : ClassId) (ad : Nat → Nat) (m : MdlT) (hM : mOk m) (x : Int32) : ek_R l yX6_isChamber wsX6_isChamber rm_X6_isChamber D (tyW cI cJ cR) nestW [.ref (ad 50), .int x] (wM ad cI m) (fun r9 => ∃ v : Int32, r9 = some (.int v) ∧ v = nI (if nI 0 ≤ x ∧ x ≤ nI (mC m - 1) then 1 else 0)) := by
  refine ek_R.of (cc := cX6_isChamber) (maxL := 2) (ret := (some .boolean)) (by decide) rfl (Nat.le_of_ble_eq_true rfl) ?_
  intro p9 e9 s9 m9 args9 below9 meth9 c9 X
  obtain ⟨⟨mC1, mC2⟩, mPs, mWs, mEs, mTs, mSs, mRs, mTl⟩ := id hM
  refine ek_castL (lv' := [(0, .ref (ad 50)), (1, .int x)]) rfl ?_
  refine ek_iln X 1 rfl dX6_isChamber_0 ?_
  refine ek_ic (v := nI 0) X (by decide) dX6_isChamber_1 ?_
  refine ek_aln X 0 rfl dX6_isChamber_2 ?_
  refine ek_get X hin_X6_isChamber_X6 0 rfl rfl 1 (by decide) (List.mem_of_getElem? (i := 1) rfl) rfl dX6_isChamber_3 ?_
  refine ek_ic (v := nI 1) X (by decide) dX6_isChamber_6 ?_
  refine ek_Nsub X (by omega) dX6_isChamber_7 ?_
  refine ek_doRi (ek_runS (As := [.int x, .int (nI 0), .int (nI ((mC m) - 1))]) (rest := []) X (c_X6_isIn l D cI cJ cR (x) (nI 0) (nI ((mC m) - 1))) gX6_isChamber_X6_isIn rfl hd_X6_isIn ⟨Nat.le_of_ble_eq_true rfl, Nat.le_of_ble_eq_true rfl⟩ ⟨Nat.le_of_ble_eq_true rfl, Nat.le_of_ble_eq_true rfl⟩ [] rfl (by decide) (Nat.le_of_ble_eq_true rfl) dX6_isChamber_8) (fun v_8 hv_8 => ?_)
  subst hv_8
  by_cases c_8 : nI 0 ≤ x ∧ x ≤ nI ((mC m) - 1)
  · refine ek_top (v' := nI 1) (congrArg nI (if_pos c_8)) ?_
    exact ek_retzR X (by decide) ⟨_, rfl, (by first | exact (congrArg nI (if_pos (by assumption))).symm | exact (congrArg nI (if_neg (by assumption))).symm)⟩ dX6_isChamber_11
  · refine ek_top (v' := nI 0) (congrArg nI (if_neg c_8)) ?_
    exact ek_retzR X (by decide) ⟨_, rfl, (by first | exact (congrArg nI (if_pos (by assumption))).symm | exact (congrArg nI (if_neg (by assumption))).symm)⟩ dX6_isChamber_11

theorem hin_X6_touches_X6 : ∀ x ∈ wsX60, x ∈ wsX6_touches := fun x h => List.mem_cons_of_mem _ (List.mem_append_right _ h)
abbrev rm_X6_touches : Room := { frames := 1, cells := 0, slots := 0, locals := 12 }
set_option maxHeartbeats 4000000 in
set_option maxRecDepth 100000 in
theorem c_X6_touches (l : Launch) (D : va_G) (cI cJ cR : ClassId) (ad : Nat → Nat) (m : MdlT) (hM : mOk m) (i c : Nat) (hi : i < 18) (hc : c < 2147483648) : ek_R l yX6_touches wsX6_touches rm_X6_touches D (tyW cI cJ cR) nestW [.ref (ad 50), .int (nI i), .int (nI c)] (wM ad cI m) (fun r9 => ∃ v : Int32, r9 = some (.int v) ∧ v = nI (if mTouch m i c then 1 else 0)) := by
  refine ek_R.of (cc := cX6_touches) (maxL := 3) (ret := (some .boolean)) (by decide) rfl (Nat.le_of_ble_eq_true rfl) ?_
  intro p9 e9 s9 m9 args9 below9 meth9 c9 X
  obtain ⟨⟨mC1, mC2⟩, mPs, mWs, mEs, mTs, mSs, mRs, mTl⟩ := id hM
  refine ek_castL (lv' := [(0, .ref (ad 50)), (1, .int (nI i)), (2, .int (nI c))]) rfl ?_
  refine ek_aln X 0 rfl dX6_touches_0 ?_
  refine ek_get X hin_X6_touches_X6 0 rfl rfl 7 (by decide) (List.mem_of_getElem? (i := 1) rfl) rfl dX6_touches_1 ?_
  refine ek_ic (v := nI 4) X (by decide) dX6_touches_4 ?_
  refine ek_iln X 1 rfl dX6_touches_5 ?_
  refine ek_Nmul X dX6_touches_6 ?_
  refine ek_ald X 2 0 rfl rfl (by omega) (by omega) dX6_touches_7 ?_
  have b1_7 := mTl (4 * i)
  refine ek_iln X 2 rfl dX6_touches_8 ?_
  refine ek_Neq X (by omega) (by omega) 26 (by decide) dX6_touches_9 (fun c_9 => ?_) (fun c_9 => ?_)
  · skip
    refine ek_ic (v := nI 1) X (by decide) dX6_touches_26 ?_
    refine ek_goto X 31 (by decide) dX6_touches_27 ?_
    exact ek_retzR X (by decide) ⟨_, rfl, (by first | exact (congrArg nI (if_pos (by omega))).symm | exact (congrArg nI (if_neg (by omega))).symm)⟩ dX6_touches_31
  · skip
    refine ek_aln X 0 rfl dX6_touches_12 ?_
    refine ek_get X hin_X6_touches_X6 0 rfl rfl 7 (by decide) (List.mem_of_getElem? (i := 1) rfl) rfl dX6_touches_13 ?_
    refine ek_ic (v := nI 4) X (by decide) dX6_touches_16 ?_
    refine ek_iln X 1 rfl dX6_touches_17 ?_
    refine ek_Nmul X dX6_touches_18 ?_
    refine ek_ic (v := nI 1) X (by decide) dX6_touches_19 ?_
    refine ek_Nadd X dX6_touches_20 ?_
    refine ek_ald X 2 0 rfl rfl (by omega) (by omega) dX6_touches_21 ?_
    have b2_21 := mTl ((4 * i) + 1)
    refine ek_iln X 2 rfl dX6_touches_22 ?_
    refine ek_Nne X (by omega) (by omega) 30 (by decide) dX6_touches_23 (fun c_23 => ?_) (fun c_23 => ?_)
    · skip
      refine ek_ic (v := nI 0) X (by decide) dX6_touches_30 ?_
      exact ek_retzR X (by decide) ⟨_, rfl, (by first | exact (congrArg nI (if_pos (by omega))).symm | exact (congrArg nI (if_neg (by omega))).symm)⟩ dX6_touches_31
    · skip
      refine ek_ic (v := nI 1) X (by decide) dX6_touches_26 ?_
      refine ek_goto X 31 (by decide) dX6_touches_27 ?_
      exact ek_retzR X (by decide) ⟨_, rfl, (by first | exact (congrArg nI (if_pos (by omega))).symm | exact (congrArg nI (if_neg (by omega))).symm)⟩ dX6_touches_31

theorem hin_X6_isOpen_X6 : ∀ x ∈ wsX60, x ∈ wsX6_isOpen := fun x h => List.mem_cons_of_mem _ (List.mem_append_right _ h)
abbrev rm_X6_isOpen : Room := { frames := 1, cells := 0, slots := 0, locals := 12 }
set_option maxHeartbeats 4000000 in
set_option maxRecDepth 100000 in
theorem c_X6_isOpen (l : Launch) (D : va_G) (cI cJ cR : ClassId) (ad : Nat → Nat) (m : MdlT) (hM : mOk m) (i x : Nat) (hi : i < 18) (hx : x < 2147483648) : ek_R l yX6_isOpen wsX6_isOpen rm_X6_isOpen D (tyW cI cJ cR) nestW [.ref (ad 50), .int (nI i), .int (nI x)] (wM ad cI m) (fun r9 => ∃ v : Int32, r9 = some (.int v) ∧ v = nI (if mOpen m i x then 1 else 0)) := by
  refine ek_R.of (cc := cX6_isOpen) (maxL := 3) (ret := (some .boolean)) (by decide) rfl (Nat.le_of_ble_eq_true rfl) ?_
  intro p9 e9 s9 m9 args9 below9 meth9 c9 X
  obtain ⟨⟨mC1, mC2⟩, mPs, mWs, mEs, mTs, mSs, mRs, mTl⟩ := id hM
  refine ek_castL (lv' := [(0, .ref (ad 50)), (1, .int (nI i)), (2, .int (nI x))]) rfl ?_
  refine ek_aln X 0 rfl dX6_isOpen_0 ?_
  refine ek_get X hin_X6_isOpen_X6 0 rfl rfl 6 (by decide) (List.mem_of_getElem? (i := 1) rfl) rfl dX6_isOpen_1 ?_
  refine ek_ic (v := nI 5) X (by decide) dX6_isOpen_4 ?_
  refine ek_aln X 0 rfl dX6_isOpen_5 ?_
  refine ek_get X hin_X6_isOpen_X6 0 rfl rfl 7 (by decide) (List.mem_of_getElem? (i := 2) rfl) rfl dX6_isOpen_6 ?_
  refine ek_ic (v := nI 4) X (by decide) dX6_isOpen_9 ?_
  refine ek_iln X 1 rfl dX6_isOpen_10 ?_
  refine ek_Nmul X dX6_isOpen_11 ?_
  refine ek_ald X 2 0 rfl rfl (by omega) (by omega) dX6_isOpen_12 ?_
  have b1_12 := mTl (4 * i)
  refine ek_Nmul X dX6_isOpen_13 ?_
  refine ek_ic (v := nI 1) X (by decide) dX6_isOpen_14 ?_
  refine ek_Nadd X dX6_isOpen_15 ?_
  refine ek_ald X 1 0 rfl rfl (by omega) (by omega) dX6_isOpen_16 ?_
  have b2_16 := mRs ((5 * ((mTu m) (4 * i))) + 1)
  refine ek_iln X 2 rfl dX6_isOpen_17 ?_
  refine ek_Nlt X (by omega) (by omega) 48 (by decide) dX6_isOpen_18 (fun c_18 => ?_) (fun c_18 => ?_)
  · skip
    refine ek_ic (v := nI 0) X (by decide) dX6_isOpen_48 ?_
    exact ek_retzR X (by decide) ⟨_, rfl, (by first | exact (congrArg nI (if_pos (by omega))).symm | exact (congrArg nI (if_neg (by omega))).symm)⟩ dX6_isOpen_49
  · skip
    refine ek_aln X 0 rfl dX6_isOpen_21 ?_
    refine ek_get X hin_X6_isOpen_X6 0 rfl rfl 6 (by decide) (List.mem_of_getElem? (i := 1) rfl) rfl dX6_isOpen_22 ?_
    refine ek_ic (v := nI 5) X (by decide) dX6_isOpen_25 ?_
    refine ek_aln X 0 rfl dX6_isOpen_26 ?_
    refine ek_get X hin_X6_isOpen_X6 0 rfl rfl 7 (by decide) (List.mem_of_getElem? (i := 2) rfl) rfl dX6_isOpen_27 ?_
    refine ek_ic (v := nI 4) X (by decide) dX6_isOpen_30 ?_
    refine ek_iln X 1 rfl dX6_isOpen_31 ?_
    refine ek_Nmul X dX6_isOpen_32 ?_
    refine ek_ic (v := nI 1) X (by decide) dX6_isOpen_33 ?_
    refine ek_Nadd X dX6_isOpen_34 ?_
    refine ek_ald X 2 0 rfl rfl (by omega) (by omega) dX6_isOpen_35 ?_
    have b3_35 := mTl ((4 * i) + 1)
    refine ek_Nmul X dX6_isOpen_36 ?_
    refine ek_ic (v := nI 1) X (by decide) dX6_isOpen_37 ?_
    refine ek_Nadd X dX6_isOpen_38 ?_
    refine ek_ald X 1 0 rfl rfl (by omega) (by omega) dX6_isOpen_39 ?_
    have b4_39 := mRs ((5 * ((mTu m) ((4 * i) + 1))) + 1)
    refine ek_iln X 2 rfl dX6_isOpen_40 ?_
    refine ek_Nlt X (by omega) (by omega) 48 (by decide) dX6_isOpen_41 (fun c_41 => ?_) (fun c_41 => ?_)
    · skip
      refine ek_ic (v := nI 0) X (by decide) dX6_isOpen_48 ?_
      exact ek_retzR X (by decide) ⟨_, rfl, (by first | exact (congrArg nI (if_pos (by omega))).symm | exact (congrArg nI (if_neg (by omega))).symm)⟩ dX6_isOpen_49
    · skip
      refine ek_ic (v := nI 1) X (by decide) dX6_isOpen_44 ?_
      refine ek_goto X 49 (by decide) dX6_isOpen_45 ?_
      exact ek_retzR X (by decide) ⟨_, rfl, (by first | exact (congrArg nI (if_pos (by omega))).symm | exact (congrArg nI (if_neg (by omega))).symm)⟩ dX6_isOpen_49

/-! ===== EchoCaveModel.Sound ===== -/
def tIns (n z : Nat) : Nat → (Nat → Nat) → (Nat → Nat) → (Nat → Nat) × (Nat → Nat)
  | 0, o, p => (eN o 0 n, eN p 0 z)
  | k + 1, o, p => if o k < n then tIns n z k (eN o (k + 1) (o k)) (eN p (k + 1) (p k)) else (eN o (k + 1) n, eN p (k + 1) z)
abbrev kR (t c r b : Nat) : Nat := ((t * 12 + c) * 17 + r) * 19 + b
def tCome (x c r b z : Nat) (t : MsnT) : MsnT := if 200 < x then t else (((tIns (kR x c r b) z (tWa t) (tOd t) (tPw t)).1, (tIns (kR x c r b) z (tWa t) (tOd t) (tPw t)).2, tPc t, tSy t), (tTh t, tBa t, tFi t, tHe t), (tWa t + 1, tRu t, tCl t, tK t), (tCt t, tOr t, tLa t, tLt t), (tWo t, tPl t, tCh t, tWi t))
def tNew (p y : Nat) (t : MsnT) : MsnT := ((tOd t, tPw t, eN (tPc t) (tRu t) p, eN (tSy t) (tRu t) y), (eN (tTh t) (tRu t) 0, eN (tBa t) (tRu t) 0, tFi t, tHe t), (tWa t, tRu t, tCl t, tK t), (tCt t, tOr t, tLa t, tLt t), (tWo t, tPl t, tCh t, tWi t))
def tMore (t : MsnT) : MsnT := ((tOd t, tPw t, tPc t, tSy t), (tTh t, tBa t, tFi t, tHe t), (tWa t, tRu t + 1, tCl t, tK t), (tCt t, tOr t, tLa t, tLt t), (tWo t, tPl t, tCh t, tWi t))
def tStart (x c p y z : Nat) (t : MsnT) : MsnT := tMore (tCome x c (tRu t) 0 z (tNew p y t))
theorem tIns_step (n z k : Nat) (o p : Nat → Nat) (h : o k < n) : tIns n z (k + 1) o p = tIns n z k (eN o (k + 1) (o k)) (eN p (k + 1) (p k)) := if_pos h
theorem tIns_stop (n z k : Nat) (o p : Nat → Nat) (h : k = 0 ∨ ∃ j, k = j + 1 ∧ ¬ o j < n) : tIns n z k o p = (eN o k n, eN p k z) := by
  rcases h with rfl | ⟨j, rfl, h⟩
  · rfl
  · exact if_neg h
theorem tCome_far (x c r b z : Nat) (t : MsnT) (h : 200 < x) : tCome x c r b z t = t := if_pos h
theorem tCome_near (x c r b z n k : Nat) (t : MsnT) (o p : Nat → Nat) (hn : n = kR x c r b) (h : ¬ 200 < x) (h2 : tIns n z k o p = tIns n z (tWa t) (tOd t) (tPw t)) (h3 : k = 0 ∨ ∃ j, k = j + 1 ∧ ¬ o j < n) : tCome x c r b z t = ((eN o k n, eN p k z, tPc t, tSy t), (tTh t, tBa t, tFi t, tHe t), (tWa t + 1, tRu t, tCl t, tK t), (tCt t, tOr t, tLa t, tLt t), (tWo t, tPl t, tCh t, tWi t)) := by
  subst hn
  unfold tCome
  rw [if_neg h, ← h2, tIns_stop _ _ _ _ _ h3]
theorem tIns_at (n z : Nat) : ∀ (k : Nat) (o p : Nat → Nat) (M : Nat), n < M → (∀ j, o j < M) → ∀ j, (tIns n z k o p).1 j < M
  | 0, o, p, M, h1, h2, j => eN_lt h2 h1 j
  | k + 1, o, p, M, h1, h2, j => by
    unfold tIns
    split
    · exact tIns_at n z k _ _ M h1 (eN_lt h2 (h2 k)) j
    · exact eN_lt h2 h1 j

theorem hin_X5_instead_X5 : ∀ x ∈ wsX50, x ∈ wsX5_instead := fun x h => List.mem_cons_of_mem _ (List.mem_append_right _ h)
abbrev rm_X5_instead : Room := { frames := 1, cells := 0, slots := 0, locals := 12 }
set_option maxHeartbeats 4000000 in
set_option maxRecDepth 100000 in
theorem c_X5_instead (l : Launch) (D : va_G) (cI cJ cR : ClassId) (ad : Nat → Nat) (f : Nat) (m : MdlT) (t : MsnT) (x : Int32) (y d : Nat) : ek_M (S := Unit) l yX5_instead wsX5_instead rm_X5_instead D (tyW cI cJ cR) nestW [.ref (ad f), .int x, .int (nI y), .int (nI d)] (wT ad f cI t m) (fun r9 _ => r9 = none ∧ True) (fun _ => wT ad f cI ((tOd t, tPw t, tPc t, tSy t), (tTh t, tBa t, tFi t, tHe t), (tWa t, tRu t, tCl t, tK t), (tCt t, tOr t, tLa t, d), (tWo t, tPl t, x, y)) m) := by
  refine ek_M.of (cc := cX5_instead) (maxL := 4) (ret := none) (by decide) rfl (Nat.le_of_ble_eq_true rfl) ?_
  intro p9 e9 s9 m9 args9 below9 meth9 c9 A X hin
  refine ek_castL (lv' := [(0, .ref (ad f)), (1, .int x), (2, .int (nI y)), (3, .int (nI d))]) rfl ?_
  refine ek_aln X 0 rfl dX5_instead_0 ?_
  refine ek_iln X 1 rfl dX5_instead_1 ?_
  refine ek_put (w' := wT ad f cI ((tOd t, tPw t, tPc t, tSy t), (tTh t, tBa t, tFi t, tHe t), (tWa t, tRu t, tCl t, tK t), (tCt t, tOr t, tLa t, tLt t), (tWo t, tPl t, x, tWi t)) m) X hin_X5_instead_X5 tyX5 tyX5_ok nmX5 0 rfl rfl 9 (by decide) (List.mem_of_getElem? (i := 1) rfl) rfl rfl rfl rfl (Nat.le_of_ble_eq_true rfl) rfl dX5_instead_2 ?_
  refine ek_aln X 0 rfl dX5_instead_5 ?_
  refine ek_iln X 2 rfl dX5_instead_6 ?_
  refine ek_put (w' := wT ad f cI ((tOd t, tPw t, tPc t, tSy t), (tTh t, tBa t, tFi t, tHe t), (tWa t, tRu t, tCl t, tK t), (tCt t, tOr t, tLa t, tLt t), (tWo t, tPl t, x, y)) m) X hin_X5_instead_X5 tyX5 tyX5_ok nmX5 0 rfl rfl 10 (by decide) (List.mem_of_getElem? (i := 2) rfl) rfl rfl rfl rfl (Nat.le_of_ble_eq_true rfl) rfl dX5_instead_7 ?_
  refine ek_aln X 0 rfl dX5_instead_10 ?_
  refine ek_iln X 3 rfl dX5_instead_11 ?_
  refine ek_put (w' := wT ad f cI ((tOd t, tPw t, tPc t, tSy t), (tTh t, tBa t, tFi t, tHe t), (tWa t, tRu t, tCl t, tK t), (tCt t, tOr t, tLa t, d), (tWo t, tPl t, x, y)) m) X hin_X5_instead_X5 tyX5 tyX5_ok nmX5 0 rfl rfl 11 (by decide) (List.mem_of_getElem? (i := 3) rfl) rfl rfl rfl rfl (Nat.le_of_ble_eq_true rfl) rfl dX5_instead_12 ?_
  exact ek_retv X () ⟨rfl, trivial⟩ rfl dX5_instead_15

theorem hin_X5_come_X5 : ∀ x ∈ wsX50, x ∈ wsX5_come := fun x h => List.mem_cons_of_mem _ (List.mem_append_right _ h)
abbrev rm_X5_come : Room := { frames := 1, cells := 0, slots := 0, locals := 12 }
set_option maxHeartbeats 4000000 in
set_option maxRecDepth 100000 in
theorem c_X5_come (l : Launch) (D : va_G) (cI cJ cR : ClassId) (ad : Nat → Nat) (f : Nat) (m : MdlT) (t : MsnT) (hM : mOk m) (x c r b z : Nat) (w : Int32) (hw : w + nI 1 = nI b) (hx : x < 2147483648) (hc : c < 12) (hr : r < 17) (hb : b < 19) (hwa : tWa t < 629) (ho : ∀ j, tOd t j < 2147483648) : ek_M (S := Unit) l yX5_come wsX5_come rm_X5_come D (tyW cI cJ cR) nestW [.ref (ad f), .int (nI x), .int (nI c), .int (nI r), .int w, .int (nI z)] (wT ad f cI t m) (fun r9 _ => r9 = none ∧ True) (fun _ => wT ad f cI (tCome x c r b z t) m) := by
  refine ek_M.of (cc := cX5_come) (maxL := 8) (ret := none) (by decide) rfl (Nat.le_of_ble_eq_true rfl) ?_
  intro p9 e9 s9 m9 args9 below9 meth9 c9 A X hin
  obtain ⟨n9, hn9⟩ : ∃ n9, n9 = kR x c r b := ⟨_, rfl⟩
  refine ek_castL (lv' := [(0, .ref (ad f)), (1, .int (nI x)), (2, .int (nI c)), (3, .int (nI r)), (4, .int w), (5, .int (nI z))]) rfl ?_
  refine ek_iln X 1 rfl dX5_come_0 ?_
  refine ek_sp (v := nI 200) X (by decide) dX5_come_1 ?_
  refine ek_Nle X (by omega) (by omega) 8 (by decide) dX5_come_4 (fun c_4 => ?_) (fun c_4 => ?_)
  · skip
    refine ek_iln X 1 rfl dX5_come_8 ?_
    refine ek_bp (v := nI 12) X (by decide) dX5_come_9 ?_
    refine ek_Nmul X dX5_come_11 ?_
    refine ek_iln X 2 rfl dX5_come_12 ?_
    refine ek_Nadd X dX5_come_13 ?_
    refine ek_bp (v := nI 17) X (by decide) dX5_come_14 ?_
    refine ek_Nmul X dX5_come_16 ?_
    refine ek_iln X 3 rfl dX5_come_17 ?_
    refine ek_Nadd X dX5_come_18 ?_
    refine ek_bp (v := nI 19) X (by decide) dX5_come_19 ?_
    refine ek_Nmul X dX5_come_21 ?_
    refine ek_il X 4 rfl dX5_come_22 ?_
    refine ek_add X dX5_come_24 ?_
    refine ek_ic (v := nI 1) X (by decide) dX5_come_25 ?_
    refine ek_add X dX5_come_26 ?_
    refine ek_top (v' := nI n9) (by rw [Int32.add_assoc, hw, nI_add, hn9]) ?_
    refine ek_is (lv' := [(6, .int (nI n9)), (0, .ref (ad f)), (1, .int (nI x)), (2, .int (nI c)), (3, .int (nI r)), (4, .int w), (5, .int (nI z))]) X (by decide) rfl dX5_come_27 ?_
    refine ek_aln X 1 rfl dX5_come_29 ?_
    refine ek_get X hin_X5_come_X5 0 rfl rfl 7 (by decide) (List.mem_of_getElem? (i := 1) rfl) rfl dX5_come_30 ?_
    refine ek_is (lv' := [(7, .int (nI (tWa t))), (6, .int (nI n9)), (0, .ref (ad f)), (1, .int (nI x)), (2, .int (nI c)), (3, .int (nI r)), (4, .int w), (5, .int (nI z))]) X (by decide) rfl dX5_come_33 ?_
    refine ek_loopAt (σ := Nat × (Nat → Nat) × (Nat → Nat)) (fun zz => (fun (k : Nat) (o : Nat → Nat) (p : Nat → Nat) => k ≤ tWa t ∧ (∀ j9, o j9 < 2147483648) ∧ tIns n9 z k o p = tIns n9 z (tWa t) (tOd t) (tPw t)) zz.1 zz.2.1 zz.2.2) (fun zz => (fun (k : Nat) (o : Nat → Nat) (p : Nat → Nat) => k) zz.1 zz.2.1 zz.2.2) (fun zz => (fun (k : Nat) (o : Nat → Nat) (p : Nat → Nat) => wT ad f cI ((o, p, tPc t, tSy t), (tTh t, tBa t, tFi t, tHe t), (tWa t, tRu t, tCl t, tK t), (tCt t, tOr t, tLa t, tLt t), (tWo t, tPl t, tCh t, tWi t)) m) zz.1 zz.2.1 zz.2.2) (fun zz => (fun (k : Nat) (o : Nat → Nat) (p : Nat → Nat) => [(0, .ref (ad f)), (1, .int (nI x)), (2, .int (nI c)), (3, .int (nI r)), (4, .int w), (5, .int (nI z)), (6, .int (nI n9)), (7, .int (nI k))]) zz.1 zz.2.1 zz.2.2) ?_ (tWa t, tOd t, tPw t) ⟨Nat.le_refl _, ho, rfl⟩ rfl [2, 3, 4, 5, 6, 7, 1, 0] rfl
    intro zz ha_35 ih_35
    obtain ⟨k, o, p⟩ := zz
    replace ha_35 : k ≤ tWa t ∧ (∀ j9, o j9 < 2147483648) ∧ tIns n9 z k o p = tIns n9 z (tWa t) (tOd t) (tPw t) := ha_35
    refine ek_cast (w' := wT ad f cI ((o, p, tPc t, tSy t), (tTh t, tBa t, tFi t, tHe t), (tWa t, tRu t, tCl t, tK t), (tCt t, tOr t, tLa t, tLt t), (tWo t, tPl t, tCh t, tWi t)) m) rfl ?_
    refine ek_castL (lv' := [(0, .ref (ad f)), (1, .int (nI x)), (2, .int (nI c)), (3, .int (nI r)), (4, .int w), (5, .int (nI z)), (6, .int (nI n9)), (7, .int (nI k))]) rfl ?_
    have ho9 := ha_35.2.1
    have ho1 := ho9 (k - 1)
    have hkr : n9 < 2147483648 := by rw [hn9]; show ((x * 12 + c) * 17 + r) * 19 + b < 2147483648; omega
    refine ek_il X 7 rfl dX5_come_35 ?_
    refine ek_Zle X (by omega) 92 (by decide) dX5_come_37 (fun c_37 => ?_) (fun c_37 => ?_)
    · skip
      refine ek_aln X 0 rfl dX5_come_92 ?_
      refine ek_get X hin_X5_come_X5 0 rfl rfl 18 (by decide) (List.mem_of_getElem? (i := 2) rfl) rfl dX5_come_93 ?_
      refine ek_il X 7 rfl dX5_come_96 ?_
      refine ek_il X 6 rfl dX5_come_98 ?_
      refine ek_Nast (w' := wT ad f cI ((eN o k n9, p, tPc t, tSy t), (tTh t, tBa t, tFi t, tHe t), (tWa t, tRu t, tCl t, tK t), (tCt t, tOr t, tLa t, tLt t), (tWo t, tPl t, tCh t, tWi t)) m) X 7 0 rfl rfl (by omega) (by omega) rfl dX5_come_100 ?_
      refine ek_aln X 0 rfl dX5_come_101 ?_
      refine ek_get X hin_X5_come_X5 0 rfl rfl 19 (by decide) (List.mem_of_getElem? (i := 3) rfl) rfl dX5_come_102 ?_
      refine ek_il X 7 rfl dX5_come_105 ?_
      refine ek_il X 5 rfl dX5_come_107 ?_
      refine ek_Nast (w' := wT ad f cI ((eN o k n9, eN p k z, tPc t, tSy t), (tTh t, tBa t, tFi t, tHe t), (tWa t, tRu t, tCl t, tK t), (tCt t, tOr t, tLa t, tLt t), (tWo t, tPl t, tCh t, tWi t)) m) X 8 0 rfl rfl (by omega) (by omega) rfl dX5_come_109 ?_
      refine ek_aln X 0 rfl dX5_come_110 ?_
      refine ek_dup X rfl dX5_come_111 ?_
      refine ek_get X hin_X5_come_X5 0 rfl rfl 7 (by decide) (List.mem_of_getElem? (i := 1) rfl) rfl dX5_come_112 ?_
      refine ek_top (v' := nI (tWa t)) rfl ?_
      refine ek_ic (v := nI 1) X (by decide) dX5_come_115 ?_
      refine ek_Nadd X dX5_come_116 ?_
      refine ek_put (w' := wT ad f cI ((eN o k n9, eN p k z, tPc t, tSy t), (tTh t, tBa t, tFi t, tHe t), ((tWa t) + 1, tRu t, tCl t, tK t), (tCt t, tOr t, tLa t, tLt t), (tWo t, tPl t, tCh t, tWi t)) m) X hin_X5_come_X5 tyX5 tyX5_ok nmX5 0 rfl rfl 7 (by decide) (List.mem_of_getElem? (i := 1) rfl) rfl rfl rfl rfl (Nat.le_of_ble_eq_true rfl) rfl dX5_come_117 ?_
      exact ek_retv X () ⟨rfl, trivial⟩ (congrArg (fun a => wT ad f cI a m) (tCome_near x c r b z n9 k t o p hn9 (by omega) ha_35.2.2 (by first | exact Or.inl (by omega) | exact Or.inr ⟨k - 1, by omega, by omega⟩)).symm) dX5_come_120
    · skip
      refine ek_aln X 0 rfl dX5_come_40 ?_
      refine ek_get X hin_X5_come_X5 0 rfl rfl 18 (by decide) (List.mem_of_getElem? (i := 2) rfl) rfl dX5_come_41 ?_
      refine ek_il X 7 rfl dX5_come_44 ?_
      refine ek_ic (v := nI 1) X (by decide) dX5_come_46 ?_
      refine ek_Nsub X (by omega) dX5_come_47 ?_
      refine ek_ald X 7 0 rfl rfl (by omega) (by omega) dX5_come_48 ?_
      refine ek_top (v' := nI (o (k - 1))) rfl ?_
      refine ek_il X 6 rfl dX5_come_49 ?_
      refine ek_Nge X (by omega) (by omega) 92 (by decide) dX5_come_51 (fun c_51 => ?_) (fun c_51 => ?_)
      · skip
        refine ek_aln X 0 rfl dX5_come_92 ?_
        refine ek_get X hin_X5_come_X5 0 rfl rfl 18 (by decide) (List.mem_of_getElem? (i := 2) rfl) rfl dX5_come_93 ?_
        refine ek_il X 7 rfl dX5_come_96 ?_
        refine ek_il X 6 rfl dX5_come_98 ?_
        refine ek_Nast (w' := wT ad f cI ((eN o k n9, p, tPc t, tSy t), (tTh t, tBa t, tFi t, tHe t), (tWa t, tRu t, tCl t, tK t), (tCt t, tOr t, tLa t, tLt t), (tWo t, tPl t, tCh t, tWi t)) m) X 7 0 rfl rfl (by omega) (by omega) rfl dX5_come_100 ?_
        refine ek_aln X 0 rfl dX5_come_101 ?_
        refine ek_get X hin_X5_come_X5 0 rfl rfl 19 (by decide) (List.mem_of_getElem? (i := 3) rfl) rfl dX5_come_102 ?_
        refine ek_il X 7 rfl dX5_come_105 ?_
        refine ek_il X 5 rfl dX5_come_107 ?_
        refine ek_Nast (w' := wT ad f cI ((eN o k n9, eN p k z, tPc t, tSy t), (tTh t, tBa t, tFi t, tHe t), (tWa t, tRu t, tCl t, tK t), (tCt t, tOr t, tLa t, tLt t), (tWo t, tPl t, tCh t, tWi t)) m) X 8 0 rfl rfl (by omega) (by omega) rfl dX5_come_109 ?_
        refine ek_aln X 0 rfl dX5_come_110 ?_
        refine ek_dup X rfl dX5_come_111 ?_
        refine ek_get X hin_X5_come_X5 0 rfl rfl 7 (by decide) (List.mem_of_getElem? (i := 1) rfl) rfl dX5_come_112 ?_
        refine ek_top (v' := nI (tWa t)) rfl ?_
        refine ek_ic (v := nI 1) X (by decide) dX5_come_115 ?_
        refine ek_Nadd X dX5_come_116 ?_
        refine ek_put (w' := wT ad f cI ((eN o k n9, eN p k z, tPc t, tSy t), (tTh t, tBa t, tFi t, tHe t), ((tWa t) + 1, tRu t, tCl t, tK t), (tCt t, tOr t, tLa t, tLt t), (tWo t, tPl t, tCh t, tWi t)) m) X hin_X5_come_X5 tyX5 tyX5_ok nmX5 0 rfl rfl 7 (by decide) (List.mem_of_getElem? (i := 1) rfl) rfl rfl rfl rfl (Nat.le_of_ble_eq_true rfl) rfl dX5_come_117 ?_
        exact ek_retv X () ⟨rfl, trivial⟩ (congrArg (fun a => wT ad f cI a m) (tCome_near x c r b z n9 k t o p hn9 (by omega) ha_35.2.2 (by first | exact Or.inl (by omega) | exact Or.inr ⟨k - 1, by omega, by omega⟩)).symm) dX5_come_120
      · skip
        refine ek_aln X 0 rfl dX5_come_54 ?_
        refine ek_get X hin_X5_come_X5 0 rfl rfl 18 (by decide) (List.mem_of_getElem? (i := 2) rfl) rfl dX5_come_55 ?_
        refine ek_il X 7 rfl dX5_come_58 ?_
        refine ek_aln X 0 rfl dX5_come_60 ?_
        refine ek_get X hin_X5_come_X5 0 rfl rfl 18 (by decide) (List.mem_of_getElem? (i := 2) rfl) rfl dX5_come_61 ?_
        refine ek_il X 7 rfl dX5_come_64 ?_
        refine ek_ic (v := nI 1) X (by decide) dX5_come_66 ?_
        refine ek_Nsub X (by omega) dX5_come_67 ?_
        refine ek_ald X 7 0 rfl rfl (by omega) (by omega) dX5_come_68 ?_
        refine ek_top (v' := nI (o (k - 1))) rfl ?_
        refine ek_Nast (w' := wT ad f cI ((eN o k (o (k - 1)), p, tPc t, tSy t), (tTh t, tBa t, tFi t, tHe t), (tWa t, tRu t, tCl t, tK t), (tCt t, tOr t, tLa t, tLt t), (tWo t, tPl t, tCh t, tWi t)) m) X 7 0 rfl rfl (by omega) (by omega) rfl dX5_come_69 ?_
        refine ek_aln X 0 rfl dX5_come_70 ?_
        refine ek_get X hin_X5_come_X5 0 rfl rfl 19 (by decide) (List.mem_of_getElem? (i := 3) rfl) rfl dX5_come_71 ?_
        refine ek_il X 7 rfl dX5_come_74 ?_
        refine ek_aln X 0 rfl dX5_come_76 ?_
        refine ek_get X hin_X5_come_X5 0 rfl rfl 19 (by decide) (List.mem_of_getElem? (i := 3) rfl) rfl dX5_come_77 ?_
        refine ek_il X 7 rfl dX5_come_80 ?_
        refine ek_ic (v := nI 1) X (by decide) dX5_come_82 ?_
        refine ek_Nsub X (by omega) dX5_come_83 ?_
        refine ek_ald X 8 0 rfl rfl (by omega) (by omega) dX5_come_84 ?_
        refine ek_top (v' := nI (p (k - 1))) rfl ?_
        refine ek_Nast (w' := wT ad f cI ((eN o k (o (k - 1)), eN p k (p (k - 1)), tPc t, tSy t), (tTh t, tBa t, tFi t, tHe t), (tWa t, tRu t, tCl t, tK t), (tCt t, tOr t, tLa t, tLt t), (tWo t, tPl t, tCh t, tWi t)) m) X 8 0 rfl rfl (by omega) (by omega) rfl dX5_come_85 ?_
        refine ek_Ndec (j := 7) (lv' := [(7, .int (nI (k - 1))), (0, .ref (ad f)), (1, .int (nI x)), (2, .int (nI c)), (3, .int (nI r)), (4, .int w), (5, .int (nI z)), (6, .int (nI n9))]) X (by omega) rfl (by decide) rfl dX5_come_86 ?_
        refine ek_goto X 35 (by decide) dX5_come_89 ?_
        refine ek_re [1, 2, 3, 4, 5, 6, 7, 0] rfl ?_
        exact ih_35 (k - 1, eN o k (o (k - 1)), eN p k (p (k - 1))) (show (k - 1) ≤ tWa t ∧ (∀ j9, (eN o k (o (k - 1))) j9 < 2147483648) ∧ tIns n9 z (k - 1) (eN o k (o (k - 1))) (eN p k (p (k - 1))) = tIns n9 z (tWa t) (tOd t) (tPw t) from (by obtain ⟨h1, h2, h3⟩ := ha_35; refine ⟨by omega, eN_lt h2 (h2 _), ?_⟩; obtain ⟨k, rfl⟩ : ∃ y, k = y + 1 := ⟨k - 1, by omega⟩; rw [← h3]; exact (tIns_step _ _ _ _ _ (by assumption)).symm)) (by show k - 1 < k; omega)
  · skip
    exact ek_retv X () ⟨rfl, trivial⟩ (congrArg (fun a => wT ad f cI a m) (tCome_far _ _ _ _ _ _ (by omega)).symm) dX5_come_7

theorem hin_X5_start_X5 : ∀ x ∈ wsX50, x ∈ wsX5_start := fun x h => List.mem_cons_of_mem _ (List.mem_append_right _ h)
abbrev rm_X5_start : Room := { frames := 2, cells := 0, slots := 0, locals := 39 }
set_option maxHeartbeats 4000000 in
set_option maxRecDepth 100000 in
theorem c_X5_start (l : Launch) (D : va_G) (cI cJ cR : ClassId) (ad : Nat → Nat) (f : Nat) (m : MdlT) (t : MsnT) (hM : mOk m) (x c p y z : Nat) (hx : x < 2147483648) (hc : c < 12) (hr : tRu t < 17) (hwa : tWa t < 629) (ho : ∀ j, tOd t j < 2147483648) : ek_M (S := Unit) l yX5_start wsX5_start rm_X5_start D (tyW cI cJ cR) nestW [.ref (ad f), .int (nI x), .int (nI c), .int (nI p), .int (nI y), .int (nI z)] (wT ad f cI t m) (fun r9 _ => r9 = none ∧ True) (fun _ => wT ad f cI (tStart x c p y z t) m) := by
  refine ek_M.of (cc := cX5_start) (maxL := 6) (ret := none) (by decide) rfl (Nat.le_of_ble_eq_true rfl) ?_
  intro p9 e9 s9 m9 args9 below9 meth9 c9 A X hin
  refine ek_castL (lv' := [(0, .ref (ad f)), (1, .int (nI x)), (2, .int (nI c)), (3, .int (nI p)), (4, .int (nI y)), (5, .int (nI z))]) rfl ?_
  refine ek_aln X 0 rfl dX5_start_0 ?_
  refine ek_get X hin_X5_start_X5 0 rfl rfl 14 (by decide) (List.mem_of_getElem? (i := 1) rfl) rfl dX5_start_1 ?_
  refine ek_aln X 0 rfl dX5_start_4 ?_
  refine ek_get X hin_X5_start_X5 0 rfl rfl 2 (by decide) (List.mem_of_getElem? (i := 2) rfl) rfl dX5_start_5 ?_
  refine ek_iln X 3 rfl dX5_start_8 ?_
  refine ek_Nast (w' := wT ad f cI ((tOd t, tPw t, eN (tPc t) (tRu t) p, tSy t), (tTh t, tBa t, tFi t, tHe t), (tWa t, tRu t, tCl t, tK t), (tCt t, tOr t, tLa t, tLt t), (tWo t, tPl t, tCh t, tWi t)) m) X 3 0 rfl rfl (by omega) (by omega) rfl dX5_start_9 ?_
  refine ek_aln X 0 rfl dX5_start_10 ?_
  refine ek_get X hin_X5_start_X5 0 rfl rfl 15 (by decide) (List.mem_of_getElem? (i := 3) rfl) rfl dX5_start_11 ?_
  refine ek_aln X 0 rfl dX5_start_14 ?_
  refine ek_get X hin_X5_start_X5 0 rfl rfl 2 (by decide) (List.mem_of_getElem? (i := 2) rfl) rfl dX5_start_15 ?_
  refine ek_top (v' := nI (tRu t)) rfl ?_
  refine ek_il X 4 rfl dX5_start_18 ?_
  refine ek_Nast (w' := wT ad f cI ((tOd t, tPw t, eN (tPc t) (tRu t) p, eN (tSy t) (tRu t) y), (tTh t, tBa t, tFi t, tHe t), (tWa t, tRu t, tCl t, tK t), (tCt t, tOr t, tLa t, tLt t), (tWo t, tPl t, tCh t, tWi t)) m) X 4 0 rfl rfl (by omega) (by omega) rfl dX5_start_20 ?_
  refine ek_aln X 0 rfl dX5_start_21 ?_
  refine ek_get X hin_X5_start_X5 0 rfl rfl 16 (by decide) (List.mem_of_getElem? (i := 4) rfl) rfl dX5_start_22 ?_
  refine ek_aln X 0 rfl dX5_start_25 ?_
  refine ek_get X hin_X5_start_X5 0 rfl rfl 2 (by decide) (List.mem_of_getElem? (i := 2) rfl) rfl dX5_start_26 ?_
  refine ek_top (v' := nI (tRu t)) rfl ?_
  refine ek_ic (v := nI 0) X (by decide) dX5_start_29 ?_
  refine ek_Nast (w' := wT ad f cI ((tOd t, tPw t, eN (tPc t) (tRu t) p, eN (tSy t) (tRu t) y), (eN (tTh t) (tRu t) 0, tBa t, tFi t, tHe t), (tWa t, tRu t, tCl t, tK t), (tCt t, tOr t, tLa t, tLt t), (tWo t, tPl t, tCh t, tWi t)) m) X 5 0 rfl rfl (by omega) (by omega) rfl dX5_start_30 ?_
  refine ek_aln X 0 rfl dX5_start_31 ?_
  refine ek_get X hin_X5_start_X5 0 rfl rfl 17 (by decide) (List.mem_of_getElem? (i := 5) rfl) rfl dX5_start_32 ?_
  refine ek_aln X 0 rfl dX5_start_35 ?_
  refine ek_get X hin_X5_start_X5 0 rfl rfl 2 (by decide) (List.mem_of_getElem? (i := 2) rfl) rfl dX5_start_36 ?_
  refine ek_top (v' := nI (tRu t)) rfl ?_
  refine ek_ic (v := nI 0) X (by decide) dX5_start_39 ?_
  refine ek_Nast (w' := wT ad f cI ((tOd t, tPw t, eN (tPc t) (tRu t) p, eN (tSy t) (tRu t) y), (eN (tTh t) (tRu t) 0, eN (tBa t) (tRu t) 0, tFi t, tHe t), (tWa t, tRu t, tCl t, tK t), (tCt t, tOr t, tLa t, tLt t), (tWo t, tPl t, tCh t, tWi t)) m) X 6 0 rfl rfl (by omega) (by omega) rfl dX5_start_40 ?_
  refine ek_aln X 0 rfl dX5_start_41 ?_
  refine ek_iln X 1 rfl dX5_start_42 ?_
  refine ek_iln X 2 rfl dX5_start_43 ?_
  refine ek_aln X 0 rfl dX5_start_44 ?_
  refine ek_get X hin_X5_start_X5 0 rfl rfl 2 (by decide) (List.mem_of_getElem? (i := 2) rfl) rfl dX5_start_45 ?_
  refine ek_top (v' := nI (tRu t)) rfl ?_
  refine ek_ic (v := -1) X (by decide) dX5_start_48 ?_
  refine ek_il X 5 rfl dX5_start_49 ?_
  refine ek_doWv X (ek_runV (As := [.int (nI x), .int (nI c), .int (nI (tRu t)), .int (-1), .int (nI z)]) (rest := []) X (c_X5_come l D cI cJ cR ad f m (((tOd t, tPw t, eN (tPc t) (tRu t) p, eN (tSy t) (tRu t) y), (eN (tTh t) (tRu t) 0, eN (tBa t) (tRu t) 0, tFi t, tHe t), (tWa t, tRu t, tCl t, tK t), (tCt t, tOr t, tLa t, tLt t), (tWo t, tPl t, tCh t, tWi t))) hM x c (tRu t) 0 z (-1) (by decide) (by omega) (by omega) (by omega) (by omega) hwa ho) gX5_start_X5_come rfl hdV_X5_come ⟨Nat.le_of_ble_eq_true rfl, Nat.le_of_ble_eq_true rfl⟩ ⟨Nat.le_of_ble_eq_true rfl, Nat.le_of_ble_eq_true rfl⟩ [0, 1, 2, 3, 4, 5, 6, 7, 8, 9, 10, 11] rfl (by decide) 0 5 rfl rfl (Nat.le_of_ble_eq_true rfl) dX5_start_51) [0, 1, 2, 3, 4, 5, 6, 7, 8, 9, 10, 11] [] rfl rfl (by decide) (by decide) (fun _ => wT ad f cI (tCome x c (tRu t) 0 z (((tOd t, tPw t, eN (tPc t) (tRu t) p, eN (tSy t) (tRu t) y), (eN (tTh t) (tRu t) 0, eN (tBa t) (tRu t) 0, tFi t, tHe t), (tWa t, tRu t, tCl t, tK t), (tCt t, tOr t, tLa t, tLt t), (tWo t, tPl t, tCh t, tWi t)))) m) [0, 1, 2, 3, 4, 5, 6, 7, 8, 9, 10, 11] (by decide) (fun _ => rfl) (fun u_51 hv_51 => ?_)
  refine ek_aln X 0 rfl dX5_start_54 ?_
  refine ek_dup X rfl dX5_start_55 ?_
  refine ek_get X hin_X5_start_X5 0 rfl rfl 2 (by decide) (List.mem_of_getElem? (i := 2) rfl) rfl dX5_start_56 ?_
  refine ek_ic (v := nI 1) X (by decide) dX5_start_59 ?_
  refine ek_Nadd X dX5_start_60 ?_
  refine ek_put (w' := wT ad f cI ((tOd (tCome x c (tRu t) 0 z (((tOd t, tPw t, eN (tPc t) (tRu t) p, eN (tSy t) (tRu t) y), (eN (tTh t) (tRu t) 0, eN (tBa t) (tRu t) 0, tFi t, tHe t), (tWa t, tRu t, tCl t, tK t), (tCt t, tOr t, tLa t, tLt t), (tWo t, tPl t, tCh t, tWi t)))), tPw (tCome x c (tRu t) 0 z (((tOd t, tPw t, eN (tPc t) (tRu t) p, eN (tSy t) (tRu t) y), (eN (tTh t) (tRu t) 0, eN (tBa t) (tRu t) 0, tFi t, tHe t), (tWa t, tRu t, tCl t, tK t), (tCt t, tOr t, tLa t, tLt t), (tWo t, tPl t, tCh t, tWi t)))), tPc (tCome x c (tRu t) 0 z (((tOd t, tPw t, eN (tPc t) (tRu t) p, eN (tSy t) (tRu t) y), (eN (tTh t) (tRu t) 0, eN (tBa t) (tRu t) 0, tFi t, tHe t), (tWa t, tRu t, tCl t, tK t), (tCt t, tOr t, tLa t, tLt t), (tWo t, tPl t, tCh t, tWi t)))), tSy (tCome x c (tRu t) 0 z (((tOd t, tPw t, eN (tPc t) (tRu t) p, eN (tSy t) (tRu t) y), (eN (tTh t) (tRu t) 0, eN (tBa t) (tRu t) 0, tFi t, tHe t), (tWa t, tRu t, tCl t, tK t), (tCt t, tOr t, tLa t, tLt t), (tWo t, tPl t, tCh t, tWi t))))), (tTh (tCome x c (tRu t) 0 z (((tOd t, tPw t, eN (tPc t) (tRu t) p, eN (tSy t) (tRu t) y), (eN (tTh t) (tRu t) 0, eN (tBa t) (tRu t) 0, tFi t, tHe t), (tWa t, tRu t, tCl t, tK t), (tCt t, tOr t, tLa t, tLt t), (tWo t, tPl t, tCh t, tWi t)))), tBa (tCome x c (tRu t) 0 z (((tOd t, tPw t, eN (tPc t) (tRu t) p, eN (tSy t) (tRu t) y), (eN (tTh t) (tRu t) 0, eN (tBa t) (tRu t) 0, tFi t, tHe t), (tWa t, tRu t, tCl t, tK t), (tCt t, tOr t, tLa t, tLt t), (tWo t, tPl t, tCh t, tWi t)))), tFi (tCome x c (tRu t) 0 z (((tOd t, tPw t, eN (tPc t) (tRu t) p, eN (tSy t) (tRu t) y), (eN (tTh t) (tRu t) 0, eN (tBa t) (tRu t) 0, tFi t, tHe t), (tWa t, tRu t, tCl t, tK t), (tCt t, tOr t, tLa t, tLt t), (tWo t, tPl t, tCh t, tWi t)))), tHe (tCome x c (tRu t) 0 z (((tOd t, tPw t, eN (tPc t) (tRu t) p, eN (tSy t) (tRu t) y), (eN (tTh t) (tRu t) 0, eN (tBa t) (tRu t) 0, tFi t, tHe t), (tWa t, tRu t, tCl t, tK t), (tCt t, tOr t, tLa t, tLt t), (tWo t, tPl t, tCh t, tWi t))))), (tWa (tCome x c (tRu t) 0 z (((tOd t, tPw t, eN (tPc t) (tRu t) p, eN (tSy t) (tRu t) y), (eN (tTh t) (tRu t) 0, eN (tBa t) (tRu t) 0, tFi t, tHe t), (tWa t, tRu t, tCl t, tK t), (tCt t, tOr t, tLa t, tLt t), (tWo t, tPl t, tCh t, tWi t)))), (tRu (tCome x c (tRu t) 0 z (((tOd t, tPw t, eN (tPc t) (tRu t) p, eN (tSy t) (tRu t) y), (eN (tTh t) (tRu t) 0, eN (tBa t) (tRu t) 0, tFi t, tHe t), (tWa t, tRu t, tCl t, tK t), (tCt t, tOr t, tLa t, tLt t), (tWo t, tPl t, tCh t, tWi t))))) + 1, tCl (tCome x c (tRu t) 0 z (((tOd t, tPw t, eN (tPc t) (tRu t) p, eN (tSy t) (tRu t) y), (eN (tTh t) (tRu t) 0, eN (tBa t) (tRu t) 0, tFi t, tHe t), (tWa t, tRu t, tCl t, tK t), (tCt t, tOr t, tLa t, tLt t), (tWo t, tPl t, tCh t, tWi t)))), tK (tCome x c (tRu t) 0 z (((tOd t, tPw t, eN (tPc t) (tRu t) p, eN (tSy t) (tRu t) y), (eN (tTh t) (tRu t) 0, eN (tBa t) (tRu t) 0, tFi t, tHe t), (tWa t, tRu t, tCl t, tK t), (tCt t, tOr t, tLa t, tLt t), (tWo t, tPl t, tCh t, tWi t))))), (tCt (tCome x c (tRu t) 0 z (((tOd t, tPw t, eN (tPc t) (tRu t) p, eN (tSy t) (tRu t) y), (eN (tTh t) (tRu t) 0, eN (tBa t) (tRu t) 0, tFi t, tHe t), (tWa t, tRu t, tCl t, tK t), (tCt t, tOr t, tLa t, tLt t), (tWo t, tPl t, tCh t, tWi t)))), tOr (tCome x c (tRu t) 0 z (((tOd t, tPw t, eN (tPc t) (tRu t) p, eN (tSy t) (tRu t) y), (eN (tTh t) (tRu t) 0, eN (tBa t) (tRu t) 0, tFi t, tHe t), (tWa t, tRu t, tCl t, tK t), (tCt t, tOr t, tLa t, tLt t), (tWo t, tPl t, tCh t, tWi t)))), tLa (tCome x c (tRu t) 0 z (((tOd t, tPw t, eN (tPc t) (tRu t) p, eN (tSy t) (tRu t) y), (eN (tTh t) (tRu t) 0, eN (tBa t) (tRu t) 0, tFi t, tHe t), (tWa t, tRu t, tCl t, tK t), (tCt t, tOr t, tLa t, tLt t), (tWo t, tPl t, tCh t, tWi t)))), tLt (tCome x c (tRu t) 0 z (((tOd t, tPw t, eN (tPc t) (tRu t) p, eN (tSy t) (tRu t) y), (eN (tTh t) (tRu t) 0, eN (tBa t) (tRu t) 0, tFi t, tHe t), (tWa t, tRu t, tCl t, tK t), (tCt t, tOr t, tLa t, tLt t), (tWo t, tPl t, tCh t, tWi t))))), (tWo (tCome x c (tRu t) 0 z (((tOd t, tPw t, eN (tPc t) (tRu t) p, eN (tSy t) (tRu t) y), (eN (tTh t) (tRu t) 0, eN (tBa t) (tRu t) 0, tFi t, tHe t), (tWa t, tRu t, tCl t, tK t), (tCt t, tOr t, tLa t, tLt t), (tWo t, tPl t, tCh t, tWi t)))), tPl (tCome x c (tRu t) 0 z (((tOd t, tPw t, eN (tPc t) (tRu t) p, eN (tSy t) (tRu t) y), (eN (tTh t) (tRu t) 0, eN (tBa t) (tRu t) 0, tFi t, tHe t), (tWa t, tRu t, tCl t, tK t), (tCt t, tOr t, tLa t, tLt t), (tWo t, tPl t, tCh t, tWi t)))), tCh (tCome x c (tRu t) 0 z (((tOd t, tPw t, eN (tPc t) (tRu t) p, eN (tSy t) (tRu t) y), (eN (tTh t) (tRu t) 0, eN (tBa t) (tRu t) 0, tFi t, tHe t), (tWa t, tRu t, tCl t, tK t), (tCt t, tOr t, tLa t, tLt t), (tWo t, tPl t, tCh t, tWi t)))), tWi (tCome x c (tRu t) 0 z (((tOd t, tPw t, eN (tPc t) (tRu t) p, eN (tSy t) (tRu t) y), (eN (tTh t) (tRu t) 0, eN (tBa t) (tRu t) 0, tFi t, tHe t), (tWa t, tRu t, tCl t, tK t), (tCt t, tOr t, tLa t, tLt t), (tWo t, tPl t, tCh t, tWi t)))))) m) X hin_X5_start_X5 tyX5 tyX5_ok nmX5 0 rfl rfl 2 (by decide) (List.mem_of_getElem? (i := 2) rfl) rfl rfl rfl rfl (Nat.le_of_ble_eq_true rfl) rfl dX5_start_61 ?_
  exact ek_retv X () ⟨rfl, trivial⟩ rfl dX5_start_64

theorem sI_bit {a k : Nat} (ha : a < 2147483648) (hk : k < 32) : nI a >>> (nI k &&& 31) &&& nI 1 = nI (a / 2 ^ k % 2) := by rw [pk_shr2 ha k hk, fa_and, Nat.and_one_is_mod]
theorem sI_set {a k : Nat} (hk : k < 32) : nI a ||| nI 1 <<< (nI k &&& 31) = nI (a ||| 2 ^ k) := by rw [pk_shlN _ k (sh_and k hk) (by rw [Nat.one_mul]; exact (show 2 ^ k < 2 ^ 32 from Nat.pow_lt_pow_right (by omega) hk)), Nat.one_mul, fa_or]
def tKeep (m : MdlT) (x r z : Nat) (t : MsnT) : MsnT := ((tOd t, tPw t, tPc t, tSy t), (tTh t, tBa t, tFi t, eN (eN (eN (eN (eN (tHe t) (5 * tK t) x) (5 * tK t + 1) (tPc t r)) (5 * tK t + 2) (tSy t r)) (5 * tK t + 3) z) (5 * tK t + 4) (if mEar m ≤ z then 1 else 0)), (tWa t, tRu t, tCl t, tK t + 1), (tCt t, tOr t, tLa t, tLt t), (tWo t, tPl t, tCh t, tWi t))
def tCount (x r : Nat) (t : MsnT) : MsnT := ((tOd t, tPw t, tPc t, tSy t), (tTh t, tBa t, if tFi t (tPc t r) = -1 then eN (tFi t) (tPc t r) (nI x) else tFi t, tHe t), (tWa t, tRu t, tCl t, tK t), (tCt t + 1, if tPc t r = tOr t then tOr t + 1 else tOr t, nI x, tLt t), (tWo t, tPl t, tCh t, tWi t))
def tHear (m : MdlT) (x r z : Nat) (t : MsnT) : MsnT := if 60 = tK t then t else if mEar m ≤ z then tCount x r (tKeep m x r z t) else tKeep m x r z t
abbrev tOth (m : MdlT) (p c : Nat) : Nat := mTu m (4 * p) + mTu m (4 * p + 1) - c
def tGo (m : MdlT) (x c r p z : Nat) (t : MsnT) : MsnT := if mTu m (4 * p) = c then (if tTh t r / 2 ^ p % 2 = 1 then t else tCome (x + mTu m (4 * p + 2)) (tOth m p c) r (p + 1) (z * (90 - 5 * mTu m (4 * p + 3)) / 100) ((tOd t, tPw t, tPc t, tSy t), (eN (tTh t) r (tTh t r ||| 2 ^ p), tBa t, tFi t, tHe t), (tWa t, tRu t, tCl t, tK t), (tCt t, tOr t, tLa t, tLt t), (tWo t, tPl t, tCh t, tWi t))) else (if tBa t r / 2 ^ p % 2 = 1 then t else tCome (x + mTu m (4 * p + 2)) (tOth m p c) r (p + 1) (z * (90 - 5 * mTu m (4 * p + 3)) / 100) ((tOd t, tPw t, tPc t, tSy t), (tTh t, eN (tBa t) r (tBa t r ||| 2 ^ p), tFi t, tHe t), (tWa t, tRu t, tCl t, tK t), (tCt t, tOr t, tLa t, tLt t), (tWo t, tPl t, tCh t, tWi t)))
abbrev tOwn (m : MdlT) (t : MsnT) (c : Nat) : Nat := if nI c = tCh t then tWi t else mRo m (5 * c + 3)
abbrev tDly (m : MdlT) (t : MsnT) (c : Nat) : Nat := if nI c = tCh t then tLt t else mRo m (5 * c + 4)
abbrev tSet (t : MsnT) (c : Nat) : MsnT := ((tOd t, tPw t, tPc t, tSy t), (tTh t, tBa t, tFi t, tHe t), (tWa t, tRu t, tCl t ||| 2 ^ c, tK t), (tCt t, tOr t, tLa t, tLt t), (tWo t, tPl t, tCh t, tWi t))
def tClap (m : MdlT) (x c r : Nat) (t : MsnT) : MsnT := if tOwn m t c = tSy t r ∧ ¬ tCl t / 2 ^ c % 2 = 1 then (if 200 < x + tDly m t c then tSet t c else tStart (x + tDly m t c) c (tPc t r) (tOwn m t c) 60 (tSet t c)) else t
abbrev tB (n : Nat) : Nat := fb_ct (fun k => n.testBit k) 18
def tPot (t : MsnT) : Nat := fb_sm (fun r => 1 + tB (tTh t r) + tB (tBa t r)) (tRu t)
abbrev tEnt (m : MdlT) (R n : Nat) : Prop := n < 779076 ∧ n / 19 % 17 < R ∧ (n % 19 = 0 ∨ (n % 19 - 1 < mP m ∧ (mTu m (4 * (n % 19 - 1)) = n / 19 / 17 % 12 ∨ mTu m (4 * (n % 19 - 1) + 1) = n / 19 / 17 % 12)))
def tOkB (m : MdlT) (t : MsnT) : Prop := (tRu t ≤ 17 ∧ tRu t ≤ 6 + fb_ct (fun k => (tCl t).testBit (k + 1)) 11 ∧ tCl t < 4096) ∧ (∀ j, tSy t j ≤ 9) ∧ (∀ j, j < tRu t → 1 ≤ tSy t j) ∧ (∀ j, tPc t j < 6) ∧ (∀ j, tTh t j < 262144) ∧ (∀ j, tBa t j < 262144) ∧ (∀ j, tOd t j < 2147483648) ∧ (∀ j, j < tWa t → tEnt m (tRu t) (tOd t j)) ∧ (∀ j, tPw t j < 128) ∧ (tK t ≤ 60 ∧ tCt t ≤ tK t ∧ tOr t ≤ tCt t) ∧ (mRo m 3 = 0 ∧ ¬ tCh t = nI 0 ∧ tWi t ≤ 9 ∧ tLt t ≤ 100 ∧ tPl t ≤ 6)
def tOk (m : MdlT) (t : MsnT) : Prop := tOkB m t ∧ tWa t ≤ tPot t
abbrev tThS (t : MsnT) (r v : Nat) : MsnT := ((tOd t, tPw t, tPc t, tSy t), (eN (tTh t) r v, tBa t, tFi t, tHe t), (tWa t, tRu t, tCl t, tK t), (tCt t, tOr t, tLa t, tLt t), (tWo t, tPl t, tCh t, tWi t))
abbrev tBaS (t : MsnT) (r v : Nat) : MsnT := ((tOd t, tPw t, tPc t, tSy t), (tTh t, eN (tBa t) r v, tFi t, tHe t), (tWa t, tRu t, tCl t, tK t), (tCt t, tOr t, tLa t, tLt t), (tWo t, tPl t, tCh t, tWi t))
theorem tB_set {a k : Nat} (hk : k < 18) (h : ¬ a / 2 ^ k % 2 = 1) : tB (a ||| 2 ^ k) = tB a + 1 := by
  have hb : a.testBit k = false := by rw [Nat.testBit_eq_decide_div_mod_eq]; exact decide_eq_false h
  have h1 := fb_ct_upd (fun j => a.testBit j) true (i := k) (n := 18) hk
  have h2 : fb_ct (fun j => (a ||| 2 ^ k).testBit j) 18 = fb_ct (fun j => if j = k then true else a.testBit j) 18 := fb_ct_cong (fun j _ => by
    rw [fb_bit_set]
    by_cases e : j = k <;> simp [e])
  simp only [hb, if_true] at h1
  show fb_ct _ 18 = fb_ct _ 18 + 1
  rw [h2]
  simpa using h1
theorem tPot_th {t : MsnT} {r : Nat} (v : Nat) (hr : r < tRu t) : tPot (tThS t r v) + tB (tTh t r) = tPot t + tB v := by
  have h1 := fb_sm_upd (fun j => 1 + tB (tTh t j) + tB (tBa t j)) (1 + tB v + tB (tBa t r)) (i := r) (n := tRu t) hr
  have h2 : fb_sm (fun j => 1 + tB (eN (tTh t) r v j) + tB (tBa t j)) (tRu t) = fb_sm (fun j => if j = r then 1 + tB v + tB (tBa t r) else 1 + tB (tTh t j) + tB (tBa t j)) (tRu t) := fb_sm_cong (fun j _ => by
    by_cases e : j = r <;> simp [eN, e])
  show fb_sm (fun j => 1 + tB (eN (tTh t) r v j) + tB (tBa t j)) (tRu t) + tB (tTh t r) = fb_sm (fun j => 1 + tB (tTh t j) + tB (tBa t j)) (tRu t) + tB v
  rw [h2]
  omega
theorem tPot_ba {t : MsnT} {r : Nat} (v : Nat) (hr : r < tRu t) : tPot (tBaS t r v) + tB (tBa t r) = tPot t + tB v := by
  have h1 := fb_sm_upd (fun j => 1 + tB (tTh t j) + tB (tBa t j)) (1 + tB (tTh t r) + tB v) (i := r) (n := tRu t) hr
  have h2 : fb_sm (fun j => 1 + tB (tTh t j) + tB (eN (tBa t) r v j)) (tRu t) = fb_sm (fun j => if j = r then 1 + tB (tTh t r) + tB v else 1 + tB (tTh t j) + tB (tBa t j)) (tRu t) := fb_sm_cong (fun j _ => by
    by_cases e : j = r <;> simp [eN, e])
  show fb_sm (fun j => 1 + tB (tTh t j) + tB (eN (tBa t) r v j)) (tRu t) + tB (tBa t r) = fb_sm (fun j => 1 + tB (tTh t j) + tB (tBa t j)) (tRu t) + tB v
  rw [h2]
  omega
theorem tPot_le (t : MsnT) : tPot t ≤ tRu t * 37 := fb_sm_bound (fun k _ => by
  have h1 := fb_ct_le (fun j => (tTh t k).testBit j) 18
  have h2 := fb_ct_le (fun j => (tBa t k).testBit j) 18
  show 1 + fb_ct (fun j => (tTh t k).testBit j) 18 + fb_ct (fun j => (tBa t k).testBit j) 18 ≤ 37
  omega)
theorem tPot_new (t : MsnT) (p y : Nat) : tPot (tMore (tNew p y t)) = tPot t + 1 := by
  show fb_sm (fun j => 1 + tB (eN (tTh t) (tRu t) 0 j) + tB (eN (tBa t) (tRu t) 0 j)) (tRu t + 1) = fb_sm (fun j => 1 + tB (tTh t j) + tB (tBa t j)) (tRu t) + 1
  rw [fb_sm_succ]
  have h2 : fb_sm (fun j => 1 + tB (eN (tTh t) (tRu t) 0 j) + tB (eN (tBa t) (tRu t) 0 j)) (tRu t) = fb_sm (fun j => 1 + tB (tTh t j) + tB (tBa t j)) (tRu t) := fb_sm_cong (fun j hj => by rw [eN_ne _ _ (by omega), eN_ne _ _ (by omega)])
  rw [h2, eN_self, eN_self]
  have h3 : tB 0 = 0 := by decide
  omega
theorem tIns_pw (n z : Nat) : ∀ (k : Nat) (o p : Nat → Nat) (M : Nat), z < M → (∀ j, p j < M) → ∀ j, (tIns n z k o p).2 j < M
  | 0, o, p, M, h1, h2, j => eN_lt h2 h1 j
  | k + 1, o, p, M, h1, h2, j => by
    unfold tIns
    split
    · exact tIns_pw n z k _ _ M h1 (eN_lt h2 (h2 k)) j
    · exact eN_lt h2 h1 j
theorem tIns_all {P : Nat → Prop} (n z : Nat) (hn : P n) : ∀ (k : Nat) (o p : Nat → Nat) (M : Nat), k ≤ M → (∀ j, j ≤ M → j ≠ k → P (o j)) → ∀ j, j ≤ M → P ((tIns n z k o p).1 j)
  | 0, o, p, M, h1, h2, j, hj => by
    show P (eN o 0 n j)
    by_cases e : j = 0
    · rw [e, eN_self]; exact hn
    · rw [eN_ne _ _ e]; exact h2 j hj e
  | k + 1, o, p, M, h1, h2, j, hj => by
    unfold tIns
    split
    · refine tIns_all n z hn k _ _ M (by omega) (fun j hj hk => ?_) j hj
      by_cases e : j = k + 1
      · rw [e, eN_self]; exact h2 k (by omega) (by omega)
      · rw [eN_ne _ _ e]; exact h2 j hj e
    · by_cases e : j = k + 1
      · rw [e]; show P (eN o (k + 1) n (k + 1)); rw [eN_self]; exact hn
      · show P (eN o (k + 1) n j); rw [eN_ne _ _ e]; exact h2 j hj e
theorem tCome_ok {m : MdlT} {t : MsnT} (hB : tOkB m t) (hw : tWa t + 1 ≤ tPot t) {x c r b z : Nat} (hc : c < 12) (hr : r < tRu t) (hb : b < 19) (he : b = 0 ∨ (b - 1 < mP m ∧ (mTu m (4 * (b - 1)) = c ∨ mTu m (4 * (b - 1) + 1) = c))) (hz : z < 128) : tOk m (tCome x c r b z t) ∧ tRu (tCome x c r b z t) = tRu t := by
  by_cases hx : 200 < x
  · rw [tCome_far _ _ _ _ _ _ hx]
    exact ⟨⟨hB, by omega⟩, rfl⟩
  · obtain ⟨h1, h2, h3, h4, h5, h6, h7, h8, h9, h10, h11⟩ := hB
    unfold tCome
    rw [if_neg hx]
    obtain ⟨n, hn⟩ : ∃ n, n = kR x c r b := ⟨_, rfl⟩
    have hn2 : n = ((x * 12 + c) * 17 + r) * 19 + b := hn
    have hent : tEnt m (tRu t) n := by
      have e1 : n % 19 = b := by omega
      have e2 : n / 19 % 17 = r := by omega
      have e3 : n / 19 / 17 % 12 = c := by omega
      refine ⟨by omega, by omega, ?_⟩
      rw [e1, e3]
      exact he
    rw [← hn]
    refine ⟨⟨⟨h1, h2, h3, h4, h5, h6, fun j => tIns_at n z _ _ _ _ (by omega) h7 j, fun j hj => ?_, fun j => tIns_pw n z _ _ _ _ hz h9 j, h10, h11⟩, hw⟩, rfl⟩
    have hj2 : j < tWa t + 1 := hj
    exact tIns_all (P := tEnt m (tRu t)) n z hent (tWa t) (tOd t) (tPw t) (tWa t) (Nat.le_refl _) (fun j h1 h2 => h8 j (by omega)) j (by omega)
theorem or_lt18 {a k : Nat} (h : a < 262144) (hk : k < 18) : a ||| 2 ^ k < 262144 := by
  have h2 : 2 ^ k < 2 ^ 18 := Nat.pow_lt_pow_right (by omega) hk
  exact Nat.or_lt_two_pow (n := 18) h h2
theorem tRoom_th {m : MdlT} {t : MsnT} (hT : tOk m t) {r p : Nat} (hr : r < tRu t) (hp : p < 18) (h : ¬ tTh t r / 2 ^ p % 2 = 1) : tWa t + 1 ≤ tPot (tThS t r (tTh t r ||| 2 ^ p)) ∧ tWa t < 629 := by
  have e1 := tPot_th (tTh t r ||| 2 ^ p) hr
  have e2 := tB_set hp h
  have e3 : tPot (tThS t r (tTh t r ||| 2 ^ p)) ≤ tRu t * 37 := tPot_le (tThS t r (tTh t r ||| 2 ^ p))
  have e4 := hT.1.1.1
  have e5 := hT.2
  omega
theorem tRoom_ba {m : MdlT} {t : MsnT} (hT : tOk m t) {r p : Nat} (hr : r < tRu t) (hp : p < 18) (h : ¬ tBa t r / 2 ^ p % 2 = 1) : tWa t + 1 ≤ tPot (tBaS t r (tBa t r ||| 2 ^ p)) ∧ tWa t < 629 := by
  have e1 := tPot_ba (tBa t r ||| 2 ^ p) hr
  have e2 := tB_set hp h
  have e3 : tPot (tBaS t r (tBa t r ||| 2 ^ p)) ≤ tRu t * 37 := tPot_le (tBaS t r (tBa t r ||| 2 ^ p))
  have e4 := hT.1.1.1
  have e5 := hT.2
  omega
theorem tStr_lt (a : Nat) {z : Nat} (hz : z < 128) : z * (90 - a) / 100 < 128 := by
  have h1 : z * (90 - a) ≤ z * 90 := Nat.mul_le_mul (Nat.le_refl _) (Nat.sub_le _ _)
  omega
theorem tGo_ok {m : MdlT} {t : MsnT} (hM : mOk m) (hT : tOk m t) {x c r p z : Nat} (hr : r < tRu t) (hp : p < mP m) (hc : c < 12) (hz : z < 128) (he : mTu m (4 * p) = c ∨ mTu m (4 * p + 1) = c) : tOk m (tGo m x c r p z t) ∧ tRu (tGo m x c r p z t) = tRu t := by
  obtain ⟨-, mPs, -, -, -, -, -, mTl⟩ := hM
  have h0 := mTl (4 * p)
  have h1 := mTl (4 * p + 1)
  have hz2 := tStr_lt (5 * mTu m (4 * p + 3)) hz
  have ho : tOth m p c < 12 := by show mTu m (4 * p) + mTu m (4 * p + 1) - c < 12; omega
  have hto : p + 1 = 0 ∨ (p + 1 - 1 < mP m ∧ (mTu m (4 * (p + 1 - 1)) = tOth m p c ∨ mTu m (4 * (p + 1 - 1) + 1) = tOth m p c)) := by
    refine Or.inr ⟨by omega, ?_⟩
    rw [Nat.add_sub_cancel]
    show mTu m (4 * p) = mTu m (4 * p) + mTu m (4 * p + 1) - c ∨ mTu m (4 * p + 1) = mTu m (4 * p) + mTu m (4 * p + 1) - c
    omega
  unfold tGo
  split
  · split
    · exact ⟨hT, rfl⟩
    · rename_i hb
      have h9 := (tRoom_th hT hr (by omega) hb).1
      obtain ⟨⟨q1, q2, q3, q4, q5, q6, q7, q8, q9, q10, q11⟩, q12⟩ := hT
      exact tCome_ok (t := tThS t r (tTh t r ||| 2 ^ p)) ⟨q1, q2, q3, q4, fun j => eN_lt q5 (or_lt18 (q5 _) (by omega)) j, q6, q7, q8, q9, q10, q11⟩ h9 ho hr (by omega) hto hz2
  · split
    · exact ⟨hT, rfl⟩
    · rename_i hb
      have h9 := (tRoom_ba hT hr (by omega) hb).1
      obtain ⟨⟨q1, q2, q3, q4, q5, q6, q7, q8, q9, q10, q11⟩, q12⟩ := hT
      exact tCome_ok (t := tBaS t r (tBa t r ||| 2 ^ p)) ⟨q1, q2, q3, q4, q5, fun j => eN_lt q6 (or_lt18 (q6 _) (by omega)) j, q7, q8, q9, q10, q11⟩ h9 ho hr (by omega) hto hz2

theorem hin_X5_hear_X5 : ∀ x ∈ wsX50, x ∈ wsX5_hear := fun x h => List.mem_cons_of_mem _ (List.mem_append_left _ (List.mem_append_right _ h))
theorem hin_X5_hear_X6 : ∀ x ∈ wsX60, x ∈ wsX5_hear := fun x h => List.mem_cons_of_mem _ (List.mem_append_right _ h)
abbrev rm_X5_hear : Room := { frames := 1, cells := 0, slots := 0, locals := 12 }
set_option maxHeartbeats 4000000 in
set_option maxRecDepth 100000 in
theorem c_X5_hear (l : Launch) (D : va_G) (cI cJ cR : ClassId) (ad : Nat → Nat) (f : Nat) (m : MdlT) (t : MsnT) (hM : mOk m) (hT : tOk m t) (x r z : Nat) (hr : r < 17) (hz : z < 128) : ek_M (S := Unit) l yX5_hear wsX5_hear rm_X5_hear D (tyW cI cJ cR) nestW [.ref (ad f), .int (nI x), .int (nI r), .int (nI z)] (wT ad f cI t m) (fun r9 _ => r9 = none ∧ True) (fun _ => wT ad f cI (tHear m x r z t) m) := by
  refine ek_M.of (cc := cX5_hear) (maxL := 6) (ret := none) (by decide) rfl (Nat.le_of_ble_eq_true rfl) ?_
  intro p9 e9 s9 m9 args9 below9 meth9 c9 A X hin
  obtain ⟨⟨mC1, mC2⟩, mPs, mWs, mEs, mTs, mSs, mRs, mTl⟩ := id hM
  obtain ⟨⟨⟨tr1, tr2, tcl⟩, tsy, tsy1, tpc, tth, tba, tod, ten, tpw, ⟨tk1, tk2, tk3⟩, thv⟩, twa⟩ := id hT
  have hpr := tpc r
  have hsr := tsy r
  refine ek_castL (lv' := [(0, .ref (ad f)), (1, .int (nI x)), (2, .int (nI r)), (3, .int (nI z))]) rfl ?_
  refine ek_aln X 0 rfl dX5_hear_0 ?_
  refine ek_get X hin_X5_hear_X5 0 rfl rfl 3 (by decide) (List.mem_of_getElem? (i := 1) rfl) rfl dX5_hear_1 ?_
  refine ek_bp (v := nI 60) X (by decide) dX5_hear_4 ?_
  refine ek_Nne X (by omega) (by omega) 10 (by decide) dX5_hear_6 (fun c_6 => ?_) (fun c_6 => ?_)
  · skip
    refine ek_iln X 3 rfl dX5_hear_10 ?_
    refine ek_aln X 0 rfl dX5_hear_11 ?_
    refine ek_get X hin_X5_hear_X5 0 rfl rfl 20 (by decide) (List.mem_of_getElem? (i := 2) rfl) rfl dX5_hear_12 ?_
    refine ek_getN X hin_X5_hear_X6 9 rfl rfl 4 (by decide) (List.mem_of_getElem? (i := 29) rfl) rfl dX5_hear_15 ?_
    refine ek_Nlt X (by omega) (by omega) 25 (by decide) dX5_hear_18 (fun c_18 => ?_) (fun c_18 => ?_)
    · skip
      refine ek_ic (v := nI 0) X (by decide) dX5_hear_25 ?_
      refine ek_is (lv' := [(4, .int (nI 0)), (0, .ref (ad f)), (1, .int (nI x)), (2, .int (nI r)), (3, .int (nI z))]) X (by decide) rfl dX5_hear_26 ?_
      refine ek_ic (v := nI 5) X (by decide) dX5_hear_28 ?_
      refine ek_aln X 1 rfl dX5_hear_29 ?_
      refine ek_get X hin_X5_hear_X5 0 rfl rfl 3 (by decide) (List.mem_of_getElem? (i := 1) rfl) rfl dX5_hear_30 ?_
      refine ek_Nmul X dX5_hear_33 ?_
      refine ek_is (lv' := [(5, .int (nI (5 * (tK t)))), (4, .int (nI 0)), (0, .ref (ad f)), (1, .int (nI x)), (2, .int (nI r)), (3, .int (nI z))]) X (by decide) rfl dX5_hear_34 ?_
      refine ek_aln X 2 rfl dX5_hear_36 ?_
      refine ek_get X hin_X5_hear_X5 0 rfl rfl 13 (by decide) (List.mem_of_getElem? (i := 3) rfl) rfl dX5_hear_37 ?_
      refine ek_il X 0 rfl dX5_hear_40 ?_
      refine ek_iln X 3 rfl dX5_hear_42 ?_
      refine ek_Nast (w' := wT ad f cI ((tOd t, tPw t, tPc t, tSy t), (tTh t, tBa t, tFi t, eN (tHe t) (5 * (tK t)) x), (tWa t, tRu t, tCl t, tK t), (tCt t, tOr t, tLa t, tLt t), (tWo t, tPl t, tCh t, tWi t)) m) X 2 0 rfl rfl (by omega) (by omega) rfl dX5_hear_43 ?_
      refine ek_aln X 2 rfl dX5_hear_44 ?_
      refine ek_get X hin_X5_hear_X5 0 rfl rfl 13 (by decide) (List.mem_of_getElem? (i := 3) rfl) rfl dX5_hear_45 ?_
      refine ek_il X 0 rfl dX5_hear_48 ?_
      refine ek_ic (v := nI 1) X (by decide) dX5_hear_50 ?_
      refine ek_Nadd X dX5_hear_51 ?_
      refine ek_aln X 2 rfl dX5_hear_52 ?_
      refine ek_get X hin_X5_hear_X5 0 rfl rfl 14 (by decide) (List.mem_of_getElem? (i := 4) rfl) rfl dX5_hear_53 ?_
      refine ek_iln X 4 rfl dX5_hear_56 ?_
      refine ek_ald X 3 0 rfl rfl (by omega) (by omega) dX5_hear_57 ?_
      refine ek_top (v' := nI ((tPc t) r)) rfl ?_
      refine ek_Nast (w' := wT ad f cI ((tOd t, tPw t, tPc t, tSy t), (tTh t, tBa t, tFi t, eN (eN (tHe t) (5 * (tK t)) x) ((5 * (tK t)) + 1) ((tPc t) r)), (tWa t, tRu t, tCl t, tK t), (tCt t, tOr t, tLa t, tLt t), (tWo t, tPl t, tCh t, tWi t)) m) X 2 0 rfl rfl (by omega) (by omega) rfl dX5_hear_58 ?_
      refine ek_aln X 2 rfl dX5_hear_59 ?_
      refine ek_get X hin_X5_hear_X5 0 rfl rfl 13 (by decide) (List.mem_of_getElem? (i := 3) rfl) rfl dX5_hear_60 ?_
      refine ek_il X 0 rfl dX5_hear_63 ?_
      refine ek_ic (v := nI 2) X (by decide) dX5_hear_65 ?_
      refine ek_Nadd X dX5_hear_66 ?_
      refine ek_aln X 2 rfl dX5_hear_67 ?_
      refine ek_get X hin_X5_hear_X5 0 rfl rfl 15 (by decide) (List.mem_of_getElem? (i := 5) rfl) rfl dX5_hear_68 ?_
      refine ek_iln X 4 rfl dX5_hear_71 ?_
      refine ek_ald X 4 0 rfl rfl (by omega) (by omega) dX5_hear_72 ?_
      refine ek_top (v' := nI ((tSy t) r)) rfl ?_
      refine ek_Nast (w' := wT ad f cI ((tOd t, tPw t, tPc t, tSy t), (tTh t, tBa t, tFi t, eN (eN (eN (tHe t) (5 * (tK t)) x) ((5 * (tK t)) + 1) ((tPc t) r)) ((5 * (tK t)) + 2) ((tSy t) r)), (tWa t, tRu t, tCl t, tK t), (tCt t, tOr t, tLa t, tLt t), (tWo t, tPl t, tCh t, tWi t)) m) X 2 0 rfl rfl (by omega) (by omega) rfl dX5_hear_73 ?_
      refine ek_aln X 2 rfl dX5_hear_74 ?_
      refine ek_get X hin_X5_hear_X5 0 rfl rfl 13 (by decide) (List.mem_of_getElem? (i := 3) rfl) rfl dX5_hear_75 ?_
      refine ek_il X 0 rfl dX5_hear_78 ?_
      refine ek_ic (v := nI 3) X (by decide) dX5_hear_80 ?_
      refine ek_Nadd X dX5_hear_81 ?_
      refine ek_iln X 5 rfl dX5_hear_82 ?_
      refine ek_Nast (w' := wT ad f cI ((tOd t, tPw t, tPc t, tSy t), (tTh t, tBa t, tFi t, eN (eN (eN (eN (tHe t) (5 * (tK t)) x) ((5 * (tK t)) + 1) ((tPc t) r)) ((5 * (tK t)) + 2) ((tSy t) r)) ((5 * (tK t)) + 3) z), (tWa t, tRu t, tCl t, tK t), (tCt t, tOr t, tLa t, tLt t), (tWo t, tPl t, tCh t, tWi t)) m) X 2 0 rfl rfl (by omega) (by omega) rfl dX5_hear_83 ?_
      refine ek_aln X 2 rfl dX5_hear_84 ?_
      refine ek_get X hin_X5_hear_X5 0 rfl rfl 13 (by decide) (List.mem_of_getElem? (i := 3) rfl) rfl dX5_hear_85 ?_
      refine ek_il X 0 rfl dX5_hear_88 ?_
      refine ek_ic (v := nI 4) X (by decide) dX5_hear_90 ?_
      refine ek_Nadd X dX5_hear_91 ?_
      refine ek_il X 1 rfl dX5_hear_92 ?_
      refine ek_Zeq X (by omega) 101 (by decide) dX5_hear_94 (fun _ => ?_) (fun h => absurd h (by omega))
      refine ek_ic (v := nI 0) X (by decide) dX5_hear_101 ?_
      refine ek_Nast (w' := wT ad f cI ((tOd t, tPw t, tPc t, tSy t), (tTh t, tBa t, tFi t, eN (eN (eN (eN (eN (tHe t) (5 * (tK t)) x) ((5 * (tK t)) + 1) ((tPc t) r)) ((5 * (tK t)) + 2) ((tSy t) r)) ((5 * (tK t)) + 3) z) ((5 * (tK t)) + 4) 0), (tWa t, tRu t, tCl t, tK t), (tCt t, tOr t, tLa t, tLt t), (tWo t, tPl t, tCh t, tWi t)) m) X 2 0 rfl rfl (by omega) (by omega) rfl dX5_hear_102 ?_
      refine ek_aln X 2 rfl dX5_hear_103 ?_
      refine ek_dup X rfl dX5_hear_104 ?_
      refine ek_get X hin_X5_hear_X5 0 rfl rfl 3 (by decide) (List.mem_of_getElem? (i := 1) rfl) rfl dX5_hear_105 ?_
      refine ek_top (v' := nI (tK t)) rfl ?_
      refine ek_ic (v := nI 1) X (by decide) dX5_hear_108 ?_
      refine ek_Nadd X dX5_hear_109 ?_
      refine ek_put (w' := wT ad f cI ((tOd t, tPw t, tPc t, tSy t), (tTh t, tBa t, tFi t, eN (eN (eN (eN (eN (tHe t) (5 * (tK t)) x) ((5 * (tK t)) + 1) ((tPc t) r)) ((5 * (tK t)) + 2) ((tSy t) r)) ((5 * (tK t)) + 3) z) ((5 * (tK t)) + 4) 0), (tWa t, tRu t, tCl t, (tK t) + 1), (tCt t, tOr t, tLa t, tLt t), (tWo t, tPl t, tCh t, tWi t)) m) X hin_X5_hear_X5 tyX5 tyX5_ok nmX5 0 rfl rfl 3 (by decide) (List.mem_of_getElem? (i := 1) rfl) rfl rfl rfl rfl (Nat.le_of_ble_eq_true rfl) rfl dX5_hear_110 ?_
      refine ek_il X 1 rfl dX5_hear_113 ?_
      refine ek_Zne X (by omega) 119 (by decide) dX5_hear_115 (fun h => absurd h (by omega)) (fun _ => ?_)
      exact ek_retv X () ⟨rfl, trivial⟩ (by unfold tHear; first | (exfalso; omega) | rw [if_pos (by omega)] | (rw [if_neg (by omega), if_neg (by omega)]; unfold tKeep; rw [if_neg (by omega)]) | (rw [if_neg (by omega), if_pos (by omega)]; unfold tCount tKeep; rw [if_pos (show mEar m ≤ z by omega)]; first | rw [if_pos (show tFi t (tPc t r) = -1 by assumption), if_pos (show tPc t r = tOr t by assumption)] | rw [if_pos (show tFi t (tPc t r) = -1 by assumption), if_neg (show ¬ tPc t r = tOr t by assumption)] | rw [if_neg (show ¬ tFi t (tPc t r) = -1 by assumption), if_pos (show tPc t r = tOr t by assumption)] | rw [if_neg (show ¬ tFi t (tPc t r) = -1 by assumption), if_neg (show ¬ tPc t r = tOr t by assumption)])) dX5_hear_118
    · skip
      refine ek_ic (v := nI 1) X (by decide) dX5_hear_21 ?_
      refine ek_goto X 26 (by decide) dX5_hear_22 ?_
      refine ek_is (lv' := [(4, .int (nI 1)), (0, .ref (ad f)), (1, .int (nI x)), (2, .int (nI r)), (3, .int (nI z))]) X (by decide) rfl dX5_hear_26 ?_
      refine ek_ic (v := nI 5) X (by decide) dX5_hear_28 ?_
      refine ek_aln X 1 rfl dX5_hear_29 ?_
      refine ek_get X hin_X5_hear_X5 0 rfl rfl 3 (by decide) (List.mem_of_getElem? (i := 1) rfl) rfl dX5_hear_30 ?_
      refine ek_Nmul X dX5_hear_33 ?_
      refine ek_is (lv' := [(5, .int (nI (5 * (tK t)))), (4, .int (nI 1)), (0, .ref (ad f)), (1, .int (nI x)), (2, .int (nI r)), (3, .int (nI z))]) X (by decide) rfl dX5_hear_34 ?_
      refine ek_aln X 2 rfl dX5_hear_36 ?_
      refine ek_get X hin_X5_hear_X5 0 rfl rfl 13 (by decide) (List.mem_of_getElem? (i := 3) rfl) rfl dX5_hear_37 ?_
      refine ek_il X 0 rfl dX5_hear_40 ?_
      refine ek_iln X 3 rfl dX5_hear_42 ?_
      refine ek_Nast (w' := wT ad f cI ((tOd t, tPw t, tPc t, tSy t), (tTh t, tBa t, tFi t, eN (tHe t) (5 * (tK t)) x), (tWa t, tRu t, tCl t, tK t), (tCt t, tOr t, tLa t, tLt t), (tWo t, tPl t, tCh t, tWi t)) m) X 2 0 rfl rfl (by omega) (by omega) rfl dX5_hear_43 ?_
      refine ek_aln X 2 rfl dX5_hear_44 ?_
      refine ek_get X hin_X5_hear_X5 0 rfl rfl 13 (by decide) (List.mem_of_getElem? (i := 3) rfl) rfl dX5_hear_45 ?_
      refine ek_il X 0 rfl dX5_hear_48 ?_
      refine ek_ic (v := nI 1) X (by decide) dX5_hear_50 ?_
      refine ek_Nadd X dX5_hear_51 ?_
      refine ek_aln X 2 rfl dX5_hear_52 ?_
      refine ek_get X hin_X5_hear_X5 0 rfl rfl 14 (by decide) (List.mem_of_getElem? (i := 4) rfl) rfl dX5_hear_53 ?_
      refine ek_iln X 4 rfl dX5_hear_56 ?_
      refine ek_ald X 3 0 rfl rfl (by omega) (by omega) dX5_hear_57 ?_
      refine ek_top (v' := nI ((tPc t) r)) rfl ?_
      refine ek_Nast (w' := wT ad f cI ((tOd t, tPw t, tPc t, tSy t), (tTh t, tBa t, tFi t, eN (eN (tHe t) (5 * (tK t)) x) ((5 * (tK t)) + 1) ((tPc t) r)), (tWa t, tRu t, tCl t, tK t), (tCt t, tOr t, tLa t, tLt t), (tWo t, tPl t, tCh t, tWi t)) m) X 2 0 rfl rfl (by omega) (by omega) rfl dX5_hear_58 ?_
      refine ek_aln X 2 rfl dX5_hear_59 ?_
      refine ek_get X hin_X5_hear_X5 0 rfl rfl 13 (by decide) (List.mem_of_getElem? (i := 3) rfl) rfl dX5_hear_60 ?_
      refine ek_il X 0 rfl dX5_hear_63 ?_
      refine ek_ic (v := nI 2) X (by decide) dX5_hear_65 ?_
      refine ek_Nadd X dX5_hear_66 ?_
      refine ek_aln X 2 rfl dX5_hear_67 ?_
      refine ek_get X hin_X5_hear_X5 0 rfl rfl 15 (by decide) (List.mem_of_getElem? (i := 5) rfl) rfl dX5_hear_68 ?_
      refine ek_iln X 4 rfl dX5_hear_71 ?_
      refine ek_ald X 4 0 rfl rfl (by omega) (by omega) dX5_hear_72 ?_
      refine ek_top (v' := nI ((tSy t) r)) rfl ?_
      refine ek_Nast (w' := wT ad f cI ((tOd t, tPw t, tPc t, tSy t), (tTh t, tBa t, tFi t, eN (eN (eN (tHe t) (5 * (tK t)) x) ((5 * (tK t)) + 1) ((tPc t) r)) ((5 * (tK t)) + 2) ((tSy t) r)), (tWa t, tRu t, tCl t, tK t), (tCt t, tOr t, tLa t, tLt t), (tWo t, tPl t, tCh t, tWi t)) m) X 2 0 rfl rfl (by omega) (by omega) rfl dX5_hear_73 ?_
      refine ek_aln X 2 rfl dX5_hear_74 ?_
      refine ek_get X hin_X5_hear_X5 0 rfl rfl 13 (by decide) (List.mem_of_getElem? (i := 3) rfl) rfl dX5_hear_75 ?_
      refine ek_il X 0 rfl dX5_hear_78 ?_
      refine ek_ic (v := nI 3) X (by decide) dX5_hear_80 ?_
      refine ek_Nadd X dX5_hear_81 ?_
      refine ek_iln X 5 rfl dX5_hear_82 ?_
      refine ek_Nast (w' := wT ad f cI ((tOd t, tPw t, tPc t, tSy t), (tTh t, tBa t, tFi t, eN (eN (eN (eN (tHe t) (5 * (tK t)) x) ((5 * (tK t)) + 1) ((tPc t) r)) ((5 * (tK t)) + 2) ((tSy t) r)) ((5 * (tK t)) + 3) z), (tWa t, tRu t, tCl t, tK t), (tCt t, tOr t, tLa t, tLt t), (tWo t, tPl t, tCh t, tWi t)) m) X 2 0 rfl rfl (by omega) (by omega) rfl dX5_hear_83 ?_
      refine ek_aln X 2 rfl dX5_hear_84 ?_
      refine ek_get X hin_X5_hear_X5 0 rfl rfl 13 (by decide) (List.mem_of_getElem? (i := 3) rfl) rfl dX5_hear_85 ?_
      refine ek_il X 0 rfl dX5_hear_88 ?_
      refine ek_ic (v := nI 4) X (by decide) dX5_hear_90 ?_
      refine ek_Nadd X dX5_hear_91 ?_
      refine ek_il X 1 rfl dX5_hear_92 ?_
      refine ek_Zeq X (by omega) 101 (by decide) dX5_hear_94 (fun h => absurd h (by omega)) (fun _ => ?_)
      refine ek_ic (v := nI 1) X (by decide) dX5_hear_97 ?_
      refine ek_goto X 102 (by decide) dX5_hear_98 ?_
      refine ek_Nast (w' := wT ad f cI ((tOd t, tPw t, tPc t, tSy t), (tTh t, tBa t, tFi t, eN (eN (eN (eN (eN (tHe t) (5 * (tK t)) x) ((5 * (tK t)) + 1) ((tPc t) r)) ((5 * (tK t)) + 2) ((tSy t) r)) ((5 * (tK t)) + 3) z) ((5 * (tK t)) + 4) 1), (tWa t, tRu t, tCl t, tK t), (tCt t, tOr t, tLa t, tLt t), (tWo t, tPl t, tCh t, tWi t)) m) X 2 0 rfl rfl (by omega) (by omega) rfl dX5_hear_102 ?_
      refine ek_aln X 2 rfl dX5_hear_103 ?_
      refine ek_dup X rfl dX5_hear_104 ?_
      refine ek_get X hin_X5_hear_X5 0 rfl rfl 3 (by decide) (List.mem_of_getElem? (i := 1) rfl) rfl dX5_hear_105 ?_
      refine ek_top (v' := nI (tK t)) rfl ?_
      refine ek_ic (v := nI 1) X (by decide) dX5_hear_108 ?_
      refine ek_Nadd X dX5_hear_109 ?_
      refine ek_put (w' := wT ad f cI ((tOd t, tPw t, tPc t, tSy t), (tTh t, tBa t, tFi t, eN (eN (eN (eN (eN (tHe t) (5 * (tK t)) x) ((5 * (tK t)) + 1) ((tPc t) r)) ((5 * (tK t)) + 2) ((tSy t) r)) ((5 * (tK t)) + 3) z) ((5 * (tK t)) + 4) 1), (tWa t, tRu t, tCl t, (tK t) + 1), (tCt t, tOr t, tLa t, tLt t), (tWo t, tPl t, tCh t, tWi t)) m) X hin_X5_hear_X5 tyX5 tyX5_ok nmX5 0 rfl rfl 3 (by decide) (List.mem_of_getElem? (i := 1) rfl) rfl rfl rfl rfl (Nat.le_of_ble_eq_true rfl) rfl dX5_hear_110 ?_
      refine ek_il X 1 rfl dX5_hear_113 ?_
      refine ek_Zne X (by omega) 119 (by decide) dX5_hear_115 (fun _ => ?_) (fun h => absurd h (by omega))
      refine ek_aln X 2 rfl dX5_hear_119 ?_
      refine ek_dup X rfl dX5_hear_120 ?_
      refine ek_get X hin_X5_hear_X5 0 rfl rfl 4 (by decide) (List.mem_of_getElem? (i := 6) rfl) rfl dX5_hear_121 ?_
      refine ek_top (v' := nI (tCt t)) rfl ?_
      refine ek_ic (v := nI 1) X (by decide) dX5_hear_124 ?_
      refine ek_Nadd X dX5_hear_125 ?_
      refine ek_put (w' := wT ad f cI ((tOd t, tPw t, tPc t, tSy t), (tTh t, tBa t, tFi t, eN (eN (eN (eN (eN (tHe t) (5 * (tK t)) x) ((5 * (tK t)) + 1) ((tPc t) r)) ((5 * (tK t)) + 2) ((tSy t) r)) ((5 * (tK t)) + 3) z) ((5 * (tK t)) + 4) 1), (tWa t, tRu t, tCl t, (tK t) + 1), ((tCt t) + 1, tOr t, tLa t, tLt t), (tWo t, tPl t, tCh t, tWi t)) m) X hin_X5_hear_X5 tyX5 tyX5_ok nmX5 0 rfl rfl 4 (by decide) (List.mem_of_getElem? (i := 6) rfl) rfl rfl rfl rfl (Nat.le_of_ble_eq_true rfl) rfl dX5_hear_126 ?_
      refine ek_aln X 2 rfl dX5_hear_129 ?_
      refine ek_iln X 3 rfl dX5_hear_130 ?_
      refine ek_put (w' := wT ad f cI ((tOd t, tPw t, tPc t, tSy t), (tTh t, tBa t, tFi t, eN (eN (eN (eN (eN (tHe t) (5 * (tK t)) x) ((5 * (tK t)) + 1) ((tPc t) r)) ((5 * (tK t)) + 2) ((tSy t) r)) ((5 * (tK t)) + 3) z) ((5 * (tK t)) + 4) 1), (tWa t, tRu t, tCl t, (tK t) + 1), ((tCt t) + 1, tOr t, nI x, tLt t), (tWo t, tPl t, tCh t, tWi t)) m) X hin_X5_hear_X5 tyX5 tyX5_ok nmX5 0 rfl rfl 6 (by decide) (List.mem_of_getElem? (i := 7) rfl) rfl rfl rfl rfl (Nat.le_of_ble_eq_true rfl) rfl dX5_hear_131 ?_
      refine ek_aln X 2 rfl dX5_hear_134 ?_
      refine ek_get X hin_X5_hear_X5 0 rfl rfl 12 (by decide) (List.mem_of_getElem? (i := 8) rfl) rfl dX5_hear_135 ?_
      refine ek_aln X 2 rfl dX5_hear_138 ?_
      refine ek_get X hin_X5_hear_X5 0 rfl rfl 14 (by decide) (List.mem_of_getElem? (i := 4) rfl) rfl dX5_hear_139 ?_
      refine ek_iln X 4 rfl dX5_hear_142 ?_
      refine ek_ald X 3 0 rfl rfl (by omega) (by omega) dX5_hear_143 ?_
      refine ek_top (v' := nI ((tPc t) r)) rfl ?_
      refine ek_ald X 1 0 rfl rfl (by omega) (by omega) dX5_hear_144 ?_
      refine ek_top (v' := (tFi t) ((tPc t) r)) rfl ?_
      refine ek_ic (v := -1) X (by decide) dX5_hear_145 ?_
      refine ek_icmp_ne X 161 (by decide) dX5_hear_146 (fun c_146 => ?_) (fun c_146 => ?_)
      · skip
        refine ek_aln X 2 rfl dX5_hear_161 ?_
        refine ek_get X hin_X5_hear_X5 0 rfl rfl 14 (by decide) (List.mem_of_getElem? (i := 4) rfl) rfl dX5_hear_162 ?_
        refine ek_iln X 4 rfl dX5_hear_165 ?_
        refine ek_ald X 3 0 rfl rfl (by omega) (by omega) dX5_hear_166 ?_
        refine ek_top (v' := nI ((tPc t) r)) rfl ?_
        refine ek_aln X 2 rfl dX5_hear_167 ?_
        refine ek_get X hin_X5_hear_X5 0 rfl rfl 5 (by decide) (List.mem_of_getElem? (i := 9) rfl) rfl dX5_hear_168 ?_
        refine ek_top (v' := nI (tOr t)) rfl ?_
        refine ek_Nne X (by omega) (by omega) 184 (by decide) dX5_hear_171 (fun c_171 => ?_) (fun c_171 => ?_)
        · skip
          exact ek_retv X () ⟨rfl, trivial⟩ (by unfold tHear; first | (exfalso; omega) | rw [if_pos (by omega)] | (rw [if_neg (by omega), if_neg (by omega)]; unfold tKeep; rw [if_neg (by omega)]) | (rw [if_neg (by omega), if_pos (by omega)]; unfold tCount tKeep; rw [if_pos (show mEar m ≤ z by omega)]; first | rw [if_pos (show tFi t (tPc t r) = -1 by assumption), if_pos (show tPc t r = tOr t by assumption)] | rw [if_pos (show tFi t (tPc t r) = -1 by assumption), if_neg (show ¬ tPc t r = tOr t by assumption)] | rw [if_neg (show ¬ tFi t (tPc t r) = -1 by assumption), if_pos (show tPc t r = tOr t by assumption)] | rw [if_neg (show ¬ tFi t (tPc t r) = -1 by assumption), if_neg (show ¬ tPc t r = tOr t by assumption)])) dX5_hear_184
        · skip
          refine ek_aln X 2 rfl dX5_hear_174 ?_
          refine ek_dup X rfl dX5_hear_175 ?_
          refine ek_get X hin_X5_hear_X5 0 rfl rfl 5 (by decide) (List.mem_of_getElem? (i := 9) rfl) rfl dX5_hear_176 ?_
          refine ek_top (v' := nI (tOr t)) rfl ?_
          refine ek_ic (v := nI 1) X (by decide) dX5_hear_179 ?_
          refine ek_Nadd X dX5_hear_180 ?_
          refine ek_put (w' := wT ad f cI ((tOd t, tPw t, tPc t, tSy t), (tTh t, tBa t, tFi t, eN (eN (eN (eN (eN (tHe t) (5 * (tK t)) x) ((5 * (tK t)) + 1) ((tPc t) r)) ((5 * (tK t)) + 2) ((tSy t) r)) ((5 * (tK t)) + 3) z) ((5 * (tK t)) + 4) 1), (tWa t, tRu t, tCl t, (tK t) + 1), ((tCt t) + 1, (tOr t) + 1, nI x, tLt t), (tWo t, tPl t, tCh t, tWi t)) m) X hin_X5_hear_X5 tyX5 tyX5_ok nmX5 0 rfl rfl 5 (by decide) (List.mem_of_getElem? (i := 9) rfl) rfl rfl rfl rfl (Nat.le_of_ble_eq_true rfl) rfl dX5_hear_181 ?_
          exact ek_retv X () ⟨rfl, trivial⟩ (by unfold tHear; first | (exfalso; omega) | rw [if_pos (by omega)] | (rw [if_neg (by omega), if_neg (by omega)]; unfold tKeep; rw [if_neg (by omega)]) | (rw [if_neg (by omega), if_pos (by omega)]; unfold tCount tKeep; rw [if_pos (show mEar m ≤ z by omega)]; first | rw [if_pos (show tFi t (tPc t r) = -1 by assumption), if_pos (show tPc t r = tOr t by assumption)] | rw [if_pos (show tFi t (tPc t r) = -1 by assumption), if_neg (show ¬ tPc t r = tOr t by assumption)] | rw [if_neg (show ¬ tFi t (tPc t r) = -1 by assumption), if_pos (show tPc t r = tOr t by assumption)] | rw [if_neg (show ¬ tFi t (tPc t r) = -1 by assumption), if_neg (show ¬ tPc t r = tOr t by assumption)])) dX5_hear_184
      · skip
        refine ek_aln X 2 rfl dX5_hear_149 ?_
        refine ek_get X hin_X5_hear_X5 0 rfl rfl 12 (by decide) (List.mem_of_getElem? (i := 8) rfl) rfl dX5_hear_150 ?_
        refine ek_aln X 2 rfl dX5_hear_153 ?_
        refine ek_get X hin_X5_hear_X5 0 rfl rfl 14 (by decide) (List.mem_of_getElem? (i := 4) rfl) rfl dX5_hear_154 ?_
        refine ek_iln X 4 rfl dX5_hear_157 ?_
        refine ek_ald X 3 0 rfl rfl (by omega) (by omega) dX5_hear_158 ?_
        refine ek_top (v' := nI ((tPc t) r)) rfl ?_
        refine ek_iln X 3 rfl dX5_hear_159 ?_
        refine ek_ast (w' := wT ad f cI ((tOd t, tPw t, tPc t, tSy t), (tTh t, tBa t, eN (tFi t) ((tPc t) r) (nI x), eN (eN (eN (eN (eN (tHe t) (5 * (tK t)) x) ((5 * (tK t)) + 1) ((tPc t) r)) ((5 * (tK t)) + 2) ((tSy t) r)) ((5 * (tK t)) + 3) z) ((5 * (tK t)) + 4) 1), (tWa t, tRu t, tCl t, (tK t) + 1), ((tCt t) + 1, tOr t, nI x, tLt t), (tWo t, tPl t, tCh t, tWi t)) m) X 1 0 rfl rfl (by omega) (by omega) rfl dX5_hear_160 ?_
        refine ek_aln X 2 rfl dX5_hear_161 ?_
        refine ek_get X hin_X5_hear_X5 0 rfl rfl 14 (by decide) (List.mem_of_getElem? (i := 4) rfl) rfl dX5_hear_162 ?_
        refine ek_iln X 4 rfl dX5_hear_165 ?_
        refine ek_ald X 3 0 rfl rfl (by omega) (by omega) dX5_hear_166 ?_
        refine ek_top (v' := nI ((tPc t) r)) rfl ?_
        refine ek_aln X 2 rfl dX5_hear_167 ?_
        refine ek_get X hin_X5_hear_X5 0 rfl rfl 5 (by decide) (List.mem_of_getElem? (i := 9) rfl) rfl dX5_hear_168 ?_
        refine ek_top (v' := nI (tOr t)) rfl ?_
        refine ek_Nne X (by omega) (by omega) 184 (by decide) dX5_hear_171 (fun c_171 => ?_) (fun c_171 => ?_)
        · skip
          exact ek_retv X () ⟨rfl, trivial⟩ (by unfold tHear; first | (exfalso; omega) | rw [if_pos (by omega)] | (rw [if_neg (by omega), if_neg (by omega)]; unfold tKeep; rw [if_neg (by omega)]) | (rw [if_neg (by omega), if_pos (by omega)]; unfold tCount tKeep; rw [if_pos (show mEar m ≤ z by omega)]; first | rw [if_pos (show tFi t (tPc t r) = -1 by assumption), if_pos (show tPc t r = tOr t by assumption)] | rw [if_pos (show tFi t (tPc t r) = -1 by assumption), if_neg (show ¬ tPc t r = tOr t by assumption)] | rw [if_neg (show ¬ tFi t (tPc t r) = -1 by assumption), if_pos (show tPc t r = tOr t by assumption)] | rw [if_neg (show ¬ tFi t (tPc t r) = -1 by assumption), if_neg (show ¬ tPc t r = tOr t by assumption)])) dX5_hear_184
        · skip
          refine ek_aln X 2 rfl dX5_hear_174 ?_
          refine ek_dup X rfl dX5_hear_175 ?_
          refine ek_get X hin_X5_hear_X5 0 rfl rfl 5 (by decide) (List.mem_of_getElem? (i := 9) rfl) rfl dX5_hear_176 ?_
          refine ek_top (v' := nI (tOr t)) rfl ?_
          refine ek_ic (v := nI 1) X (by decide) dX5_hear_179 ?_
          refine ek_Nadd X dX5_hear_180 ?_
          refine ek_put (w' := wT ad f cI ((tOd t, tPw t, tPc t, tSy t), (tTh t, tBa t, eN (tFi t) ((tPc t) r) (nI x), eN (eN (eN (eN (eN (tHe t) (5 * (tK t)) x) ((5 * (tK t)) + 1) ((tPc t) r)) ((5 * (tK t)) + 2) ((tSy t) r)) ((5 * (tK t)) + 3) z) ((5 * (tK t)) + 4) 1), (tWa t, tRu t, tCl t, (tK t) + 1), ((tCt t) + 1, (tOr t) + 1, nI x, tLt t), (tWo t, tPl t, tCh t, tWi t)) m) X hin_X5_hear_X5 tyX5 tyX5_ok nmX5 0 rfl rfl 5 (by decide) (List.mem_of_getElem? (i := 9) rfl) rfl rfl rfl rfl (Nat.le_of_ble_eq_true rfl) rfl dX5_hear_181 ?_
          exact ek_retv X () ⟨rfl, trivial⟩ (by unfold tHear; first | (exfalso; omega) | rw [if_pos (by omega)] | (rw [if_neg (by omega), if_neg (by omega)]; unfold tKeep; rw [if_neg (by omega)]) | (rw [if_neg (by omega), if_pos (by omega)]; unfold tCount tKeep; rw [if_pos (show mEar m ≤ z by omega)]; first | rw [if_pos (show tFi t (tPc t r) = -1 by assumption), if_pos (show tPc t r = tOr t by assumption)] | rw [if_pos (show tFi t (tPc t r) = -1 by assumption), if_neg (show ¬ tPc t r = tOr t by assumption)] | rw [if_neg (show ¬ tFi t (tPc t r) = -1 by assumption), if_pos (show tPc t r = tOr t by assumption)] | rw [if_neg (show ¬ tFi t (tPc t r) = -1 by assumption), if_neg (show ¬ tPc t r = tOr t by assumption)])) dX5_hear_184
  · skip
    exact ek_retv X () ⟨rfl, trivial⟩ (by unfold tHear; first | (exfalso; omega) | rw [if_pos (by omega)] | (rw [if_neg (by omega), if_neg (by omega)]; unfold tKeep; rw [if_neg (by omega)]) | (rw [if_neg (by omega), if_pos (by omega)]; unfold tCount tKeep; rw [if_pos (show mEar m ≤ z by omega)]; first | rw [if_pos (show tFi t (tPc t r) = -1 by assumption), if_pos (show tPc t r = tOr t by assumption)] | rw [if_pos (show tFi t (tPc t r) = -1 by assumption), if_neg (show ¬ tPc t r = tOr t by assumption)] | rw [if_neg (show ¬ tFi t (tPc t r) = -1 by assumption), if_pos (show tPc t r = tOr t by assumption)] | rw [if_neg (show ¬ tFi t (tPc t r) = -1 by assumption), if_neg (show ¬ tPc t r = tOr t by assumption)])) dX5_hear_9

theorem hin_X5_go_X5 : ∀ x ∈ wsX50, x ∈ wsX5_go := fun x h => List.mem_cons_of_mem _ (List.mem_append_left _ (List.mem_append_right _ h))
theorem hin_X5_go_X6 : ∀ x ∈ wsX60, x ∈ wsX5_go := fun x h => List.mem_cons_of_mem _ (List.mem_append_right _ h)
abbrev rm_X5_go : Room := { frames := 2, cells := 0, slots := 0, locals := 39 }
set_option maxHeartbeats 4000000 in
set_option maxRecDepth 100000 in
theorem c_X5_go (l : Launch) (D : va_G) (cI cJ cR : ClassId) (ad : Nat → Nat) (f : Nat) (m : MdlT) (t : MsnT) (hM : mOk m) (hT : tOk m t) (x c r p z : Nat) (hx : x < 1000) (hc : c < 12) (hr : r < tRu t) (hp : p < mP m) (hz : z < 128) (he : mTu m (4 * p) = c ∨ mTu m (4 * p + 1) = c) : ek_M (S := Unit) l yX5_go wsX5_go rm_X5_go D (tyW cI cJ cR) nestW [.ref (ad f), .int (nI x), .int (nI c), .int (nI r), .int (nI p), .int (nI z)] (wT ad f cI t m) (fun r9 _ => r9 = none ∧ True) (fun _ => wT ad f cI (tGo m x c r p z t) m) := by
  refine ek_M.of (cc := cX5_go) (maxL := 8) (ret := none) (by decide) rfl (Nat.le_of_ble_eq_true rfl) ?_
  intro p9 e9 s9 m9 args9 below9 meth9 c9 A X hin
  obtain ⟨⟨mC1, mC2⟩, mPs, mWs, mEs, mTs, mSs, mRs, mTl⟩ := id hM
  obtain ⟨⟨⟨tr1, tr2, tcl⟩, tsy, tsy1, tpc, tth, tba, tod, ten, tpw, ⟨tk1, tk2, tk3⟩, thv⟩, twa⟩ := id hT
  have htr := tth r
  have hbr := tba r
  have hu0 := mTl (4 * p)
  have hu1 := mTl (4 * p + 1)
  have hu2 := mTl (4 * p + 2)
  have hu3 := mTl (4 * p + 3)
  have hz9 : z * (90 - 5 * mTu m (4 * p + 3)) ≤ 127 * 90 := Nat.mul_le_mul (by omega) (Nat.sub_le _ _)
  refine ek_castL (lv' := [(0, .ref (ad f)), (1, .int (nI x)), (2, .int (nI c)), (3, .int (nI r)), (4, .int (nI p)), (5, .int (nI z))]) rfl ?_
  refine ek_aln X 0 rfl dX5_go_0 ?_
  refine ek_get X hin_X5_go_X5 0 rfl rfl 20 (by decide) (List.mem_of_getElem? (i := 1) rfl) rfl dX5_go_1 ?_
  refine ek_getN X hin_X5_go_X6 9 rfl rfl 7 (by decide) (List.mem_of_getElem? (i := 31) rfl) rfl dX5_go_4 ?_
  refine ek_ic (v := nI 4) X (by decide) dX5_go_7 ?_
  refine ek_il X 4 rfl dX5_go_8 ?_
  refine ek_Nmul X dX5_go_10 ?_
  refine ek_ald X 11 0 rfl rfl (by omega) (by omega) dX5_go_11 ?_
  have b1_11 := mTl (4 * p)
  refine ek_iln X 2 rfl dX5_go_12 ?_
  refine ek_Nne X (by omega) (by omega) 20 (by decide) dX5_go_13 (fun c_13 => ?_) (fun c_13 => ?_)
  · skip
    refine ek_ic (v := nI 0) X (by decide) dX5_go_20 ?_
    refine ek_is (lv' := [(6, .int (nI 0)), (0, .ref (ad f)), (1, .int (nI x)), (2, .int (nI c)), (3, .int (nI r)), (4, .int (nI p)), (5, .int (nI z))]) X (by decide) rfl dX5_go_21 ?_
    refine ek_il X 0 rfl dX5_go_23 ?_
    refine ek_Zeq X (by omega) 37 (by decide) dX5_go_25 (fun _ => ?_) (fun h => absurd h (by omega))
    refine ek_aln X 1 rfl dX5_go_37 ?_
    refine ek_get X hin_X5_go_X5 0 rfl rfl 17 (by decide) (List.mem_of_getElem? (i := 3) rfl) rfl dX5_go_38 ?_
    refine ek_iln X 4 rfl dX5_go_41 ?_
    refine ek_ald X 6 0 rfl rfl (by omega) (by omega) dX5_go_42 ?_
    refine ek_is (lv' := [(7, .int (nI ((tBa t) r))), (6, .int (nI 0)), (0, .ref (ad f)), (1, .int (nI x)), (2, .int (nI c)), (3, .int (nI r)), (4, .int (nI p)), (5, .int (nI z))]) X (by decide) rfl dX5_go_43 ?_
    refine ek_il X 0 rfl dX5_go_45 ?_
    refine ek_il X 6 rfl dX5_go_47 ?_
    refine ek_shr X dX5_go_49 ?_
    refine ek_ic (v := nI 1) X (by decide) dX5_go_50 ?_
    refine ek_and X dX5_go_51 ?_
    refine ek_top (v' := nI (tBa t r / 2 ^ p % 2)) (sI_bit (by omega) (by omega)) ?_
    refine ek_ic (v := nI 1) X (by decide) dX5_go_52 ?_
    refine ek_Nne X (by omega) (by omega) 57 (by decide) dX5_go_53 (fun c_53 => ?_) (fun c_53 => ?_)
    · skip
      have hw9 : tWa t < 629 := by first | exact (tRoom_th hT hr (by omega) (show ¬ tTh t r / 2 ^ p % 2 = 1 by assumption)).2 | exact (tRoom_ba hT hr (by omega) (show ¬ tBa t r / 2 ^ p % 2 = 1 by assumption)).2
      refine ek_il X 1 rfl dX5_go_57 ?_
      refine ek_Zeq X (by omega) 78 (by decide) dX5_go_59 (fun _ => ?_) (fun h => absurd h (by omega))
      refine ek_aln X 2 rfl dX5_go_78 ?_
      refine ek_get X hin_X5_go_X5 0 rfl rfl 17 (by decide) (List.mem_of_getElem? (i := 3) rfl) rfl dX5_go_79 ?_
      refine ek_iln X 5 rfl dX5_go_82 ?_
      refine ek_dup2 X rfl rfl dX5_go_83 ?_
      refine ek_ald X 6 0 rfl rfl (by omega) (by omega) dX5_go_84 ?_
      refine ek_ic (v := nI 1) X (by decide) dX5_go_85 ?_
      refine ek_il X 6 rfl dX5_go_86 ?_
      refine ek_shl X dX5_go_88 ?_
      refine ek_or X dX5_go_89 ?_
      refine ek_top (v' := nI (tBa t r ||| 2 ^ p)) (sI_set (by omega)) ?_
      refine ek_Nast (w' := wT ad f cI ((tOd t, tPw t, tPc t, tSy t), (tTh t, eN (tBa t) r (tBa t r ||| 2 ^ p), tFi t, tHe t), (tWa t, tRu t, tCl t, tK t), (tCt t, tOr t, tLa t, tLt t), (tWo t, tPl t, tCh t, tWi t)) m) X 6 0 rfl rfl (by omega) (by omega) rfl dX5_go_90 ?_
      refine ek_aln X 2 rfl dX5_go_91 ?_
      refine ek_iln X 3 rfl dX5_go_92 ?_
      refine ek_aln X 2 rfl dX5_go_93 ?_
      refine ek_get X hin_X5_go_X5 0 rfl rfl 20 (by decide) (List.mem_of_getElem? (i := 1) rfl) rfl dX5_go_94 ?_
      refine ek_getN X hin_X5_go_X6 9 rfl rfl 7 (by decide) (List.mem_of_getElem? (i := 31) rfl) rfl dX5_go_97 ?_
      refine ek_ic (v := nI 4) X (by decide) dX5_go_100 ?_
      refine ek_il X 6 rfl dX5_go_101 ?_
      refine ek_Nmul X dX5_go_103 ?_
      refine ek_ic (v := nI 2) X (by decide) dX5_go_104 ?_
      refine ek_Nadd X dX5_go_105 ?_
      refine ek_ald X 11 0 rfl rfl (by omega) (by omega) dX5_go_106 ?_
      have b2_106 := mTl ((4 * p) + 2)
      refine ek_Nadd X dX5_go_107 ?_
      refine ek_aln X 2 rfl dX5_go_108 ?_
      refine ek_get X hin_X5_go_X5 0 rfl rfl 20 (by decide) (List.mem_of_getElem? (i := 1) rfl) rfl dX5_go_109 ?_
      refine ek_getN X hin_X5_go_X6 9 rfl rfl 7 (by decide) (List.mem_of_getElem? (i := 31) rfl) rfl dX5_go_112 ?_
      refine ek_ic (v := nI 4) X (by decide) dX5_go_115 ?_
      refine ek_il X 6 rfl dX5_go_116 ?_
      refine ek_Nmul X dX5_go_118 ?_
      refine ek_ald X 11 0 rfl rfl (by omega) (by omega) dX5_go_119 ?_
      have b3_119 := mTl (4 * p)
      refine ek_aln X 2 rfl dX5_go_120 ?_
      refine ek_get X hin_X5_go_X5 0 rfl rfl 20 (by decide) (List.mem_of_getElem? (i := 1) rfl) rfl dX5_go_121 ?_
      refine ek_getN X hin_X5_go_X6 9 rfl rfl 7 (by decide) (List.mem_of_getElem? (i := 31) rfl) rfl dX5_go_124 ?_
      refine ek_ic (v := nI 4) X (by decide) dX5_go_127 ?_
      refine ek_il X 6 rfl dX5_go_128 ?_
      refine ek_Nmul X dX5_go_130 ?_
      refine ek_ic (v := nI 1) X (by decide) dX5_go_131 ?_
      refine ek_Nadd X dX5_go_132 ?_
      refine ek_ald X 11 0 rfl rfl (by omega) (by omega) dX5_go_133 ?_
      have b4_133 := mTl ((4 * p) + 1)
      refine ek_Nadd X dX5_go_134 ?_
      refine ek_iln X 4 rfl dX5_go_135 ?_
      refine ek_Nsub X (by omega) dX5_go_136 ?_
      refine ek_iln X 5 rfl dX5_go_137 ?_
      refine ek_il X 6 rfl dX5_go_138 ?_
      refine ek_il X 7 rfl dX5_go_140 ?_
      refine ek_bp (v := nI 90) X (by decide) dX5_go_142 ?_
      refine ek_ic (v := nI 5) X (by decide) dX5_go_144 ?_
      refine ek_aln X 2 rfl dX5_go_145 ?_
      refine ek_get X hin_X5_go_X5 0 rfl rfl 20 (by decide) (List.mem_of_getElem? (i := 1) rfl) rfl dX5_go_146 ?_
      refine ek_getN X hin_X5_go_X6 9 rfl rfl 7 (by decide) (List.mem_of_getElem? (i := 31) rfl) rfl dX5_go_149 ?_
      refine ek_ic (v := nI 4) X (by decide) dX5_go_152 ?_
      refine ek_il X 6 rfl dX5_go_153 ?_
      refine ek_Nmul X dX5_go_155 ?_
      refine ek_ic (v := nI 3) X (by decide) dX5_go_156 ?_
      refine ek_Nadd X dX5_go_157 ?_
      refine ek_ald X 11 0 rfl rfl (by omega) (by omega) dX5_go_158 ?_
      have b5_158 := mTl ((4 * p) + 3)
      refine ek_Nmul X dX5_go_159 ?_
      refine ek_Nsub X (by omega) dX5_go_160 ?_
      refine ek_Nmul X dX5_go_161 ?_
      refine ek_bp (v := nI 100) X (by decide) dX5_go_162 ?_
      refine ek_Ndiv X (by omega) (by omega) (by omega) dX5_go_164 ?_
      refine ek_doWv X (ek_runV (As := [.int (nI (x + ((mTu m) ((4 * p) + 2)))), .int (nI ((((mTu m) (4 * p)) + ((mTu m) ((4 * p) + 1))) - c)), .int (nI r), .int (nI p), .int (nI ((z * (90 - (5 * ((mTu m) ((4 * p) + 3))))) / 100))]) (rest := []) X (c_X5_come l D cI cJ cR ad f m (((tOd t, tPw t, tPc t, tSy t), (tTh t, eN (tBa t) r (tBa t r ||| 2 ^ p), tFi t, tHe t), (tWa t, tRu t, tCl t, tK t), (tCt t, tOr t, tLa t, tLt t), (tWo t, tPl t, tCh t, tWi t))) hM (x + ((mTu m) ((4 * p) + 2))) ((((mTu m) (4 * p)) + ((mTu m) ((4 * p) + 1))) - c) r (p + 1) ((z * (90 - (5 * ((mTu m) ((4 * p) + 3))))) / 100) (nI p) (nI_add p 1) (by omega) (by show mTu m (4 * p) + mTu m (4 * p + 1) - c < 12; omega) (by omega) (by omega) hw9 tod) gX5_go_X5_come rfl hdV_X5_come ⟨Nat.le_of_ble_eq_true rfl, Nat.le_of_ble_eq_true rfl⟩ ⟨Nat.le_of_ble_eq_true rfl, Nat.le_of_ble_eq_true rfl⟩ [0, 1, 2, 3, 4, 5, 6, 7, 8, 9, 10, 11] rfl (by decide) 0 5 rfl rfl (Nat.le_of_ble_eq_true rfl) dX5_go_165) [0, 1, 2, 3, 4, 5, 6, 7, 8, 9, 10, 11] [] rfl rfl (by decide) (by decide) (fun _ => wT ad f cI (tCome (x + ((mTu m) ((4 * p) + 2))) ((((mTu m) (4 * p)) + ((mTu m) ((4 * p) + 1))) - c) r (p + 1) ((z * (90 - (5 * ((mTu m) ((4 * p) + 3))))) / 100) (((tOd t, tPw t, tPc t, tSy t), (tTh t, eN (tBa t) r (tBa t r ||| 2 ^ p), tFi t, tHe t), (tWa t, tRu t, tCl t, tK t), (tCt t, tOr t, tLa t, tLt t), (tWo t, tPl t, tCh t, tWi t)))) m) [0, 1, 2, 3, 4, 5, 6, 7, 8, 9, 10, 11] (by decide) (fun _ => rfl) (fun u_165 hv_165 => ?_)
      exact ek_retv X () ⟨rfl, trivial⟩ (by unfold tGo; first | rw [if_pos (show mTu m (4 * p) = c by assumption), if_neg (by assumption)] | rw [if_neg (show ¬ mTu m (4 * p) = c by assumption), if_neg (by assumption)]) dX5_go_168
    · skip
      exact ek_retv X () ⟨rfl, trivial⟩ (by unfold tGo; first | rw [if_pos (show mTu m (4 * p) = c by assumption), if_pos (by assumption)] | rw [if_neg (show ¬ mTu m (4 * p) = c by assumption), if_pos (by assumption)]) dX5_go_56
  · skip
    refine ek_ic (v := nI 1) X (by decide) dX5_go_16 ?_
    refine ek_goto X 21 (by decide) dX5_go_17 ?_
    refine ek_is (lv' := [(6, .int (nI 1)), (0, .ref (ad f)), (1, .int (nI x)), (2, .int (nI c)), (3, .int (nI r)), (4, .int (nI p)), (5, .int (nI z))]) X (by decide) rfl dX5_go_21 ?_
    refine ek_il X 0 rfl dX5_go_23 ?_
    refine ek_Zeq X (by omega) 37 (by decide) dX5_go_25 (fun h => absurd h (by omega)) (fun _ => ?_)
    refine ek_aln X 1 rfl dX5_go_28 ?_
    refine ek_get X hin_X5_go_X5 0 rfl rfl 16 (by decide) (List.mem_of_getElem? (i := 2) rfl) rfl dX5_go_29 ?_
    refine ek_iln X 4 rfl dX5_go_32 ?_
    refine ek_ald X 5 0 rfl rfl (by omega) (by omega) dX5_go_33 ?_
    refine ek_goto X 43 (by decide) dX5_go_34 ?_
    refine ek_is (lv' := [(7, .int (nI ((tTh t) r))), (6, .int (nI 1)), (0, .ref (ad f)), (1, .int (nI x)), (2, .int (nI c)), (3, .int (nI r)), (4, .int (nI p)), (5, .int (nI z))]) X (by decide) rfl dX5_go_43 ?_
    refine ek_il X 0 rfl dX5_go_45 ?_
    refine ek_il X 6 rfl dX5_go_47 ?_
    refine ek_shr X dX5_go_49 ?_
    refine ek_ic (v := nI 1) X (by decide) dX5_go_50 ?_
    refine ek_and X dX5_go_51 ?_
    refine ek_top (v' := nI (tTh t r / 2 ^ p % 2)) (sI_bit (by omega) (by omega)) ?_
    refine ek_ic (v := nI 1) X (by decide) dX5_go_52 ?_
    refine ek_Nne X (by omega) (by omega) 57 (by decide) dX5_go_53 (fun c_53 => ?_) (fun c_53 => ?_)
    · skip
      have hw9 : tWa t < 629 := by first | exact (tRoom_th hT hr (by omega) (show ¬ tTh t r / 2 ^ p % 2 = 1 by assumption)).2 | exact (tRoom_ba hT hr (by omega) (show ¬ tBa t r / 2 ^ p % 2 = 1 by assumption)).2
      refine ek_il X 1 rfl dX5_go_57 ?_
      refine ek_Zeq X (by omega) 78 (by decide) dX5_go_59 (fun h => absurd h (by omega)) (fun _ => ?_)
      refine ek_aln X 2 rfl dX5_go_62 ?_
      refine ek_get X hin_X5_go_X5 0 rfl rfl 16 (by decide) (List.mem_of_getElem? (i := 2) rfl) rfl dX5_go_63 ?_
      refine ek_iln X 5 rfl dX5_go_66 ?_
      refine ek_dup2 X rfl rfl dX5_go_67 ?_
      refine ek_ald X 5 0 rfl rfl (by omega) (by omega) dX5_go_68 ?_
      refine ek_ic (v := nI 1) X (by decide) dX5_go_69 ?_
      refine ek_il X 6 rfl dX5_go_70 ?_
      refine ek_shl X dX5_go_72 ?_
      refine ek_or X dX5_go_73 ?_
      refine ek_top (v' := nI (tTh t r ||| 2 ^ p)) (sI_set (by omega)) ?_
      refine ek_Nast (w' := wT ad f cI ((tOd t, tPw t, tPc t, tSy t), (eN (tTh t) r (tTh t r ||| 2 ^ p), tBa t, tFi t, tHe t), (tWa t, tRu t, tCl t, tK t), (tCt t, tOr t, tLa t, tLt t), (tWo t, tPl t, tCh t, tWi t)) m) X 5 0 rfl rfl (by omega) (by omega) rfl dX5_go_74 ?_
      refine ek_goto X 91 (by decide) dX5_go_75 ?_
      refine ek_aln X 2 rfl dX5_go_91 ?_
      refine ek_iln X 3 rfl dX5_go_92 ?_
      refine ek_aln X 2 rfl dX5_go_93 ?_
      refine ek_get X hin_X5_go_X5 0 rfl rfl 20 (by decide) (List.mem_of_getElem? (i := 1) rfl) rfl dX5_go_94 ?_
      refine ek_getN X hin_X5_go_X6 9 rfl rfl 7 (by decide) (List.mem_of_getElem? (i := 31) rfl) rfl dX5_go_97 ?_
      refine ek_ic (v := nI 4) X (by decide) dX5_go_100 ?_
      refine ek_il X 6 rfl dX5_go_101 ?_
      refine ek_Nmul X dX5_go_103 ?_
      refine ek_ic (v := nI 2) X (by decide) dX5_go_104 ?_
      refine ek_Nadd X dX5_go_105 ?_
      refine ek_ald X 11 0 rfl rfl (by omega) (by omega) dX5_go_106 ?_
      have b6_106 := mTl ((4 * p) + 2)
      refine ek_Nadd X dX5_go_107 ?_
      refine ek_aln X 2 rfl dX5_go_108 ?_
      refine ek_get X hin_X5_go_X5 0 rfl rfl 20 (by decide) (List.mem_of_getElem? (i := 1) rfl) rfl dX5_go_109 ?_
      refine ek_getN X hin_X5_go_X6 9 rfl rfl 7 (by decide) (List.mem_of_getElem? (i := 31) rfl) rfl dX5_go_112 ?_
      refine ek_ic (v := nI 4) X (by decide) dX5_go_115 ?_
      refine ek_il X 6 rfl dX5_go_116 ?_
      refine ek_Nmul X dX5_go_118 ?_
      refine ek_ald X 11 0 rfl rfl (by omega) (by omega) dX5_go_119 ?_
      have b7_119 := mTl (4 * p)
      refine ek_aln X 2 rfl dX5_go_120 ?_
      refine ek_get X hin_X5_go_X5 0 rfl rfl 20 (by decide) (List.mem_of_getElem? (i := 1) rfl) rfl dX5_go_121 ?_
      refine ek_getN X hin_X5_go_X6 9 rfl rfl 7 (by decide) (List.mem_of_getElem? (i := 31) rfl) rfl dX5_go_124 ?_
      refine ek_ic (v := nI 4) X (by decide) dX5_go_127 ?_
      refine ek_il X 6 rfl dX5_go_128 ?_
      refine ek_Nmul X dX5_go_130 ?_
      refine ek_ic (v := nI 1) X (by decide) dX5_go_131 ?_
      refine ek_Nadd X dX5_go_132 ?_
      refine ek_ald X 11 0 rfl rfl (by omega) (by omega) dX5_go_133 ?_
      have b8_133 := mTl ((4 * p) + 1)
      refine ek_Nadd X dX5_go_134 ?_
      refine ek_iln X 4 rfl dX5_go_135 ?_
      refine ek_Nsub X (by omega) dX5_go_136 ?_
      refine ek_iln X 5 rfl dX5_go_137 ?_
      refine ek_il X 6 rfl dX5_go_138 ?_
      refine ek_il X 7 rfl dX5_go_140 ?_
      refine ek_bp (v := nI 90) X (by decide) dX5_go_142 ?_
      refine ek_ic (v := nI 5) X (by decide) dX5_go_144 ?_
      refine ek_aln X 2 rfl dX5_go_145 ?_
      refine ek_get X hin_X5_go_X5 0 rfl rfl 20 (by decide) (List.mem_of_getElem? (i := 1) rfl) rfl dX5_go_146 ?_
      refine ek_getN X hin_X5_go_X6 9 rfl rfl 7 (by decide) (List.mem_of_getElem? (i := 31) rfl) rfl dX5_go_149 ?_
      refine ek_ic (v := nI 4) X (by decide) dX5_go_152 ?_
      refine ek_il X 6 rfl dX5_go_153 ?_
      refine ek_Nmul X dX5_go_155 ?_
      refine ek_ic (v := nI 3) X (by decide) dX5_go_156 ?_
      refine ek_Nadd X dX5_go_157 ?_
      refine ek_ald X 11 0 rfl rfl (by omega) (by omega) dX5_go_158 ?_
      have b9_158 := mTl ((4 * p) + 3)
      refine ek_Nmul X dX5_go_159 ?_
      refine ek_Nsub X (by omega) dX5_go_160 ?_
      refine ek_Nmul X dX5_go_161 ?_
      refine ek_bp (v := nI 100) X (by decide) dX5_go_162 ?_
      refine ek_Ndiv X (by omega) (by omega) (by omega) dX5_go_164 ?_
      refine ek_doWv X (ek_runV (As := [.int (nI (x + ((mTu m) ((4 * p) + 2)))), .int (nI ((((mTu m) (4 * p)) + ((mTu m) ((4 * p) + 1))) - c)), .int (nI r), .int (nI p), .int (nI ((z * (90 - (5 * ((mTu m) ((4 * p) + 3))))) / 100))]) (rest := []) X (c_X5_come l D cI cJ cR ad f m (((tOd t, tPw t, tPc t, tSy t), (eN (tTh t) r (tTh t r ||| 2 ^ p), tBa t, tFi t, tHe t), (tWa t, tRu t, tCl t, tK t), (tCt t, tOr t, tLa t, tLt t), (tWo t, tPl t, tCh t, tWi t))) hM (x + ((mTu m) ((4 * p) + 2))) ((((mTu m) (4 * p)) + ((mTu m) ((4 * p) + 1))) - c) r (p + 1) ((z * (90 - (5 * ((mTu m) ((4 * p) + 3))))) / 100) (nI p) (nI_add p 1) (by omega) (by show mTu m (4 * p) + mTu m (4 * p + 1) - c < 12; omega) (by omega) (by omega) hw9 tod) gX5_go_X5_come rfl hdV_X5_come ⟨Nat.le_of_ble_eq_true rfl, Nat.le_of_ble_eq_true rfl⟩ ⟨Nat.le_of_ble_eq_true rfl, Nat.le_of_ble_eq_true rfl⟩ [0, 1, 2, 3, 4, 5, 6, 7, 8, 9, 10, 11] rfl (by decide) 0 5 rfl rfl (Nat.le_of_ble_eq_true rfl) dX5_go_165) [0, 1, 2, 3, 4, 5, 6, 7, 8, 9, 10, 11] [] rfl rfl (by decide) (by decide) (fun _ => wT ad f cI (tCome (x + ((mTu m) ((4 * p) + 2))) ((((mTu m) (4 * p)) + ((mTu m) ((4 * p) + 1))) - c) r (p + 1) ((z * (90 - (5 * ((mTu m) ((4 * p) + 3))))) / 100) (((tOd t, tPw t, tPc t, tSy t), (eN (tTh t) r (tTh t r ||| 2 ^ p), tBa t, tFi t, tHe t), (tWa t, tRu t, tCl t, tK t), (tCt t, tOr t, tLa t, tLt t), (tWo t, tPl t, tCh t, tWi t)))) m) [0, 1, 2, 3, 4, 5, 6, 7, 8, 9, 10, 11] (by decide) (fun _ => rfl) (fun u_165 hv_165 => ?_)
      exact ek_retv X () ⟨rfl, trivial⟩ (by unfold tGo; first | rw [if_pos (show mTu m (4 * p) = c by assumption), if_neg (by assumption)] | rw [if_neg (show ¬ mTu m (4 * p) = c by assumption), if_neg (by assumption)]) dX5_go_168
    · skip
      exact ek_retv X () ⟨rfl, trivial⟩ (by unfold tGo; first | rw [if_pos (show mTu m (4 * p) = c by assumption), if_pos (by assumption)] | rw [if_neg (show ¬ mTu m (4 * p) = c by assumption), if_pos (by assumption)]) dX5_go_56

theorem tMore_come (x c r b z : Nat) (t : MsnT) : tMore (tCome x c r b z t) = tCome x c r b z (tMore t) := by
  by_cases h : 200 < x
  · rw [tCome_far _ _ _ _ _ _ h, tCome_far _ _ _ _ _ _ h]
  · show tMore (if 200 < x then t else _) = (if 200 < x then tMore t else _)
    rw [if_neg h, if_neg h]
    rfl
theorem tStart_ok {m : MdlT} {t : MsnT} (hT : tOk m t) {x c p y z : Nat} (hr : tRu t < 17) (hr2 : tRu t < 6 + fb_ct (fun k => (tCl t).testBit (k + 1)) 11) (hc : c < 12) (hp : p < 6) (hy : 1 ≤ y ∧ y ≤ 9) (hz : z < 128) : tOk m (tStart x c p y z t) ∧ tRu (tStart x c p y z t) = tRu t + 1 := by
  have e1 := tPot_new t p y
  obtain ⟨⟨⟨q1, q1b, q1c⟩, q2, q3, q4, q5, q6, q7, q8, q9, q10, q11⟩, q12⟩ := hT
  rw [show tStart x c p y z t = tCome x c (tRu t) 0 z (tMore (tNew p y t)) from tMore_come _ _ _ _ _ _]
  refine tCome_ok (t := tMore (tNew p y t)) ⟨⟨by show tRu t + 1 ≤ 17; omega, by show tRu t + 1 ≤ _; exact hr2, q1c⟩, fun j => ?_, fun j hj => ?_, fun j => eN_lt q4 hp j, fun j => eN_lt q5 (by omega) j, fun j => eN_lt q6 (by omega) j, q7, fun j hj => ?_, q9, q10, q11⟩ (by rw [e1]; show tWa t + 1 ≤ _; omega) hc (Nat.lt_succ_self _) (by omega) (Or.inl rfl) hz
  · have := eN_lt (M := 10) (h := tSy t) (t := tRu t) (v := y) (fun j => by have := q2 j; omega) (by omega) j
    show eN (tSy t) (tRu t) y j ≤ 9
    omega
  · show 1 ≤ eN (tSy t) (tRu t) y j
    by_cases e : j = tRu t
    · rw [e, eN_self]; exact hy.1
    · rw [eN_ne _ _ e]; exact q3 j (by have : j < tRu t + 1 := hj; omega)
  · obtain ⟨a1, a2, a3⟩ := q8 j hj
    exact ⟨a1, Nat.lt_succ_of_lt a2, a3⟩
theorem tSet_ct {a c : Nat} (hc : c < 12) (h1 : 1 ≤ c) (h : ¬ a / 2 ^ c % 2 = 1) : fb_ct (fun k => (a ||| 2 ^ c).testBit (k + 1)) 11 = fb_ct (fun k => a.testBit (k + 1)) 11 + 1 := by
  have hb : a.testBit c = false := by rw [Nat.testBit_eq_decide_div_mod_eq]; exact decide_eq_false h
  have h1 := fb_ct_upd (fun j => a.testBit (j + 1)) true (i := c - 1) (n := 11) (by omega)
  have h2 : fb_ct (fun j => (a ||| 2 ^ c).testBit (j + 1)) 11 = fb_ct (fun j => if j = c - 1 then true else a.testBit (j + 1)) 11 := fb_ct_cong (fun j _ => by
    rw [fb_bit_set]
    by_cases e : j = c - 1
    · rw [if_pos e, decide_eq_true (show j + 1 = c by omega), Bool.or_true]
    · rw [if_neg e, decide_eq_false (show ¬ j + 1 = c by omega), Bool.or_false])
  rw [h2]
  have e3 : c - 1 + 1 = c := by omega
  simp only [e3, hb, if_true] at h1
  simpa using h1
theorem tClap_run {m : MdlT} {t : MsnT} (hT : tOk m t) {c r : Nat} (hc : c < 12) (hr : r < tRu t) (h1 : tOwn m t c = tSy t r) (h2 : ¬ tCl t / 2 ^ c % 2 = 1) : tRu t < 17 ∧ tRu t < 6 + fb_ct (fun k => (tCl t ||| 2 ^ c).testBit (k + 1)) 11 ∧ 1 ≤ c := by
  obtain ⟨⟨⟨q1, q1b, q1c⟩, q2, q3, q4, q5, q6, q7, q8, q9, q10, ⟨q11, q13, q14, q15⟩⟩, q12⟩ := hT
  have hs := q3 r hr
  have hc1 : 1 ≤ c := by
    refine Nat.pos_of_ne_zero (fun e => ?_)
    subst e
    have h3 : tOwn m t 0 = mRo m 3 := if_neg (fun h => q13 h.symm)
    omega
  have e1 := tSet_ct (a := tCl t) hc hc1 h2
  have e2 := fb_ct_le (fun k => (tCl t ||| 2 ^ c).testBit (k + 1)) 11
  omega
theorem tSet_ok {m : MdlT} {t : MsnT} (hT : tOk m t) {c : Nat} (hc : c < 12) (hr : tRu t < 6 + fb_ct (fun k => (tCl t ||| 2 ^ c).testBit (k + 1)) 11) : tOk m (tSet t c) := by
  obtain ⟨⟨⟨q1, q1b, q1c⟩, q2⟩, q12⟩ := hT
  exact ⟨⟨⟨q1, Nat.le_of_lt hr, Nat.or_lt_two_pow (n := 12) q1c (show 2 ^ c < 2 ^ 12 from Nat.pow_lt_pow_right (by omega) hc)⟩, q2⟩, q12⟩
theorem tClap_ok {m : MdlT} {t : MsnT} (hT : tOk m t) {x c r : Nat} (hc : c < 12) (hr : r < tRu t) : tOk m (tClap m x c r t) ∧ tRu t ≤ tRu (tClap m x c r t) := by
  unfold tClap
  split
  · rename_i hh
    obtain ⟨g1, g2, g3⟩ := tClap_run hT hc hr hh.1 hh.2
    have hS := tSet_ok hT hc g2
    split
    · exact ⟨hS, Nat.le_refl _⟩
    · have h9 := tStart_ok hS (x := x + tDly m t c) (c := c) (p := tPc t r) (y := tOwn m t c) (z := 60) g1 g2 hc (hT.1.2.2.2.1 r) (by rw [hh.1]; exact ⟨hT.1.2.2.1 r hr, hT.1.2.1 r⟩) (by omega)
      exact ⟨h9.1, by rw [h9.2]; exact Nat.le_succ _⟩
  · exact ⟨hT, Nat.le_refl _⟩

theorem hin_X5_clap_X5 : ∀ x ∈ wsX50, x ∈ wsX5_clap := fun x h => List.mem_cons_of_mem _ (List.mem_append_left _ (List.mem_append_right _ h))
theorem hin_X5_clap_X6 : ∀ x ∈ wsX60, x ∈ wsX5_clap := fun x h => List.mem_cons_of_mem _ (List.mem_append_right _ h)
abbrev rm_X5_clap : Room := { frames := 3, cells := 0, slots := 0, locals := 64 }
set_option maxHeartbeats 4000000 in
set_option maxRecDepth 100000 in
theorem c_X5_clap (l : Launch) (D : va_G) (cI cJ cR : ClassId) (ad : Nat → Nat) (f : Nat) (m : MdlT) (t : MsnT) (hM : mOk m) (hT : tOk m t) (x c r : Nat) (hx : x < 1000) (hc : c < 12) (hr : r < tRu t) : ek_M (S := Unit) l yX5_clap wsX5_clap rm_X5_clap D (tyW cI cJ cR) nestW [.ref (ad f), .int (nI x), .int (nI c), .int (nI r)] (wT ad f cI t m) (fun r9 _ => r9 = none ∧ True) (fun _ => wT ad f cI (tClap m x c r t) m) := by
  refine ek_M.of (cc := cX5_clap) (maxL := 6) (ret := none) (by decide) rfl (Nat.le_of_ble_eq_true rfl) ?_
  intro p9 e9 s9 m9 args9 below9 meth9 c9 A X hin
  obtain ⟨⟨mC1, mC2⟩, mPs, mWs, mEs, mTs, mSs, mRs, mTl⟩ := id hM
  obtain ⟨⟨⟨tr1, tr2, tcl⟩, tsy, tsy1, tpc, tth, tba, tod, ten, tpw, ⟨tk1, tk2, tk3⟩, thv⟩, twa⟩ := id hT
  have hsr := tsy r
  have hpr := tpc r
  obtain ⟨thv1, thv2, thv3, thv4⟩ := id thv
  have hr3 := mRs (5 * c + 3)
  have hr4 := mRs (5 * c + 4)
  refine ek_castL (lv' := [(0, .ref (ad f)), (1, .int (nI x)), (2, .int (nI c)), (3, .int (nI r))]) rfl ?_
  refine ek_iln X 2 rfl dX5_clap_0 ?_
  refine ek_aln X 0 rfl dX5_clap_1 ?_
  refine ek_get X hin_X5_clap_X5 0 rfl rfl 9 (by decide) (List.mem_of_getElem? (i := 1) rfl) rfl dX5_clap_2 ?_
  refine ek_icmp_ne X 15 (by decide) dX5_clap_5 (fun c_5 => ?_) (fun c_5 => ?_)
  · skip
    refine ek_aln X 0 rfl dX5_clap_15 ?_
    refine ek_get X hin_X5_clap_X5 0 rfl rfl 20 (by decide) (List.mem_of_getElem? (i := 3) rfl) rfl dX5_clap_16 ?_
    refine ek_getN X hin_X5_clap_X6 9 rfl rfl 6 (by decide) (List.mem_of_getElem? (i := 30) rfl) rfl dX5_clap_19 ?_
    refine ek_ic (v := nI 5) X (by decide) dX5_clap_22 ?_
    refine ek_iln X 2 rfl dX5_clap_23 ?_
    refine ek_Nmul X dX5_clap_24 ?_
    refine ek_ic (v := nI 3) X (by decide) dX5_clap_25 ?_
    refine ek_Nadd X dX5_clap_26 ?_
    refine ek_ald X 10 0 rfl rfl (by omega) (by omega) dX5_clap_27 ?_
    have b1_27 := mRs ((5 * c) + 3)
    refine ek_is (lv' := [(4, .int (nI ((mRo m) ((5 * c) + 3)))), (0, .ref (ad f)), (1, .int (nI x)), (2, .int (nI c)), (3, .int (nI r))]) X (by decide) rfl dX5_clap_28 ?_
    have hown : tOwn m t c = ((mRo m) ((5 * c) + 3)) := by first | exact if_pos (by assumption) | exact if_neg (by assumption)
    refine ek_il X 0 rfl dX5_clap_30 ?_
    refine ek_aln X 1 rfl dX5_clap_32 ?_
    refine ek_get X hin_X5_clap_X5 0 rfl rfl 15 (by decide) (List.mem_of_getElem? (i := 4) rfl) rfl dX5_clap_33 ?_
    refine ek_iln X 4 rfl dX5_clap_36 ?_
    refine ek_ald X 4 0 rfl rfl (by omega) (by omega) dX5_clap_37 ?_
    refine ek_Nne X (by omega) (by omega) 53 (by decide) dX5_clap_38 (fun c_38 => ?_) (fun c_38 => ?_)
    · skip
      exact ek_retv X () ⟨rfl, trivial⟩ (by unfold tClap; rw [if_neg (fun h => by have h1 := h.1; have h2 := h.2; rw [hown] at h1; omega)]) dX5_clap_53
    · skip
      refine ek_aln X 1 rfl dX5_clap_41 ?_
      refine ek_get X hin_X5_clap_X5 0 rfl rfl 8 (by decide) (List.mem_of_getElem? (i := 5) rfl) rfl dX5_clap_42 ?_
      refine ek_iln X 3 rfl dX5_clap_45 ?_
      refine ek_shr X dX5_clap_46 ?_
      refine ek_ic (v := nI 1) X (by decide) dX5_clap_47 ?_
      refine ek_and X dX5_clap_48 ?_
      refine ek_top (v' := nI (tCl t / 2 ^ c % 2)) (sI_bit (by omega) (by omega)) ?_
      refine ek_ic (v := nI 1) X (by decide) dX5_clap_49 ?_
      refine ek_Nne X (by omega) (by omega) 54 (by decide) dX5_clap_50 (fun c_50 => ?_) (fun c_50 => ?_)
      · skip
        have hrun := tClap_run hT hc hr (hown.trans (by assumption)) (by assumption)
        refine ek_aln X 1 rfl dX5_clap_54 ?_
        refine ek_dup X rfl dX5_clap_55 ?_
        refine ek_get X hin_X5_clap_X5 0 rfl rfl 8 (by decide) (List.mem_of_getElem? (i := 5) rfl) rfl dX5_clap_56 ?_
        refine ek_ic (v := nI 1) X (by decide) dX5_clap_59 ?_
        refine ek_iln X 3 rfl dX5_clap_60 ?_
        refine ek_shl X dX5_clap_61 ?_
        refine ek_or X dX5_clap_62 ?_
        refine ek_top (v' := nI (tCl t ||| 2 ^ c)) (sI_set (by omega)) ?_
        refine ek_put (w' := wT ad f cI ((tOd t, tPw t, tPc t, tSy t), (tTh t, tBa t, tFi t, tHe t), (tWa t, tRu t, tCl t ||| 2 ^ c, tK t), (tCt t, tOr t, tLa t, tLt t), (tWo t, tPl t, tCh t, tWi t)) m) X hin_X5_clap_X5 tyX5 tyX5_ok nmX5 0 rfl rfl 8 (by decide) (List.mem_of_getElem? (i := 5) rfl) rfl rfl rfl rfl (Nat.le_of_ble_eq_true rfl) rfl dX5_clap_63 ?_
        refine ek_iln X 2 rfl dX5_clap_66 ?_
        refine ek_iln X 3 rfl dX5_clap_67 ?_
        refine ek_aln X 1 rfl dX5_clap_68 ?_
        refine ek_get X hin_X5_clap_X5 0 rfl rfl 9 (by decide) (List.mem_of_getElem? (i := 1) rfl) rfl dX5_clap_69 ?_
        refine ek_top (v' := tCh t) rfl ?_
        refine ek_icmp_ne X 82 (by decide) dX5_clap_72 (fun c_72 => ?_) (fun c_72 => ?_)
        · skip
          refine ek_aln X 1 rfl dX5_clap_82 ?_
          refine ek_get X hin_X5_clap_X5 0 rfl rfl 20 (by decide) (List.mem_of_getElem? (i := 3) rfl) rfl dX5_clap_83 ?_
          refine ek_getN X hin_X5_clap_X6 9 rfl rfl 6 (by decide) (List.mem_of_getElem? (i := 30) rfl) rfl dX5_clap_86 ?_
          refine ek_ic (v := nI 5) X (by decide) dX5_clap_89 ?_
          refine ek_iln X 3 rfl dX5_clap_90 ?_
          refine ek_Nmul X dX5_clap_91 ?_
          refine ek_ic (v := nI 4) X (by decide) dX5_clap_92 ?_
          refine ek_Nadd X dX5_clap_93 ?_
          refine ek_ald X 10 0 rfl rfl (by omega) (by omega) dX5_clap_94 ?_
          have b2_94 := mRs ((5 * c) + 4)
          refine ek_Nadd X dX5_clap_95 ?_
          refine ek_is (lv' := [(5, .int (nI (x + ((mRo m) ((5 * c) + 4))))), (4, .int (nI ((mRo m) ((5 * c) + 3)))), (0, .ref (ad f)), (1, .int (nI x)), (2, .int (nI c)), (3, .int (nI r))]) X (by decide) rfl dX5_clap_96 ?_
          have hdly : x + tDly m t c = (x + ((mRo m) ((5 * c) + 4))) := congrArg (fun a => x + a) (by first | exact if_pos (by assumption) | exact if_neg (by assumption))
          refine ek_il X 0 rfl dX5_clap_98 ?_
          refine ek_sp (v := nI 200) X (by decide) dX5_clap_100 ?_
          refine ek_Ngt X (by omega) (by omega) 123 (by decide) dX5_clap_103 (fun c_103 => ?_) (fun c_103 => ?_)
          · skip
            exact ek_retv X () ⟨rfl, trivial⟩ (by unfold tClap; rw [if_pos ⟨hown.trans (by assumption), by assumption⟩]; first | (rw [if_pos (by rw [hdly]; omega)]) | (rw [if_neg (by rw [hdly]; omega), hown, hdly])) dX5_clap_123
          · skip
            refine ek_aln X 2 rfl dX5_clap_106 ?_
            refine ek_il X 0 rfl dX5_clap_107 ?_
            refine ek_iln X 4 rfl dX5_clap_109 ?_
            refine ek_aln X 2 rfl dX5_clap_110 ?_
            refine ek_get X hin_X5_clap_X5 0 rfl rfl 14 (by decide) (List.mem_of_getElem? (i := 7) rfl) rfl dX5_clap_111 ?_
            refine ek_iln X 5 rfl dX5_clap_114 ?_
            refine ek_ald X 3 0 rfl rfl (by omega) (by omega) dX5_clap_115 ?_
            refine ek_top (v' := nI ((tPc t) r)) rfl ?_
            refine ek_il X 1 rfl dX5_clap_116 ?_
            refine ek_bp (v := nI 60) X (by decide) dX5_clap_118 ?_
            refine ek_doWv X (ek_runV (As := [.int (nI (x + ((mRo m) ((5 * c) + 4)))), .int (nI c), .int (nI ((tPc t) r)), .int (nI ((mRo m) ((5 * c) + 3))), .int (nI 60)]) (rest := []) X (c_X5_start l D cI cJ cR ad f m (((tOd t, tPw t, tPc t, tSy t), (tTh t, tBa t, tFi t, tHe t), (tWa t, tRu t, tCl t ||| 2 ^ c, tK t), (tCt t, tOr t, tLa t, tLt t), (tWo t, tPl t, tCh t, tWi t))) hM (x + ((mRo m) ((5 * c) + 4))) c ((tPc t) r) ((mRo m) ((5 * c) + 3)) 60 (by omega) hc hrun.1 (by show tWa t < 629; have := tPot_le t; omega) tod) gX5_clap_X5_start rfl hdV_X5_start ⟨Nat.le_of_ble_eq_true rfl, Nat.le_of_ble_eq_true rfl⟩ ⟨Nat.le_of_ble_eq_true rfl, Nat.le_of_ble_eq_true rfl⟩ [0, 1, 2, 3, 4, 5, 6, 7, 8, 9, 10, 11] rfl (by decide) 0 5 rfl rfl (Nat.le_of_ble_eq_true rfl) dX5_clap_120) [0, 1, 2, 3, 4, 5, 6, 7, 8, 9, 10, 11] [] rfl rfl (by decide) (by decide) (fun _ => wT ad f cI (tStart (x + ((mRo m) ((5 * c) + 4))) c ((tPc t) r) ((mRo m) ((5 * c) + 3)) 60 (((tOd t, tPw t, tPc t, tSy t), (tTh t, tBa t, tFi t, tHe t), (tWa t, tRu t, tCl t ||| 2 ^ c, tK t), (tCt t, tOr t, tLa t, tLt t), (tWo t, tPl t, tCh t, tWi t)))) m) [0, 1, 2, 3, 4, 5, 6, 7, 8, 9, 10, 11] (by decide) (fun _ => rfl) (fun u_120 hv_120 => ?_)
            exact ek_retv X () ⟨rfl, trivial⟩ (by unfold tClap; rw [if_pos ⟨hown.trans (by assumption), by assumption⟩]; first | (rw [if_pos (by rw [hdly]; omega)]) | (rw [if_neg (by rw [hdly]; omega), hown, hdly])) dX5_clap_123
        · skip
          refine ek_aln X 1 rfl dX5_clap_75 ?_
          refine ek_get X hin_X5_clap_X5 0 rfl rfl 11 (by decide) (List.mem_of_getElem? (i := 6) rfl) rfl dX5_clap_76 ?_
          refine ek_top (v' := nI (tLt t)) rfl ?_
          refine ek_goto X 95 (by decide) dX5_clap_79 ?_
          refine ek_Nadd X dX5_clap_95 ?_
          refine ek_is (lv' := [(5, .int (nI (x + (tLt t)))), (4, .int (nI ((mRo m) ((5 * c) + 3)))), (0, .ref (ad f)), (1, .int (nI x)), (2, .int (nI c)), (3, .int (nI r))]) X (by decide) rfl dX5_clap_96 ?_
          have hdly : x + tDly m t c = (x + (tLt t)) := congrArg (fun a => x + a) (by first | exact if_pos (by assumption) | exact if_neg (by assumption))
          refine ek_il X 0 rfl dX5_clap_98 ?_
          refine ek_sp (v := nI 200) X (by decide) dX5_clap_100 ?_
          refine ek_Ngt X (by omega) (by omega) 123 (by decide) dX5_clap_103 (fun c_103 => ?_) (fun c_103 => ?_)
          · skip
            exact ek_retv X () ⟨rfl, trivial⟩ (by unfold tClap; rw [if_pos ⟨hown.trans (by assumption), by assumption⟩]; first | (rw [if_pos (by rw [hdly]; omega)]) | (rw [if_neg (by rw [hdly]; omega), hown, hdly])) dX5_clap_123
          · skip
            refine ek_aln X 2 rfl dX5_clap_106 ?_
            refine ek_il X 0 rfl dX5_clap_107 ?_
            refine ek_iln X 4 rfl dX5_clap_109 ?_
            refine ek_aln X 2 rfl dX5_clap_110 ?_
            refine ek_get X hin_X5_clap_X5 0 rfl rfl 14 (by decide) (List.mem_of_getElem? (i := 7) rfl) rfl dX5_clap_111 ?_
            refine ek_iln X 5 rfl dX5_clap_114 ?_
            refine ek_ald X 3 0 rfl rfl (by omega) (by omega) dX5_clap_115 ?_
            refine ek_top (v' := nI ((tPc t) r)) rfl ?_
            refine ek_il X 1 rfl dX5_clap_116 ?_
            refine ek_bp (v := nI 60) X (by decide) dX5_clap_118 ?_
            refine ek_doWv X (ek_runV (As := [.int (nI (x + (tLt t))), .int (nI c), .int (nI ((tPc t) r)), .int (nI ((mRo m) ((5 * c) + 3))), .int (nI 60)]) (rest := []) X (c_X5_start l D cI cJ cR ad f m (((tOd t, tPw t, tPc t, tSy t), (tTh t, tBa t, tFi t, tHe t), (tWa t, tRu t, tCl t ||| 2 ^ c, tK t), (tCt t, tOr t, tLa t, tLt t), (tWo t, tPl t, tCh t, tWi t))) hM (x + (tLt t)) c ((tPc t) r) ((mRo m) ((5 * c) + 3)) 60 (by omega) hc hrun.1 (by show tWa t < 629; have := tPot_le t; omega) tod) gX5_clap_X5_start rfl hdV_X5_start ⟨Nat.le_of_ble_eq_true rfl, Nat.le_of_ble_eq_true rfl⟩ ⟨Nat.le_of_ble_eq_true rfl, Nat.le_of_ble_eq_true rfl⟩ [0, 1, 2, 3, 4, 5, 6, 7, 8, 9, 10, 11] rfl (by decide) 0 5 rfl rfl (Nat.le_of_ble_eq_true rfl) dX5_clap_120) [0, 1, 2, 3, 4, 5, 6, 7, 8, 9, 10, 11] [] rfl rfl (by decide) (by decide) (fun _ => wT ad f cI (tStart (x + (tLt t)) c ((tPc t) r) ((mRo m) ((5 * c) + 3)) 60 (((tOd t, tPw t, tPc t, tSy t), (tTh t, tBa t, tFi t, tHe t), (tWa t, tRu t, tCl t ||| 2 ^ c, tK t), (tCt t, tOr t, tLa t, tLt t), (tWo t, tPl t, tCh t, tWi t)))) m) [0, 1, 2, 3, 4, 5, 6, 7, 8, 9, 10, 11] (by decide) (fun _ => rfl) (fun u_120 hv_120 => ?_)
            exact ek_retv X () ⟨rfl, trivial⟩ (by unfold tClap; rw [if_pos ⟨hown.trans (by assumption), by assumption⟩]; first | (rw [if_pos (by rw [hdly]; omega)]) | (rw [if_neg (by rw [hdly]; omega), hown, hdly])) dX5_clap_123
      · skip
        exact ek_retv X () ⟨rfl, trivial⟩ (by unfold tClap; rw [if_neg (fun h => by have h1 := h.1; have h2 := h.2; rw [hown] at h1; omega)]) dX5_clap_53
  · skip
    refine ek_aln X 0 rfl dX5_clap_8 ?_
    refine ek_get X hin_X5_clap_X5 0 rfl rfl 10 (by decide) (List.mem_of_getElem? (i := 2) rfl) rfl dX5_clap_9 ?_
    refine ek_goto X 28 (by decide) dX5_clap_12 ?_
    refine ek_is (lv' := [(4, .int (nI (tWi t))), (0, .ref (ad f)), (1, .int (nI x)), (2, .int (nI c)), (3, .int (nI r))]) X (by decide) rfl dX5_clap_28 ?_
    have hown : tOwn m t c = (tWi t) := by first | exact if_pos (by assumption) | exact if_neg (by assumption)
    refine ek_il X 0 rfl dX5_clap_30 ?_
    refine ek_aln X 1 rfl dX5_clap_32 ?_
    refine ek_get X hin_X5_clap_X5 0 rfl rfl 15 (by decide) (List.mem_of_getElem? (i := 4) rfl) rfl dX5_clap_33 ?_
    refine ek_iln X 4 rfl dX5_clap_36 ?_
    refine ek_ald X 4 0 rfl rfl (by omega) (by omega) dX5_clap_37 ?_
    refine ek_Nne X (by omega) (by omega) 53 (by decide) dX5_clap_38 (fun c_38 => ?_) (fun c_38 => ?_)
    · skip
      exact ek_retv X () ⟨rfl, trivial⟩ (by unfold tClap; rw [if_neg (fun h => by have h1 := h.1; have h2 := h.2; rw [hown] at h1; omega)]) dX5_clap_53
    · skip
      refine ek_aln X 1 rfl dX5_clap_41 ?_
      refine ek_get X hin_X5_clap_X5 0 rfl rfl 8 (by decide) (List.mem_of_getElem? (i := 5) rfl) rfl dX5_clap_42 ?_
      refine ek_iln X 3 rfl dX5_clap_45 ?_
      refine ek_shr X dX5_clap_46 ?_
      refine ek_ic (v := nI 1) X (by decide) dX5_clap_47 ?_
      refine ek_and X dX5_clap_48 ?_
      refine ek_top (v' := nI (tCl t / 2 ^ c % 2)) (sI_bit (by omega) (by omega)) ?_
      refine ek_ic (v := nI 1) X (by decide) dX5_clap_49 ?_
      refine ek_Nne X (by omega) (by omega) 54 (by decide) dX5_clap_50 (fun c_50 => ?_) (fun c_50 => ?_)
      · skip
        have hrun := tClap_run hT hc hr (hown.trans (by assumption)) (by assumption)
        refine ek_aln X 1 rfl dX5_clap_54 ?_
        refine ek_dup X rfl dX5_clap_55 ?_
        refine ek_get X hin_X5_clap_X5 0 rfl rfl 8 (by decide) (List.mem_of_getElem? (i := 5) rfl) rfl dX5_clap_56 ?_
        refine ek_ic (v := nI 1) X (by decide) dX5_clap_59 ?_
        refine ek_iln X 3 rfl dX5_clap_60 ?_
        refine ek_shl X dX5_clap_61 ?_
        refine ek_or X dX5_clap_62 ?_
        refine ek_top (v' := nI (tCl t ||| 2 ^ c)) (sI_set (by omega)) ?_
        refine ek_put (w' := wT ad f cI ((tOd t, tPw t, tPc t, tSy t), (tTh t, tBa t, tFi t, tHe t), (tWa t, tRu t, tCl t ||| 2 ^ c, tK t), (tCt t, tOr t, tLa t, tLt t), (tWo t, tPl t, tCh t, tWi t)) m) X hin_X5_clap_X5 tyX5 tyX5_ok nmX5 0 rfl rfl 8 (by decide) (List.mem_of_getElem? (i := 5) rfl) rfl rfl rfl rfl (Nat.le_of_ble_eq_true rfl) rfl dX5_clap_63 ?_
        refine ek_iln X 2 rfl dX5_clap_66 ?_
        refine ek_iln X 3 rfl dX5_clap_67 ?_
        refine ek_aln X 1 rfl dX5_clap_68 ?_
        refine ek_get X hin_X5_clap_X5 0 rfl rfl 9 (by decide) (List.mem_of_getElem? (i := 1) rfl) rfl dX5_clap_69 ?_
        refine ek_top (v' := tCh t) rfl ?_
        refine ek_icmp_ne X 82 (by decide) dX5_clap_72 (fun c_72 => ?_) (fun c_72 => ?_)
        · skip
          refine ek_aln X 1 rfl dX5_clap_82 ?_
          refine ek_get X hin_X5_clap_X5 0 rfl rfl 20 (by decide) (List.mem_of_getElem? (i := 3) rfl) rfl dX5_clap_83 ?_
          refine ek_getN X hin_X5_clap_X6 9 rfl rfl 6 (by decide) (List.mem_of_getElem? (i := 30) rfl) rfl dX5_clap_86 ?_
          refine ek_ic (v := nI 5) X (by decide) dX5_clap_89 ?_
          refine ek_iln X 3 rfl dX5_clap_90 ?_
          refine ek_Nmul X dX5_clap_91 ?_
          refine ek_ic (v := nI 4) X (by decide) dX5_clap_92 ?_
          refine ek_Nadd X dX5_clap_93 ?_
          refine ek_ald X 10 0 rfl rfl (by omega) (by omega) dX5_clap_94 ?_
          have b3_94 := mRs ((5 * c) + 4)
          refine ek_Nadd X dX5_clap_95 ?_
          refine ek_is (lv' := [(5, .int (nI (x + ((mRo m) ((5 * c) + 4))))), (4, .int (nI (tWi t))), (0, .ref (ad f)), (1, .int (nI x)), (2, .int (nI c)), (3, .int (nI r))]) X (by decide) rfl dX5_clap_96 ?_
          have hdly : x + tDly m t c = (x + ((mRo m) ((5 * c) + 4))) := congrArg (fun a => x + a) (by first | exact if_pos (by assumption) | exact if_neg (by assumption))
          refine ek_il X 0 rfl dX5_clap_98 ?_
          refine ek_sp (v := nI 200) X (by decide) dX5_clap_100 ?_
          refine ek_Ngt X (by omega) (by omega) 123 (by decide) dX5_clap_103 (fun c_103 => ?_) (fun c_103 => ?_)
          · skip
            exact ek_retv X () ⟨rfl, trivial⟩ (by unfold tClap; rw [if_pos ⟨hown.trans (by assumption), by assumption⟩]; first | (rw [if_pos (by rw [hdly]; omega)]) | (rw [if_neg (by rw [hdly]; omega), hown, hdly])) dX5_clap_123
          · skip
            refine ek_aln X 2 rfl dX5_clap_106 ?_
            refine ek_il X 0 rfl dX5_clap_107 ?_
            refine ek_iln X 4 rfl dX5_clap_109 ?_
            refine ek_aln X 2 rfl dX5_clap_110 ?_
            refine ek_get X hin_X5_clap_X5 0 rfl rfl 14 (by decide) (List.mem_of_getElem? (i := 7) rfl) rfl dX5_clap_111 ?_
            refine ek_iln X 5 rfl dX5_clap_114 ?_
            refine ek_ald X 3 0 rfl rfl (by omega) (by omega) dX5_clap_115 ?_
            refine ek_top (v' := nI ((tPc t) r)) rfl ?_
            refine ek_il X 1 rfl dX5_clap_116 ?_
            refine ek_bp (v := nI 60) X (by decide) dX5_clap_118 ?_
            refine ek_doWv X (ek_runV (As := [.int (nI (x + ((mRo m) ((5 * c) + 4)))), .int (nI c), .int (nI ((tPc t) r)), .int (nI (tWi t)), .int (nI 60)]) (rest := []) X (c_X5_start l D cI cJ cR ad f m (((tOd t, tPw t, tPc t, tSy t), (tTh t, tBa t, tFi t, tHe t), (tWa t, tRu t, tCl t ||| 2 ^ c, tK t), (tCt t, tOr t, tLa t, tLt t), (tWo t, tPl t, tCh t, tWi t))) hM (x + ((mRo m) ((5 * c) + 4))) c ((tPc t) r) (tWi t) 60 (by omega) hc hrun.1 (by show tWa t < 629; have := tPot_le t; omega) tod) gX5_clap_X5_start rfl hdV_X5_start ⟨Nat.le_of_ble_eq_true rfl, Nat.le_of_ble_eq_true rfl⟩ ⟨Nat.le_of_ble_eq_true rfl, Nat.le_of_ble_eq_true rfl⟩ [0, 1, 2, 3, 4, 5, 6, 7, 8, 9, 10, 11] rfl (by decide) 0 5 rfl rfl (Nat.le_of_ble_eq_true rfl) dX5_clap_120) [0, 1, 2, 3, 4, 5, 6, 7, 8, 9, 10, 11] [] rfl rfl (by decide) (by decide) (fun _ => wT ad f cI (tStart (x + ((mRo m) ((5 * c) + 4))) c ((tPc t) r) (tWi t) 60 (((tOd t, tPw t, tPc t, tSy t), (tTh t, tBa t, tFi t, tHe t), (tWa t, tRu t, tCl t ||| 2 ^ c, tK t), (tCt t, tOr t, tLa t, tLt t), (tWo t, tPl t, tCh t, tWi t)))) m) [0, 1, 2, 3, 4, 5, 6, 7, 8, 9, 10, 11] (by decide) (fun _ => rfl) (fun u_120 hv_120 => ?_)
            exact ek_retv X () ⟨rfl, trivial⟩ (by unfold tClap; rw [if_pos ⟨hown.trans (by assumption), by assumption⟩]; first | (rw [if_pos (by rw [hdly]; omega)]) | (rw [if_neg (by rw [hdly]; omega), hown, hdly])) dX5_clap_123
        · skip
          refine ek_aln X 1 rfl dX5_clap_75 ?_
          refine ek_get X hin_X5_clap_X5 0 rfl rfl 11 (by decide) (List.mem_of_getElem? (i := 6) rfl) rfl dX5_clap_76 ?_
          refine ek_top (v' := nI (tLt t)) rfl ?_
          refine ek_goto X 95 (by decide) dX5_clap_79 ?_
          refine ek_Nadd X dX5_clap_95 ?_
          refine ek_is (lv' := [(5, .int (nI (x + (tLt t)))), (4, .int (nI (tWi t))), (0, .ref (ad f)), (1, .int (nI x)), (2, .int (nI c)), (3, .int (nI r))]) X (by decide) rfl dX5_clap_96 ?_
          have hdly : x + tDly m t c = (x + (tLt t)) := congrArg (fun a => x + a) (by first | exact if_pos (by assumption) | exact if_neg (by assumption))
          refine ek_il X 0 rfl dX5_clap_98 ?_
          refine ek_sp (v := nI 200) X (by decide) dX5_clap_100 ?_
          refine ek_Ngt X (by omega) (by omega) 123 (by decide) dX5_clap_103 (fun c_103 => ?_) (fun c_103 => ?_)
          · skip
            exact ek_retv X () ⟨rfl, trivial⟩ (by unfold tClap; rw [if_pos ⟨hown.trans (by assumption), by assumption⟩]; first | (rw [if_pos (by rw [hdly]; omega)]) | (rw [if_neg (by rw [hdly]; omega), hown, hdly])) dX5_clap_123
          · skip
            refine ek_aln X 2 rfl dX5_clap_106 ?_
            refine ek_il X 0 rfl dX5_clap_107 ?_
            refine ek_iln X 4 rfl dX5_clap_109 ?_
            refine ek_aln X 2 rfl dX5_clap_110 ?_
            refine ek_get X hin_X5_clap_X5 0 rfl rfl 14 (by decide) (List.mem_of_getElem? (i := 7) rfl) rfl dX5_clap_111 ?_
            refine ek_iln X 5 rfl dX5_clap_114 ?_
            refine ek_ald X 3 0 rfl rfl (by omega) (by omega) dX5_clap_115 ?_
            refine ek_top (v' := nI ((tPc t) r)) rfl ?_
            refine ek_il X 1 rfl dX5_clap_116 ?_
            refine ek_bp (v := nI 60) X (by decide) dX5_clap_118 ?_
            refine ek_doWv X (ek_runV (As := [.int (nI (x + (tLt t))), .int (nI c), .int (nI ((tPc t) r)), .int (nI (tWi t)), .int (nI 60)]) (rest := []) X (c_X5_start l D cI cJ cR ad f m (((tOd t, tPw t, tPc t, tSy t), (tTh t, tBa t, tFi t, tHe t), (tWa t, tRu t, tCl t ||| 2 ^ c, tK t), (tCt t, tOr t, tLa t, tLt t), (tWo t, tPl t, tCh t, tWi t))) hM (x + (tLt t)) c ((tPc t) r) (tWi t) 60 (by omega) hc hrun.1 (by show tWa t < 629; have := tPot_le t; omega) tod) gX5_clap_X5_start rfl hdV_X5_start ⟨Nat.le_of_ble_eq_true rfl, Nat.le_of_ble_eq_true rfl⟩ ⟨Nat.le_of_ble_eq_true rfl, Nat.le_of_ble_eq_true rfl⟩ [0, 1, 2, 3, 4, 5, 6, 7, 8, 9, 10, 11] rfl (by decide) 0 5 rfl rfl (Nat.le_of_ble_eq_true rfl) dX5_clap_120) [0, 1, 2, 3, 4, 5, 6, 7, 8, 9, 10, 11] [] rfl rfl (by decide) (by decide) (fun _ => wT ad f cI (tStart (x + (tLt t)) c ((tPc t) r) (tWi t) 60 (((tOd t, tPw t, tPc t, tSy t), (tTh t, tBa t, tFi t, tHe t), (tWa t, tRu t, tCl t ||| 2 ^ c, tK t), (tCt t, tOr t, tLa t, tLt t), (tWo t, tPl t, tCh t, tWi t)))) m) [0, 1, 2, 3, 4, 5, 6, 7, 8, 9, 10, 11] (by decide) (fun _ => rfl) (fun u_120 hv_120 => ?_)
            exact ek_retv X () ⟨rfl, trivial⟩ (by unfold tClap; rw [if_pos ⟨hown.trans (by assumption), by assumption⟩]; first | (rw [if_pos (by rw [hdly]; omega)]) | (rw [if_neg (by rw [hdly]; omega), hown, hdly])) dX5_clap_123
      · skip
        exact ek_retv X () ⟨rfl, trivial⟩ (by unfold tClap; rw [if_neg (fun h => by have h1 := h.1; have h2 := h.2; rw [hown] at h1; omega)]) dX5_clap_53

theorem nI_ne1 {n : Nat} (h : n < 2147483648) : ¬ nI n = -1 := fun e => by
  have h1 := m1_lt h
  rw [e] at h1
  exact absurd h1 (by decide)
theorem tHear_ok {m : MdlT} {t : MsnT} (hT : tOk m t) (x r z : Nat) : tOk m (tHear m x r z t) ∧ tRu (tHear m x r z t) = tRu t := by
  obtain ⟨⟨q1, q2, q3, q4, q5, q6, q7, q8, q9, ⟨k1, k2, k3⟩, q11⟩, q12⟩ := id hT
  unfold tHear
  split
  · exact ⟨hT, rfl⟩
  · split
    · refine ⟨⟨⟨q1, q2, q3, q4, q5, q6, q7, q8, q9, ⟨by show tK t + 1 ≤ 60; omega, by show tCt t + 1 ≤ tK t + 1; omega, ?_⟩, q11⟩, q12⟩, rfl⟩
      show (if tPc t r = tOr t then tOr t + 1 else tOr t) ≤ tCt t + 1
      split <;> omega
    · exact ⟨⟨⟨q1, q2, q3, q4, q5, q6, q7, q8, q9, ⟨by show tK t + 1 ≤ 60; omega, by show tCt t ≤ tK t + 1; omega, k3⟩, q11⟩, q12⟩, rfl⟩
def tMay (m : MdlT) (n z : Nat) (t : MsnT) : MsnT := if (n / 19 / 17 % 12) = 0 ∧ 0 < (n % 19) then tHear m (n / 19 / 17 / 12) (n / 19 % 17) z t else t
theorem tStart_pl (x c p y z : Nat) (t : MsnT) : tPl (tStart x c p y z t) = tPl t := by
  unfold tStart tCome
  split <;> rfl
def tGosS (m : MdlT) (c r b x z p : Nat) (t : MsnT) : MsnT := if ¬ p + 1 = b ∧ mTouch m p c ∧ mOpen m p (mW m) then tGo m x c r p z t else t
def tGos (m : MdlT) (c r b x z : Nat) (t : MsnT) : Nat → MsnT
  | 0 => t
  | p + 1 => tGosS m c r b x z p (tGos m c r b x z t p)
def tRest (m : MdlT) (n z : Nat) (t : MsnT) : MsnT := if 0 < (n % 19) ∧ ¬ (n / 19 / 17 % 12) = 0 then tGo m (n / 19 / 17 / 12) (n / 19 / 17 % 12) (n / 19 % 17) ((n % 19) - 1) (z * mRo m (5 * (n / 19 / 17 % 12)) / 100) t else t
def tArr (m : MdlT) (n z : Nat) (t : MsnT) : MsnT := if z < 2 * mRo m (5 * (n / 19 / 17 % 12) + 2) + 1 then tMay m n z t else tRest m n z (tGos m (n / 19 / 17 % 12) (n / 19 % 17) (n % 19) (n / 19 / 17 / 12) z (tClap m (n / 19 / 17 / 12) (n / 19 / 17 % 12) (n / 19 % 17) (tMay m n z t)) (mP m))
theorem tMay_ok {m : MdlT} {t : MsnT} (hT : tOk m t) (n z : Nat) : tOk m (tMay m n z t) ∧ tRu (tMay m n z t) = tRu t := by
  unfold tMay
  split
  · exact tHear_ok hT _ _ _
  · exact ⟨hT, rfl⟩
theorem tGosS_ok {m : MdlT} {t : MsnT} (hM : mOk m) (hT : tOk m t) {c r b x z p : Nat} (hc : c < 12) (hr : r < tRu t) (hz : z < 128) (hp : p < mP m) : tOk m (tGosS m c r b x z p t) ∧ tRu (tGosS m c r b x z p t) = tRu t := by
  unfold tGosS
  split
  · rename_i h
    exact tGo_ok hM hT hr hp hc hz h.2.1
  · exact ⟨hT, rfl⟩
theorem tGos_ok {m : MdlT} {t : MsnT} (hM : mOk m) (hT : tOk m t) {c r b x z : Nat} (hc : c < 12) (hr : r < tRu t) (hz : z < 128) : ∀ p, p ≤ mP m → tOk m (tGos m c r b x z t p) ∧ tRu (tGos m c r b x z t p) = tRu t
  | 0, _ => ⟨hT, rfl⟩
  | p + 1, hp => by
    obtain ⟨i1, i2⟩ := tGos_ok hM hT hc hr hz (b := b) (x := x) p (by omega)
    obtain ⟨j1, j2⟩ := tGosS_ok hM i1 (c := c) (r := r) (b := b) (x := x) (z := z) (p := p) hc (by omega) hz (by omega)
    exact ⟨j1, j2.trans i2⟩
theorem tWal_lt {m : MdlT} (hM : mOk m) (c : Nat) {z : Nat} (hz : z < 128) : z * mRo m c / 100 < 128 := by
  obtain ⟨-, -, -, -, -, -, mRs, -⟩ := hM
  have h1 : z * mRo m c ≤ 127 * 100 := Nat.mul_le_mul (by omega) (mRs c)
  omega
theorem tRest_ok {m : MdlT} {t : MsnT} (hM : mOk m) (hT : tOk m t) {n z : Nat} (hn : tEnt m (tRu t) n) (hz : z < 128) : tOk m (tRest m n z t) ∧ tRu (tRest m n z t) = tRu t := by
  obtain ⟨n1, n2, n3⟩ := hn
  unfold tRest
  split
  · rename_i h
    exact tGo_ok hM hT n2 (by omega) (by omega) (tWal_lt hM _ hz) (by omega)
  · exact ⟨hT, rfl⟩
theorem tArr_ok {m : MdlT} {t : MsnT} (hM : mOk m) (hT : tOk m t) {n z : Nat} (hn : tEnt m (tRu t) n) (hz : z < 128) : tOk m (tArr m n z t) ∧ tRu t ≤ tRu (tArr m n z t) := by
  obtain ⟨a1, a2⟩ := tMay_ok hT n z
  unfold tArr
  split
  · exact ⟨a1, Nat.le_of_eq a2.symm⟩
  · obtain ⟨n1, n2, n3⟩ := hn
    obtain ⟨b1, b2⟩ := tClap_ok a1 (x := (n / 19 / 17 / 12)) (c := (n / 19 / 17 % 12)) (r := (n / 19 % 17)) (by omega) (by omega)
    obtain ⟨c1, c2⟩ := tGos_ok hM b1 (c := (n / 19 / 17 % 12)) (r := (n / 19 % 17)) (b := (n % 19)) (x := (n / 19 / 17 / 12)) (z := z) (by omega) (by omega) hz (mP m) (Nat.le_refl _)
    obtain ⟨d1, d2⟩ := tRest_ok hM c1 (n := n) (z := z) ⟨n1, by omega, n3⟩ hz
    exact ⟨d1, by omega⟩
abbrev tGrow (t t' : MsnT) : Prop := tPot t ≤ tPot t' ∧ tWa t' + tPot t ≤ tWa t + tPot t'
theorem grow_of {t t1 t2 : MsnT} (g1 : tPot t2 = tPot t1) (g2 : tWa t2 ≤ tWa t1 + 1) (e : tPot t1 = tPot t + 1) (e3 : tWa t1 = tWa t) : tGrow t t2 := ⟨by omega, by omega⟩
theorem tCome_grow (x c r b z : Nat) (t : MsnT) : tPot (tCome x c r b z t) = tPot t ∧ tWa (tCome x c r b z t) ≤ tWa t + 1 := by
  unfold tCome
  split
  · exact ⟨rfl, Nat.le_succ _⟩
  · exact ⟨rfl, Nat.le_refl _⟩
theorem tGo_grow {m : MdlT} {t : MsnT} {x c r p z : Nat} (hr : r < tRu t) (hp : p < 18) : tGrow t (tGo m x c r p z t) := by
  unfold tGo
  split
  · split
    · exact ⟨Nat.le_refl _, Nat.le_refl _⟩
    · rename_i h
      have e1 := tPot_th (tTh t r ||| 2 ^ p) hr
      have e2 := tB_set hp h
      obtain ⟨g1, g2⟩ := tCome_grow (x + mTu m (4 * p + 2)) (tOth m p c) r (p + 1) (z * (90 - 5 * mTu m (4 * p + 3)) / 100) (tThS t r (tTh t r ||| 2 ^ p))
      exact grow_of g1 g2 (by omega) rfl
  · split
    · exact ⟨Nat.le_refl _, Nat.le_refl _⟩
    · rename_i h
      have e1 := tPot_ba (tBa t r ||| 2 ^ p) hr
      have e2 := tB_set hp h
      obtain ⟨g1, g2⟩ := tCome_grow (x + mTu m (4 * p + 2)) (tOth m p c) r (p + 1) (z * (90 - 5 * mTu m (4 * p + 3)) / 100) (tBaS t r (tBa t r ||| 2 ^ p))
      exact grow_of g1 g2 (by omega) rfl
theorem tStart_grow (x c p y z : Nat) (t : MsnT) : tGrow t (tStart x c p y z t) := by
  rw [show tStart x c p y z t = tCome x c (tRu t) 0 z (tMore (tNew p y t)) from tMore_come _ _ _ _ _ _]
  obtain ⟨g1, g2⟩ := tCome_grow x c (tRu t) 0 z (tMore (tNew p y t))
  have e1 := tPot_new t p y
  exact grow_of g1 g2 e1 rfl
theorem tClap_grow (m : MdlT) (x c r : Nat) (t : MsnT) : tGrow t (tClap m x c r t) := by
  unfold tClap
  split
  · split
    · exact ⟨Nat.le_refl _, Nat.le_refl _⟩
    · exact tStart_grow _ _ _ _ _ (tSet t c)
  · exact ⟨Nat.le_refl _, Nat.le_refl _⟩
theorem tMay_grow (m : MdlT) (n z : Nat) (t : MsnT) : tGrow t (tMay m n z t) := by
  unfold tMay
  split
  · unfold tHear
    split
    · exact ⟨Nat.le_refl _, Nat.le_refl _⟩
    · split <;> exact ⟨Nat.le_refl _, Nat.le_refl _⟩
  · exact ⟨Nat.le_refl _, Nat.le_refl _⟩
theorem tGos_grow {m : MdlT} {t : MsnT} (hM : mOk m) (hT : tOk m t) {c r b x z : Nat} (hc : c < 12) (hr : r < tRu t) (hz : z < 128) : ∀ p, p ≤ mP m → tGrow t (tGos m c r b x z t p)
  | 0, _ => ⟨Nat.le_refl _, Nat.le_refl _⟩
  | p + 1, hp => by
    have i1 := tGos_grow hM hT hc hr hz (b := b) (x := x) p (by omega)
    obtain ⟨j1, j2⟩ := tGos_ok hM hT hc hr hz (b := b) (x := x) p (by omega)
    show tGrow t (tGosS m c r b x z p (tGos m c r b x z t p))
    unfold tGosS
    split
    · have k1 := tGo_grow (m := m) (t := tGos m c r b x z t p) (x := x) (c := c) (r := r) (p := p) (z := z) (by omega) (by have := hM.2.1; omega)
      exact ⟨by omega, by omega⟩
    · exact i1
theorem tArr_grow {m : MdlT} {t : MsnT} (hM : mOk m) (hT : tOk m t) {n z : Nat} (hn : tEnt m (tRu t) n) (hz : z < 128) : tGrow t (tArr m n z t) := by
  obtain ⟨a1, a2⟩ := tMay_ok hT n z
  have a3 := tMay_grow m n z t
  unfold tArr
  split
  · exact a3
  · obtain ⟨n1, n2, n3⟩ := hn
    obtain ⟨b1, b2⟩ := tClap_ok a1 (x := (n / 19 / 17 / 12)) (c := (n / 19 / 17 % 12)) (r := (n / 19 % 17)) (by omega) (by omega)
    have b3 := tClap_grow m (n / 19 / 17 / 12) (n / 19 / 17 % 12) (n / 19 % 17) (tMay m n z t)
    obtain ⟨c1, c2⟩ := tGos_ok hM b1 (c := (n / 19 / 17 % 12)) (r := (n / 19 % 17)) (b := (n % 19)) (x := (n / 19 / 17 / 12)) (z := z) (by omega) (by omega) hz (mP m) (Nat.le_refl _)
    have c3 := tGos_grow hM b1 (c := (n / 19 / 17 % 12)) (r := (n / 19 % 17)) (b := (n % 19)) (x := (n / 19 / 17 / 12)) (z := z) (by omega) (by omega) hz (mP m) (Nat.le_refl _)
    unfold tRest
    split
    · have k1 := tGo_grow (m := m) (t := tGos m (n / 19 / 17 % 12) (n / 19 % 17) (n % 19) (n / 19 / 17 / 12) z (tClap m (n / 19 / 17 / 12) (n / 19 / 17 % 12) (n / 19 % 17) (tMay m n z t)) (mP m)) (x := (n / 19 / 17 / 12)) (c := (n / 19 / 17 % 12)) (r := (n / 19 % 17)) (p := (n % 19) - 1) (z := z * mRo m (5 * (n / 19 / 17 % 12)) / 100) (by omega) (by have := hM.2.1; omega)
      exact ⟨by omega, by omega⟩
    · exact ⟨by omega, by omega⟩

theorem hin_X5_arrive_X5 : ∀ x ∈ wsX50, x ∈ wsX5_arrive := fun x h => List.mem_cons_of_mem _ (List.mem_append_left _ (List.mem_append_right _ h))
theorem hin_X5_arrive_X6 : ∀ x ∈ wsX60, x ∈ wsX5_arrive := fun x h => List.mem_cons_of_mem _ (List.mem_append_right _ h)
abbrev rm_X5_arrive : Room := { frames := 4, cells := 0, slots := 0, locals := 89 }
set_option maxHeartbeats 4000000 in
set_option maxRecDepth 100000 in
theorem c_X5_arrive (l : Launch) (D : va_G) (cI cJ cR : ClassId) (ad : Nat → Nat) (f : Nat) (m : MdlT) (t : MsnT) (hM : mOk m) (hT : tOk m t) (n z : Nat) (hn : tEnt m (tRu t) n) (hz : z < 128) : ek_M (S := Unit) l yX5_arrive wsX5_arrive rm_X5_arrive D (tyW cI cJ cR) nestW [.ref (ad f), .int (nI n), .int (nI z)] (wT ad f cI t m) (fun r9 _ => r9 = none ∧ True) (fun _ => wT ad f cI (tArr m n z t) m) := by
  refine ek_M.of (cc := cX5_arrive) (maxL := 8) (ret := none) (by decide) rfl (Nat.le_of_ble_eq_true rfl) ?_
  intro p9 e9 s9 m9 args9 below9 meth9 c9 A X hin
  obtain ⟨⟨mC1, mC2⟩, mPs, mWs, mEs, mTs, mSs, mRs, mTl⟩ := id hM
  obtain ⟨hn1, hn2, hn3⟩ := id hn
  have hbat := mRs (5 * (n / 19 / 17 % 12) + 2)
  have hzw : z * mRo m (5 * (n / 19 / 17 % 12)) ≤ 127 * 100 := Nat.mul_le_mul (by omega) (mRs _)
  have hr17 := hT.1.1.1
  refine ek_castL (lv' := [(0, .ref (ad f)), (1, .int (nI n)), (2, .int (nI z))]) rfl ?_
  refine ek_iln X 1 rfl dX5_arrive_0 ?_
  refine ek_bp (v := nI 19) X (by decide) dX5_arrive_1 ?_
  refine ek_Nrem X (by omega) (by omega) (by omega) dX5_arrive_3 ?_
  refine ek_ic (v := nI 1) X (by decide) dX5_arrive_4 ?_
  refine ek_sub X dX5_arrive_5 ?_
  rcases Nat.eq_zero_or_pos (n % 19) with hb | hb
  · refine ek_top (v' := -1) (by rw [hb]; decide) ?_
    refine ek_isn (lv' := [(3, .int (-1)), (0, .ref (ad f)), (1, .int (nI n)), (2, .int (nI z))]) X (by decide) rfl dX5_arrive_6 ?_
    refine ek_iln X 2 rfl dX5_arrive_7 ?_
    refine ek_bp (v := nI 19) X (by decide) dX5_arrive_8 ?_
    refine ek_Ndiv X (by omega) (by omega) (by omega) dX5_arrive_10 ?_
    refine ek_bp (v := nI 17) X (by decide) dX5_arrive_11 ?_
    refine ek_Nrem X (by omega) (by omega) (by omega) dX5_arrive_13 ?_
    refine ek_is (lv' := [(4, .int (nI ((n / 19) % 17))), (3, .int (-1)), (0, .ref (ad f)), (1, .int (nI n)), (2, .int (nI z))]) X (by decide) rfl dX5_arrive_14 ?_
    refine ek_iln X 3 rfl dX5_arrive_16 ?_
    refine ek_bp (v := nI 19) X (by decide) dX5_arrive_17 ?_
    refine ek_Ndiv X (by omega) (by omega) (by omega) dX5_arrive_19 ?_
    refine ek_bp (v := nI 17) X (by decide) dX5_arrive_20 ?_
    refine ek_Ndiv X (by omega) (by omega) (by omega) dX5_arrive_22 ?_
    refine ek_bp (v := nI 12) X (by decide) dX5_arrive_23 ?_
    refine ek_Nrem X (by omega) (by omega) (by omega) dX5_arrive_25 ?_
    refine ek_is (lv' := [(5, .int (nI (((n / 19) / 17) % 12))), (4, .int (nI ((n / 19) % 17))), (3, .int (-1)), (0, .ref (ad f)), (1, .int (nI n)), (2, .int (nI z))]) X (by decide) rfl dX5_arrive_26 ?_
    refine ek_iln X 4 rfl dX5_arrive_28 ?_
    refine ek_bp (v := nI 19) X (by decide) dX5_arrive_29 ?_
    refine ek_Ndiv X (by omega) (by omega) (by omega) dX5_arrive_31 ?_
    refine ek_bp (v := nI 17) X (by decide) dX5_arrive_32 ?_
    refine ek_Ndiv X (by omega) (by omega) (by omega) dX5_arrive_34 ?_
    refine ek_bp (v := nI 12) X (by decide) dX5_arrive_35 ?_
    refine ek_Ndiv X (by omega) (by omega) (by omega) dX5_arrive_37 ?_
    refine ek_is (lv' := [(6, .int (nI (((n / 19) / 17) / 12))), (5, .int (nI (((n / 19) / 17) % 12))), (4, .int (nI ((n / 19) % 17))), (3, .int (-1)), (0, .ref (ad f)), (1, .int (nI n)), (2, .int (nI z))]) X (by decide) rfl dX5_arrive_38 ?_
    refine ek_il X 1 rfl dX5_arrive_40 ?_
    refine ek_Zne X (by omega) 59 (by decide) dX5_arrive_42 (fun c_42 => ?_) (fun c_42 => ?_)
    · skip
      obtain ⟨t1, ht1⟩ : ∃ a : MsnT, a = t := ⟨_, rfl⟩
      have hm1 : t1 = tMay m n z t := by rw [ht1]; unfold tMay; first | rw [if_pos (by omega)] | rw [if_neg (by omega)]
      have hT1 := tMay_ok hT n z
      rw [← hm1] at hT1
      refine ek_cast (w' := wT ad f cI t1 m) (by rw [ht1]) ?_
      refine ek_iln X 6 rfl dX5_arrive_59 ?_
      refine ek_ic (v := nI 2) X (by decide) dX5_arrive_60 ?_
      refine ek_aln X 4 rfl dX5_arrive_61 ?_
      refine ek_get X hin_X5_arrive_X5 0 rfl rfl 20 (by decide) (List.mem_of_getElem? (i := 1) rfl) rfl dX5_arrive_62 ?_
      refine ek_getN X hin_X5_arrive_X6 9 rfl rfl 6 (by decide) (List.mem_of_getElem? (i := 30) rfl) rfl dX5_arrive_65 ?_
      refine ek_ic (v := nI 5) X (by decide) dX5_arrive_68 ?_
      refine ek_il X 1 rfl dX5_arrive_69 ?_
      refine ek_Nmul X dX5_arrive_71 ?_
      refine ek_ic (v := nI 2) X (by decide) dX5_arrive_72 ?_
      refine ek_Nadd X dX5_arrive_73 ?_
      refine ek_ald X 10 0 rfl rfl (by omega) (by omega) dX5_arrive_74 ?_
      have b1_74 := mRs ((5 * (((n / 19) / 17) % 12)) + 2)
      refine ek_Nmul X dX5_arrive_75 ?_
      refine ek_ic (v := nI 1) X (by decide) dX5_arrive_76 ?_
      refine ek_Nadd X dX5_arrive_77 ?_
      refine ek_Nge X (by omega) (by omega) 82 (by decide) dX5_arrive_78 (fun c_78 => ?_) (fun c_78 => ?_)
      · skip
        refine ek_aln X 4 rfl dX5_arrive_82 ?_
        refine ek_il X 0 rfl dX5_arrive_83 ?_
        refine ek_il X 1 rfl dX5_arrive_85 ?_
        refine ek_il X 2 rfl dX5_arrive_87 ?_
        refine ek_doWv X (ek_runV (As := [.int (nI (((n / 19) / 17) / 12)), .int (nI (((n / 19) / 17) % 12)), .int (nI ((n / 19) % 17))]) (rest := []) X (c_X5_clap l D cI cJ cR ad f m t1 hM hT1.1 (((n / 19) / 17) / 12) (((n / 19) / 17) % 12) ((n / 19) % 17) (by omega) (by omega) (by omega)) gX5_arrive_X5_clap rfl hdV_X5_clap ⟨Nat.le_of_ble_eq_true rfl, Nat.le_of_ble_eq_true rfl⟩ ⟨Nat.le_of_ble_eq_true rfl, Nat.le_of_ble_eq_true rfl⟩ [0, 1, 2, 3, 4, 5, 6, 7, 8, 9, 10, 11] rfl (by decide) 0 5 rfl rfl (Nat.le_of_ble_eq_true rfl) dX5_arrive_89) [0, 1, 2, 3, 4, 5, 6, 7, 8, 9, 10, 11] [] rfl rfl (by decide) (by decide) (fun _ => wT ad f cI (tClap m (((n / 19) / 17) / 12) (((n / 19) / 17) % 12) ((n / 19) % 17) t1) m) [0, 1, 2, 3, 4, 5, 6, 7, 8, 9, 10, 11] (by decide) (fun _ => rfl) (fun u_89 hv_89 => ?_)
        obtain ⟨t2, ht2⟩ : ∃ a : MsnT, a = (tClap m (((n / 19) / 17) / 12) (((n / 19) / 17) % 12) ((n / 19) % 17) t1) := ⟨_, rfl⟩
        have hT2 := tClap_ok hT1.1 (x := (n / 19 / 17 / 12)) (c := (n / 19 / 17 % 12)) (r := (n / 19 % 17)) (by omega) (by omega)
        rw [← ht2] at hT2
        refine ek_cast (w' := wT ad f cI t2 m) (by rw [ht2]) ?_
        refine ek_ic (v := nI 0) X (by decide) dX5_arrive_92 ?_
        refine ek_is (lv' := [(7, .int (nI 0)), (6, .int (nI (((n / 19) / 17) / 12))), (5, .int (nI (((n / 19) / 17) % 12))), (4, .int (nI ((n / 19) % 17))), (3, .int (-1)), (0, .ref (ad f)), (1, .int (nI n)), (2, .int (nI z))]) X (by decide) rfl dX5_arrive_93 ?_
        refine ek_loopAt (σ := Nat × MsnT) (fun zz => (fun (p : Nat) (t3 : MsnT) => p ≤ mP m ∧ t3 = tGos m (n / 19 / 17 % 12) (n / 19 % 17) (n % 19) (n / 19 / 17 / 12) z t2 p ∧ tOk m t3 ∧ tRu t3 = tRu t2) zz.1 zz.2) (fun zz => (fun (p : Nat) (t3 : MsnT) => mP m - p) zz.1 zz.2) (fun zz => (fun (p : Nat) (t3 : MsnT) => wT ad f cI t3 m) zz.1 zz.2) (fun zz => (fun (p : Nat) (t3 : MsnT) => [(0, .ref (ad f)), (1, .int (nI n)), (2, .int (nI z)), (3, .int (-1)), (4, .int (nI ((n / 19) % 17))), (5, .int (nI (((n / 19) / 17) % 12))), (6, .int (nI (((n / 19) / 17) / 12))), (7, .int (nI p))]) zz.1 zz.2) ?_ (0, t2) ⟨Nat.zero_le _, rfl, hT2.1, rfl⟩ rfl [5, 6, 7, 4, 3, 2, 1, 0] rfl
        intro zz ha_95 ih_95
        obtain ⟨p, t3⟩ := zz
        replace ha_95 : p ≤ mP m ∧ t3 = tGos m (n / 19 / 17 % 12) (n / 19 % 17) (n % 19) (n / 19 / 17 / 12) z t2 p ∧ tOk m t3 ∧ tRu t3 = tRu t2 := ha_95
        refine ek_cast (w' := wT ad f cI t3 m) rfl ?_
        refine ek_castL (lv' := [(0, .ref (ad f)), (1, .int (nI n)), (2, .int (nI z)), (3, .int (-1)), (4, .int (nI ((n / 19) % 17))), (5, .int (nI (((n / 19) / 17) % 12))), (6, .int (nI (((n / 19) / 17) / 12))), (7, .int (nI p))]) rfl ?_
        have hru3 := ha_95.2.2.2
        have hru2 := hT2.2
        have hru1 := hT1.2
        refine ek_il X 7 rfl dX5_arrive_95 ?_
        refine ek_aln X 0 rfl dX5_arrive_97 ?_
        refine ek_get X hin_X5_arrive_X5 0 rfl rfl 20 (by decide) (List.mem_of_getElem? (i := 1) rfl) rfl dX5_arrive_98 ?_
        refine ek_getN X hin_X5_arrive_X6 9 rfl rfl 2 (by decide) (List.mem_of_getElem? (i := 27) rfl) rfl dX5_arrive_101 ?_
        refine ek_Nge X (by omega) (by omega) 165 (by decide) dX5_arrive_104 (fun c_104 => ?_) (fun c_104 => ?_)
        · skip
          refine ek_iln X 3 rfl dX5_arrive_165 ?_
          refine ek_ic (v := -1) X (by decide) dX5_arrive_166 ?_
          refine ek_icmp_eq X 203 (by decide) dX5_arrive_167 (fun c_167 => ?_) (fun c_167 => ?_)
          · skip
            exact ek_retv X () ⟨rfl, trivial⟩ (congrArg (fun a => wT ad f cI a m) (show _ = tArr m n z t by obtain ⟨h1, h2, h3, h4⟩ := ha_95; have e : p = mP m := (by omega); unfold tArr; rw [if_neg (by omega), ← hm1, ← ht2, ← e, ← h2]; unfold tRest; first | (exfalso; omega) | rw [if_pos (by omega)] | rw [if_neg (by omega)])) dX5_arrive_203
          · exact absurd rfl c_167
        · skip
          refine ek_il X 7 rfl dX5_arrive_107 ?_
          refine ek_iln X 3 rfl dX5_arrive_109 ?_
          refine ek_icmp_eq X 159 (by decide) dX5_arrive_110 (fun c_110 => ?_) (fun c_110 => ?_)
          · exact absurd c_110 (nI_ne1 (by omega))
          · skip
            refine ek_aln X 0 rfl dX5_arrive_113 ?_
            refine ek_get X hin_X5_arrive_X5 0 rfl rfl 20 (by decide) (List.mem_of_getElem? (i := 1) rfl) rfl dX5_arrive_114 ?_
            refine ek_il X 7 rfl dX5_arrive_117 ?_
            refine ek_il X 5 rfl dX5_arrive_119 ?_
            refine ek_doRi (ek_runVN (As := [.int (nI p), .int (nI (((n / 19) / 17) % 12))]) (rest := []) X (c_X6_touches l D cI cJ cR ad m hM p (((n / 19) / 17) % 12) (by omega) (by omega)) gX5_arrive_X6_touches_n97 rfl (List.mem_of_getElem? (i := 36) rfl) (List.mem_of_getElem? (i := 38) rfl) (List.mem_of_getElem? (i := 37) rfl) (List.mem_of_getElem? (i := 39) rfl) hd_X6_touches ⟨Nat.le_of_ble_eq_true rfl, Nat.le_of_ble_eq_true rfl⟩ ⟨Nat.le_of_ble_eq_true rfl, Nat.le_of_ble_eq_true rfl⟩ [9, 10, 11] rfl (by decide) 0 6 rfl rfl (Nat.le_of_ble_eq_true rfl) dX5_arrive_121) (fun v_121 hv_121 => ?_)
            subst hv_121
            by_cases c_121 : mTouch m p (((n / 19) / 17) % 12)
            · refine ek_top (v' := nI 1) (congrArg nI (if_pos c_121)) ?_
              refine ek_Zeq X (by omega) 159 (by decide) dX5_arrive_124 (fun h => absurd h (by omega)) (fun _ => ?_)
              refine ek_aln X 0 rfl dX5_arrive_127 ?_
              refine ek_get X hin_X5_arrive_X5 0 rfl rfl 20 (by decide) (List.mem_of_getElem? (i := 1) rfl) rfl dX5_arrive_128 ?_
              refine ek_il X 7 rfl dX5_arrive_131 ?_
              refine ek_aln X 0 rfl dX5_arrive_133 ?_
              refine ek_get X hin_X5_arrive_X5 0 rfl rfl 20 (by decide) (List.mem_of_getElem? (i := 1) rfl) rfl dX5_arrive_134 ?_
              refine ek_getN X hin_X5_arrive_X6 9 rfl rfl 3 (by decide) (List.mem_of_getElem? (i := 28) rfl) rfl dX5_arrive_137 ?_
              refine ek_doRi (ek_runVN (As := [.int (nI p), .int (nI (mW m))]) (rest := []) X (c_X6_isOpen l D cI cJ cR ad m hM p (mW m) (by omega) (by omega)) gX5_arrive_X6_isOpen_n104 rfl (List.mem_of_getElem? (i := 37) rfl) (List.mem_of_getElem? (i := 38) rfl) (List.mem_of_getElem? (i := 42) rfl) (List.mem_of_getElem? (i := 43) rfl) hd_X6_isOpen ⟨Nat.le_of_ble_eq_true rfl, Nat.le_of_ble_eq_true rfl⟩ ⟨Nat.le_of_ble_eq_true rfl, Nat.le_of_ble_eq_true rfl⟩ [9, 10, 11] rfl (by decide) 0 6 rfl rfl (Nat.le_of_ble_eq_true rfl) dX5_arrive_140) (fun v_140 hv_140 => ?_)
              subst hv_140
              by_cases c_140 : mOpen m p (mW m)
              · refine ek_top (v' := nI 1) (congrArg nI (if_pos c_140)) ?_
                refine ek_Zeq X (by omega) 159 (by decide) dX5_arrive_143 (fun h => absurd h (by omega)) (fun _ => ?_)
                refine ek_aln X 0 rfl dX5_arrive_146 ?_
                refine ek_il X 6 rfl dX5_arrive_147 ?_
                refine ek_il X 5 rfl dX5_arrive_149 ?_
                refine ek_il X 4 rfl dX5_arrive_151 ?_
                refine ek_il X 7 rfl dX5_arrive_153 ?_
                refine ek_iln X 2 rfl dX5_arrive_155 ?_
                refine ek_doWv X (ek_runV (As := [.int (nI (((n / 19) / 17) / 12)), .int (nI (((n / 19) / 17) % 12)), .int (nI ((n / 19) % 17)), .int (nI p), .int (nI z)]) (rest := []) X (c_X5_go l D cI cJ cR ad f m t3 hM ha_95.2.2.1 (((n / 19) / 17) / 12) (((n / 19) / 17) % 12) ((n / 19) % 17) p z (by omega) (by omega) (by omega) (by omega) hz c_121) gX5_arrive_X5_go rfl hdV_X5_go ⟨Nat.le_of_ble_eq_true rfl, Nat.le_of_ble_eq_true rfl⟩ ⟨Nat.le_of_ble_eq_true rfl, Nat.le_of_ble_eq_true rfl⟩ [0, 1, 2, 3, 4, 5, 6, 7, 8, 9, 10, 11] rfl (by decide) 0 5 rfl rfl (Nat.le_of_ble_eq_true rfl) dX5_arrive_156) [0, 1, 2, 3, 4, 5, 6, 7, 8, 9, 10, 11] [] rfl rfl (by decide) (by decide) (fun _ => wT ad f cI (tGo m (((n / 19) / 17) / 12) (((n / 19) / 17) % 12) ((n / 19) % 17) p z t3) m) [0, 1, 2, 3, 4, 5, 6, 7, 8, 9, 10, 11] (by decide) (fun _ => rfl) (fun u_156 hv_156 => ?_)
                refine ek_Ninc (j := 7) (d := 1) (lv' := [(7, .int (nI (p + 1))), (0, .ref (ad f)), (1, .int (nI n)), (2, .int (nI z)), (3, .int (-1)), (4, .int (nI ((n / 19) % 17))), (5, .int (nI (((n / 19) / 17) % 12))), (6, .int (nI (((n / 19) / 17) / 12)))]) X rfl (by decide) rfl dX5_arrive_159 ?_
                refine ek_goto X 95 (by decide) dX5_arrive_162 ?_
                refine ek_re [1, 2, 3, 4, 5, 6, 7, 0] rfl ?_
                exact ih_95 (p + 1, (tGo m (((n / 19) / 17) / 12) (((n / 19) / 17) % 12) ((n / 19) % 17) p z t3)) (show (p + 1) ≤ mP m ∧ ((tGo m (((n / 19) / 17) / 12) (((n / 19) / 17) % 12) ((n / 19) % 17) p z t3)) = tGos m (n / 19 / 17 % 12) (n / 19 % 17) (n % 19) (n / 19 / 17 / 12) z t2 (p + 1) ∧ tOk m ((tGo m (((n / 19) / 17) / 12) (((n / 19) / 17) % 12) ((n / 19) % 17) p z t3)) ∧ tRu ((tGo m (((n / 19) / 17) / 12) (((n / 19) / 17) % 12) ((n / 19) % 17) p z t3)) = tRu t2 from (by obtain ⟨h1, h2, h3, h4⟩ := ha_95; first | (have h5 := tGo_ok hM h3 (x := (n / 19 / 17 / 12)) (c := (n / 19 / 17 % 12)) (r := (n / 19 % 17)) (p := p) (z := z) (by omega) (by omega) (by omega) hz c_121; refine ⟨by omega, ?_, h5.1, h5.2.trans h4⟩; show _ = tGosS m (n / 19 / 17 % 12) (n / 19 % 17) (n % 19) (n / 19 / 17 / 12) z p (tGos m (n / 19 / 17 % 12) (n / 19 % 17) (n % 19) (n / 19 / 17 / 12) z t2 p); rw [← h2]; exact (if_pos ⟨by omega, c_121, c_140⟩).symm) | (refine ⟨by omega, ?_, h3, h4⟩; show _ = tGosS m (n / 19 / 17 % 12) (n / 19 % 17) (n % 19) (n / 19 / 17 / 12) z p (tGos m (n / 19 / 17 % 12) (n / 19 % 17) (n % 19) (n / 19 / 17 / 12) z t2 p); rw [← h2]; exact (if_neg (fun h => by have g1 := h.1; have g2 := h.2.1; have g3 := h.2.2; first | omega | contradiction)).symm))) (by show mP m - (p + 1) < mP m - p; omega)
              · refine ek_top (v' := nI 0) (congrArg nI (if_neg c_140)) ?_
                refine ek_Zeq X (by omega) 159 (by decide) dX5_arrive_143 (fun _ => ?_) (fun h => absurd h (by omega))
                refine ek_Ninc (j := 7) (d := 1) (lv' := [(7, .int (nI (p + 1))), (0, .ref (ad f)), (1, .int (nI n)), (2, .int (nI z)), (3, .int (-1)), (4, .int (nI ((n / 19) % 17))), (5, .int (nI (((n / 19) / 17) % 12))), (6, .int (nI (((n / 19) / 17) / 12)))]) X rfl (by decide) rfl dX5_arrive_159 ?_
                refine ek_goto X 95 (by decide) dX5_arrive_162 ?_
                refine ek_re [1, 2, 3, 4, 5, 6, 7, 0] rfl ?_
                exact ih_95 (p + 1, t3) (show (p + 1) ≤ mP m ∧ t3 = tGos m (n / 19 / 17 % 12) (n / 19 % 17) (n % 19) (n / 19 / 17 / 12) z t2 (p + 1) ∧ tOk m t3 ∧ tRu t3 = tRu t2 from (by obtain ⟨h1, h2, h3, h4⟩ := ha_95; first | (have h5 := tGo_ok hM h3 (x := (n / 19 / 17 / 12)) (c := (n / 19 / 17 % 12)) (r := (n / 19 % 17)) (p := p) (z := z) (by omega) (by omega) (by omega) hz c_121; refine ⟨by omega, ?_, h5.1, h5.2.trans h4⟩; show _ = tGosS m (n / 19 / 17 % 12) (n / 19 % 17) (n % 19) (n / 19 / 17 / 12) z p (tGos m (n / 19 / 17 % 12) (n / 19 % 17) (n % 19) (n / 19 / 17 / 12) z t2 p); rw [← h2]; exact (if_pos ⟨by omega, c_121, c_140⟩).symm) | (refine ⟨by omega, ?_, h3, h4⟩; show _ = tGosS m (n / 19 / 17 % 12) (n / 19 % 17) (n % 19) (n / 19 / 17 / 12) z p (tGos m (n / 19 / 17 % 12) (n / 19 % 17) (n % 19) (n / 19 / 17 / 12) z t2 p); rw [← h2]; exact (if_neg (fun h => by have g1 := h.1; have g2 := h.2.1; have g3 := h.2.2; first | omega | contradiction)).symm))) (by show mP m - (p + 1) < mP m - p; omega)
            · refine ek_top (v' := nI 0) (congrArg nI (if_neg c_121)) ?_
              refine ek_Zeq X (by omega) 159 (by decide) dX5_arrive_124 (fun _ => ?_) (fun h => absurd h (by omega))
              refine ek_Ninc (j := 7) (d := 1) (lv' := [(7, .int (nI (p + 1))), (0, .ref (ad f)), (1, .int (nI n)), (2, .int (nI z)), (3, .int (-1)), (4, .int (nI ((n / 19) % 17))), (5, .int (nI (((n / 19) / 17) % 12))), (6, .int (nI (((n / 19) / 17) / 12)))]) X rfl (by decide) rfl dX5_arrive_159 ?_
              refine ek_goto X 95 (by decide) dX5_arrive_162 ?_
              refine ek_re [1, 2, 3, 4, 5, 6, 7, 0] rfl ?_
              exact ih_95 (p + 1, t3) (show (p + 1) ≤ mP m ∧ t3 = tGos m (n / 19 / 17 % 12) (n / 19 % 17) (n % 19) (n / 19 / 17 / 12) z t2 (p + 1) ∧ tOk m t3 ∧ tRu t3 = tRu t2 from (by obtain ⟨h1, h2, h3, h4⟩ := ha_95; first | (have h5 := tGo_ok hM h3 (x := (n / 19 / 17 / 12)) (c := (n / 19 / 17 % 12)) (r := (n / 19 % 17)) (p := p) (z := z) (by omega) (by omega) (by omega) hz c_121; refine ⟨by omega, ?_, h5.1, h5.2.trans h4⟩; show _ = tGosS m (n / 19 / 17 % 12) (n / 19 % 17) (n % 19) (n / 19 / 17 / 12) z p (tGos m (n / 19 / 17 % 12) (n / 19 % 17) (n % 19) (n / 19 / 17 / 12) z t2 p); rw [← h2]; exact (if_pos ⟨by omega, c_121, c_140⟩).symm) | (refine ⟨by omega, ?_, h3, h4⟩; show _ = tGosS m (n / 19 / 17 % 12) (n / 19 % 17) (n % 19) (n / 19 / 17 / 12) z p (tGos m (n / 19 / 17 % 12) (n / 19 % 17) (n % 19) (n / 19 / 17 / 12) z t2 p); rw [← h2]; exact (if_neg (fun h => by have g1 := h.1; have g2 := h.2.1; have g3 := h.2.2; first | omega | contradiction)).symm))) (by show mP m - (p + 1) < mP m - p; omega)
      · skip
        exact ek_retv X () ⟨rfl, trivial⟩ (congrArg (fun a => wT ad f cI a m) (show t1 = tArr m n z t by unfold tArr; rw [if_pos (by omega), hm1])) dX5_arrive_81
    · skip
      refine ek_iln X 3 rfl dX5_arrive_45 ?_
      refine ek_ic (v := -1) X (by decide) dX5_arrive_46 ?_
      refine ek_icmp_eq X 59 (by decide) dX5_arrive_47 (fun c_47 => ?_) (fun c_47 => ?_)
      · skip
        obtain ⟨t1, ht1⟩ : ∃ a : MsnT, a = t := ⟨_, rfl⟩
        have hm1 : t1 = tMay m n z t := by rw [ht1]; unfold tMay; first | rw [if_pos (by omega)] | rw [if_neg (by omega)]
        have hT1 := tMay_ok hT n z
        rw [← hm1] at hT1
        refine ek_cast (w' := wT ad f cI t1 m) (by rw [ht1]) ?_
        refine ek_iln X 6 rfl dX5_arrive_59 ?_
        refine ek_ic (v := nI 2) X (by decide) dX5_arrive_60 ?_
        refine ek_aln X 4 rfl dX5_arrive_61 ?_
        refine ek_get X hin_X5_arrive_X5 0 rfl rfl 20 (by decide) (List.mem_of_getElem? (i := 1) rfl) rfl dX5_arrive_62 ?_
        refine ek_getN X hin_X5_arrive_X6 9 rfl rfl 6 (by decide) (List.mem_of_getElem? (i := 30) rfl) rfl dX5_arrive_65 ?_
        refine ek_ic (v := nI 5) X (by decide) dX5_arrive_68 ?_
        refine ek_il X 1 rfl dX5_arrive_69 ?_
        refine ek_Nmul X dX5_arrive_71 ?_
        refine ek_ic (v := nI 2) X (by decide) dX5_arrive_72 ?_
        refine ek_Nadd X dX5_arrive_73 ?_
        refine ek_ald X 10 0 rfl rfl (by omega) (by omega) dX5_arrive_74 ?_
        have b2_74 := mRs ((5 * (((n / 19) / 17) % 12)) + 2)
        refine ek_Nmul X dX5_arrive_75 ?_
        refine ek_ic (v := nI 1) X (by decide) dX5_arrive_76 ?_
        refine ek_Nadd X dX5_arrive_77 ?_
        refine ek_Nge X (by omega) (by omega) 82 (by decide) dX5_arrive_78 (fun c_78 => ?_) (fun c_78 => ?_)
        · skip
          refine ek_aln X 4 rfl dX5_arrive_82 ?_
          refine ek_il X 0 rfl dX5_arrive_83 ?_
          refine ek_il X 1 rfl dX5_arrive_85 ?_
          refine ek_il X 2 rfl dX5_arrive_87 ?_
          refine ek_doWv X (ek_runV (As := [.int (nI (((n / 19) / 17) / 12)), .int (nI (((n / 19) / 17) % 12)), .int (nI ((n / 19) % 17))]) (rest := []) X (c_X5_clap l D cI cJ cR ad f m t1 hM hT1.1 (((n / 19) / 17) / 12) (((n / 19) / 17) % 12) ((n / 19) % 17) (by omega) (by omega) (by omega)) gX5_arrive_X5_clap rfl hdV_X5_clap ⟨Nat.le_of_ble_eq_true rfl, Nat.le_of_ble_eq_true rfl⟩ ⟨Nat.le_of_ble_eq_true rfl, Nat.le_of_ble_eq_true rfl⟩ [0, 1, 2, 3, 4, 5, 6, 7, 8, 9, 10, 11] rfl (by decide) 0 5 rfl rfl (Nat.le_of_ble_eq_true rfl) dX5_arrive_89) [0, 1, 2, 3, 4, 5, 6, 7, 8, 9, 10, 11] [] rfl rfl (by decide) (by decide) (fun _ => wT ad f cI (tClap m (((n / 19) / 17) / 12) (((n / 19) / 17) % 12) ((n / 19) % 17) t1) m) [0, 1, 2, 3, 4, 5, 6, 7, 8, 9, 10, 11] (by decide) (fun _ => rfl) (fun u_89 hv_89 => ?_)
          obtain ⟨t2, ht2⟩ : ∃ a : MsnT, a = (tClap m (((n / 19) / 17) / 12) (((n / 19) / 17) % 12) ((n / 19) % 17) t1) := ⟨_, rfl⟩
          have hT2 := tClap_ok hT1.1 (x := (n / 19 / 17 / 12)) (c := (n / 19 / 17 % 12)) (r := (n / 19 % 17)) (by omega) (by omega)
          rw [← ht2] at hT2
          refine ek_cast (w' := wT ad f cI t2 m) (by rw [ht2]) ?_
          refine ek_ic (v := nI 0) X (by decide) dX5_arrive_92 ?_
          refine ek_is (lv' := [(7, .int (nI 0)), (6, .int (nI (((n / 19) / 17) / 12))), (5, .int (nI (((n / 19) / 17) % 12))), (4, .int (nI ((n / 19) % 17))), (3, .int (-1)), (0, .ref (ad f)), (1, .int (nI n)), (2, .int (nI z))]) X (by decide) rfl dX5_arrive_93 ?_
          refine ek_loopAt (σ := Nat × MsnT) (fun zz => (fun (p : Nat) (t3 : MsnT) => p ≤ mP m ∧ t3 = tGos m (n / 19 / 17 % 12) (n / 19 % 17) (n % 19) (n / 19 / 17 / 12) z t2 p ∧ tOk m t3 ∧ tRu t3 = tRu t2) zz.1 zz.2) (fun zz => (fun (p : Nat) (t3 : MsnT) => mP m - p) zz.1 zz.2) (fun zz => (fun (p : Nat) (t3 : MsnT) => wT ad f cI t3 m) zz.1 zz.2) (fun zz => (fun (p : Nat) (t3 : MsnT) => [(0, .ref (ad f)), (1, .int (nI n)), (2, .int (nI z)), (3, .int (-1)), (4, .int (nI ((n / 19) % 17))), (5, .int (nI (((n / 19) / 17) % 12))), (6, .int (nI (((n / 19) / 17) / 12))), (7, .int (nI p))]) zz.1 zz.2) ?_ (0, t2) ⟨Nat.zero_le _, rfl, hT2.1, rfl⟩ rfl [5, 6, 7, 4, 3, 2, 1, 0] rfl
          intro zz ha_95 ih_95
          obtain ⟨p, t3⟩ := zz
          replace ha_95 : p ≤ mP m ∧ t3 = tGos m (n / 19 / 17 % 12) (n / 19 % 17) (n % 19) (n / 19 / 17 / 12) z t2 p ∧ tOk m t3 ∧ tRu t3 = tRu t2 := ha_95
          refine ek_cast (w' := wT ad f cI t3 m) rfl ?_
          refine ek_castL (lv' := [(0, .ref (ad f)), (1, .int (nI n)), (2, .int (nI z)), (3, .int (-1)), (4, .int (nI ((n / 19) % 17))), (5, .int (nI (((n / 19) / 17) % 12))), (6, .int (nI (((n / 19) / 17) / 12))), (7, .int (nI p))]) rfl ?_
          have hru3 := ha_95.2.2.2
          have hru2 := hT2.2
          have hru1 := hT1.2
          refine ek_il X 7 rfl dX5_arrive_95 ?_
          refine ek_aln X 0 rfl dX5_arrive_97 ?_
          refine ek_get X hin_X5_arrive_X5 0 rfl rfl 20 (by decide) (List.mem_of_getElem? (i := 1) rfl) rfl dX5_arrive_98 ?_
          refine ek_getN X hin_X5_arrive_X6 9 rfl rfl 2 (by decide) (List.mem_of_getElem? (i := 27) rfl) rfl dX5_arrive_101 ?_
          refine ek_Nge X (by omega) (by omega) 165 (by decide) dX5_arrive_104 (fun c_104 => ?_) (fun c_104 => ?_)
          · skip
            refine ek_iln X 3 rfl dX5_arrive_165 ?_
            refine ek_ic (v := -1) X (by decide) dX5_arrive_166 ?_
            refine ek_icmp_eq X 203 (by decide) dX5_arrive_167 (fun c_167 => ?_) (fun c_167 => ?_)
            · skip
              exact ek_retv X () ⟨rfl, trivial⟩ (congrArg (fun a => wT ad f cI a m) (show _ = tArr m n z t by obtain ⟨h1, h2, h3, h4⟩ := ha_95; have e : p = mP m := (by omega); unfold tArr; rw [if_neg (by omega), ← hm1, ← ht2, ← e, ← h2]; unfold tRest; first | (exfalso; omega) | rw [if_pos (by omega)] | rw [if_neg (by omega)])) dX5_arrive_203
            · exact absurd rfl c_167
          · skip
            refine ek_il X 7 rfl dX5_arrive_107 ?_
            refine ek_iln X 3 rfl dX5_arrive_109 ?_
            refine ek_icmp_eq X 159 (by decide) dX5_arrive_110 (fun c_110 => ?_) (fun c_110 => ?_)
            · exact absurd c_110 (nI_ne1 (by omega))
            · skip
              refine ek_aln X 0 rfl dX5_arrive_113 ?_
              refine ek_get X hin_X5_arrive_X5 0 rfl rfl 20 (by decide) (List.mem_of_getElem? (i := 1) rfl) rfl dX5_arrive_114 ?_
              refine ek_il X 7 rfl dX5_arrive_117 ?_
              refine ek_il X 5 rfl dX5_arrive_119 ?_
              refine ek_doRi (ek_runVN (As := [.int (nI p), .int (nI (((n / 19) / 17) % 12))]) (rest := []) X (c_X6_touches l D cI cJ cR ad m hM p (((n / 19) / 17) % 12) (by omega) (by omega)) gX5_arrive_X6_touches_n97 rfl (List.mem_of_getElem? (i := 36) rfl) (List.mem_of_getElem? (i := 38) rfl) (List.mem_of_getElem? (i := 37) rfl) (List.mem_of_getElem? (i := 39) rfl) hd_X6_touches ⟨Nat.le_of_ble_eq_true rfl, Nat.le_of_ble_eq_true rfl⟩ ⟨Nat.le_of_ble_eq_true rfl, Nat.le_of_ble_eq_true rfl⟩ [9, 10, 11] rfl (by decide) 0 6 rfl rfl (Nat.le_of_ble_eq_true rfl) dX5_arrive_121) (fun v_121 hv_121 => ?_)
              subst hv_121
              by_cases c_121 : mTouch m p (((n / 19) / 17) % 12)
              · refine ek_top (v' := nI 1) (congrArg nI (if_pos c_121)) ?_
                refine ek_Zeq X (by omega) 159 (by decide) dX5_arrive_124 (fun h => absurd h (by omega)) (fun _ => ?_)
                refine ek_aln X 0 rfl dX5_arrive_127 ?_
                refine ek_get X hin_X5_arrive_X5 0 rfl rfl 20 (by decide) (List.mem_of_getElem? (i := 1) rfl) rfl dX5_arrive_128 ?_
                refine ek_il X 7 rfl dX5_arrive_131 ?_
                refine ek_aln X 0 rfl dX5_arrive_133 ?_
                refine ek_get X hin_X5_arrive_X5 0 rfl rfl 20 (by decide) (List.mem_of_getElem? (i := 1) rfl) rfl dX5_arrive_134 ?_
                refine ek_getN X hin_X5_arrive_X6 9 rfl rfl 3 (by decide) (List.mem_of_getElem? (i := 28) rfl) rfl dX5_arrive_137 ?_
                refine ek_doRi (ek_runVN (As := [.int (nI p), .int (nI (mW m))]) (rest := []) X (c_X6_isOpen l D cI cJ cR ad m hM p (mW m) (by omega) (by omega)) gX5_arrive_X6_isOpen_n104 rfl (List.mem_of_getElem? (i := 37) rfl) (List.mem_of_getElem? (i := 38) rfl) (List.mem_of_getElem? (i := 42) rfl) (List.mem_of_getElem? (i := 43) rfl) hd_X6_isOpen ⟨Nat.le_of_ble_eq_true rfl, Nat.le_of_ble_eq_true rfl⟩ ⟨Nat.le_of_ble_eq_true rfl, Nat.le_of_ble_eq_true rfl⟩ [9, 10, 11] rfl (by decide) 0 6 rfl rfl (Nat.le_of_ble_eq_true rfl) dX5_arrive_140) (fun v_140 hv_140 => ?_)
                subst hv_140
                by_cases c_140 : mOpen m p (mW m)
                · refine ek_top (v' := nI 1) (congrArg nI (if_pos c_140)) ?_
                  refine ek_Zeq X (by omega) 159 (by decide) dX5_arrive_143 (fun h => absurd h (by omega)) (fun _ => ?_)
                  refine ek_aln X 0 rfl dX5_arrive_146 ?_
                  refine ek_il X 6 rfl dX5_arrive_147 ?_
                  refine ek_il X 5 rfl dX5_arrive_149 ?_
                  refine ek_il X 4 rfl dX5_arrive_151 ?_
                  refine ek_il X 7 rfl dX5_arrive_153 ?_
                  refine ek_iln X 2 rfl dX5_arrive_155 ?_
                  refine ek_doWv X (ek_runV (As := [.int (nI (((n / 19) / 17) / 12)), .int (nI (((n / 19) / 17) % 12)), .int (nI ((n / 19) % 17)), .int (nI p), .int (nI z)]) (rest := []) X (c_X5_go l D cI cJ cR ad f m t3 hM ha_95.2.2.1 (((n / 19) / 17) / 12) (((n / 19) / 17) % 12) ((n / 19) % 17) p z (by omega) (by omega) (by omega) (by omega) hz c_121) gX5_arrive_X5_go rfl hdV_X5_go ⟨Nat.le_of_ble_eq_true rfl, Nat.le_of_ble_eq_true rfl⟩ ⟨Nat.le_of_ble_eq_true rfl, Nat.le_of_ble_eq_true rfl⟩ [0, 1, 2, 3, 4, 5, 6, 7, 8, 9, 10, 11] rfl (by decide) 0 5 rfl rfl (Nat.le_of_ble_eq_true rfl) dX5_arrive_156) [0, 1, 2, 3, 4, 5, 6, 7, 8, 9, 10, 11] [] rfl rfl (by decide) (by decide) (fun _ => wT ad f cI (tGo m (((n / 19) / 17) / 12) (((n / 19) / 17) % 12) ((n / 19) % 17) p z t3) m) [0, 1, 2, 3, 4, 5, 6, 7, 8, 9, 10, 11] (by decide) (fun _ => rfl) (fun u_156 hv_156 => ?_)
                  refine ek_Ninc (j := 7) (d := 1) (lv' := [(7, .int (nI (p + 1))), (0, .ref (ad f)), (1, .int (nI n)), (2, .int (nI z)), (3, .int (-1)), (4, .int (nI ((n / 19) % 17))), (5, .int (nI (((n / 19) / 17) % 12))), (6, .int (nI (((n / 19) / 17) / 12)))]) X rfl (by decide) rfl dX5_arrive_159 ?_
                  refine ek_goto X 95 (by decide) dX5_arrive_162 ?_
                  refine ek_re [1, 2, 3, 4, 5, 6, 7, 0] rfl ?_
                  exact ih_95 (p + 1, (tGo m (((n / 19) / 17) / 12) (((n / 19) / 17) % 12) ((n / 19) % 17) p z t3)) (show (p + 1) ≤ mP m ∧ ((tGo m (((n / 19) / 17) / 12) (((n / 19) / 17) % 12) ((n / 19) % 17) p z t3)) = tGos m (n / 19 / 17 % 12) (n / 19 % 17) (n % 19) (n / 19 / 17 / 12) z t2 (p + 1) ∧ tOk m ((tGo m (((n / 19) / 17) / 12) (((n / 19) / 17) % 12) ((n / 19) % 17) p z t3)) ∧ tRu ((tGo m (((n / 19) / 17) / 12) (((n / 19) / 17) % 12) ((n / 19) % 17) p z t3)) = tRu t2 from (by obtain ⟨h1, h2, h3, h4⟩ := ha_95; first | (have h5 := tGo_ok hM h3 (x := (n / 19 / 17 / 12)) (c := (n / 19 / 17 % 12)) (r := (n / 19 % 17)) (p := p) (z := z) (by omega) (by omega) (by omega) hz c_121; refine ⟨by omega, ?_, h5.1, h5.2.trans h4⟩; show _ = tGosS m (n / 19 / 17 % 12) (n / 19 % 17) (n % 19) (n / 19 / 17 / 12) z p (tGos m (n / 19 / 17 % 12) (n / 19 % 17) (n % 19) (n / 19 / 17 / 12) z t2 p); rw [← h2]; exact (if_pos ⟨by omega, c_121, c_140⟩).symm) | (refine ⟨by omega, ?_, h3, h4⟩; show _ = tGosS m (n / 19 / 17 % 12) (n / 19 % 17) (n % 19) (n / 19 / 17 / 12) z p (tGos m (n / 19 / 17 % 12) (n / 19 % 17) (n % 19) (n / 19 / 17 / 12) z t2 p); rw [← h2]; exact (if_neg (fun h => by have g1 := h.1; have g2 := h.2.1; have g3 := h.2.2; first | omega | contradiction)).symm))) (by show mP m - (p + 1) < mP m - p; omega)
                · refine ek_top (v' := nI 0) (congrArg nI (if_neg c_140)) ?_
                  refine ek_Zeq X (by omega) 159 (by decide) dX5_arrive_143 (fun _ => ?_) (fun h => absurd h (by omega))
                  refine ek_Ninc (j := 7) (d := 1) (lv' := [(7, .int (nI (p + 1))), (0, .ref (ad f)), (1, .int (nI n)), (2, .int (nI z)), (3, .int (-1)), (4, .int (nI ((n / 19) % 17))), (5, .int (nI (((n / 19) / 17) % 12))), (6, .int (nI (((n / 19) / 17) / 12)))]) X rfl (by decide) rfl dX5_arrive_159 ?_
                  refine ek_goto X 95 (by decide) dX5_arrive_162 ?_
                  refine ek_re [1, 2, 3, 4, 5, 6, 7, 0] rfl ?_
                  exact ih_95 (p + 1, t3) (show (p + 1) ≤ mP m ∧ t3 = tGos m (n / 19 / 17 % 12) (n / 19 % 17) (n % 19) (n / 19 / 17 / 12) z t2 (p + 1) ∧ tOk m t3 ∧ tRu t3 = tRu t2 from (by obtain ⟨h1, h2, h3, h4⟩ := ha_95; first | (have h5 := tGo_ok hM h3 (x := (n / 19 / 17 / 12)) (c := (n / 19 / 17 % 12)) (r := (n / 19 % 17)) (p := p) (z := z) (by omega) (by omega) (by omega) hz c_121; refine ⟨by omega, ?_, h5.1, h5.2.trans h4⟩; show _ = tGosS m (n / 19 / 17 % 12) (n / 19 % 17) (n % 19) (n / 19 / 17 / 12) z p (tGos m (n / 19 / 17 % 12) (n / 19 % 17) (n % 19) (n / 19 / 17 / 12) z t2 p); rw [← h2]; exact (if_pos ⟨by omega, c_121, c_140⟩).symm) | (refine ⟨by omega, ?_, h3, h4⟩; show _ = tGosS m (n / 19 / 17 % 12) (n / 19 % 17) (n % 19) (n / 19 / 17 / 12) z p (tGos m (n / 19 / 17 % 12) (n / 19 % 17) (n % 19) (n / 19 / 17 / 12) z t2 p); rw [← h2]; exact (if_neg (fun h => by have g1 := h.1; have g2 := h.2.1; have g3 := h.2.2; first | omega | contradiction)).symm))) (by show mP m - (p + 1) < mP m - p; omega)
              · refine ek_top (v' := nI 0) (congrArg nI (if_neg c_121)) ?_
                refine ek_Zeq X (by omega) 159 (by decide) dX5_arrive_124 (fun _ => ?_) (fun h => absurd h (by omega))
                refine ek_Ninc (j := 7) (d := 1) (lv' := [(7, .int (nI (p + 1))), (0, .ref (ad f)), (1, .int (nI n)), (2, .int (nI z)), (3, .int (-1)), (4, .int (nI ((n / 19) % 17))), (5, .int (nI (((n / 19) / 17) % 12))), (6, .int (nI (((n / 19) / 17) / 12)))]) X rfl (by decide) rfl dX5_arrive_159 ?_
                refine ek_goto X 95 (by decide) dX5_arrive_162 ?_
                refine ek_re [1, 2, 3, 4, 5, 6, 7, 0] rfl ?_
                exact ih_95 (p + 1, t3) (show (p + 1) ≤ mP m ∧ t3 = tGos m (n / 19 / 17 % 12) (n / 19 % 17) (n % 19) (n / 19 / 17 / 12) z t2 (p + 1) ∧ tOk m t3 ∧ tRu t3 = tRu t2 from (by obtain ⟨h1, h2, h3, h4⟩ := ha_95; first | (have h5 := tGo_ok hM h3 (x := (n / 19 / 17 / 12)) (c := (n / 19 / 17 % 12)) (r := (n / 19 % 17)) (p := p) (z := z) (by omega) (by omega) (by omega) hz c_121; refine ⟨by omega, ?_, h5.1, h5.2.trans h4⟩; show _ = tGosS m (n / 19 / 17 % 12) (n / 19 % 17) (n % 19) (n / 19 / 17 / 12) z p (tGos m (n / 19 / 17 % 12) (n / 19 % 17) (n % 19) (n / 19 / 17 / 12) z t2 p); rw [← h2]; exact (if_pos ⟨by omega, c_121, c_140⟩).symm) | (refine ⟨by omega, ?_, h3, h4⟩; show _ = tGosS m (n / 19 / 17 % 12) (n / 19 % 17) (n % 19) (n / 19 / 17 / 12) z p (tGos m (n / 19 / 17 % 12) (n / 19 % 17) (n % 19) (n / 19 / 17 / 12) z t2 p); rw [← h2]; exact (if_neg (fun h => by have g1 := h.1; have g2 := h.2.1; have g3 := h.2.2; first | omega | contradiction)).symm))) (by show mP m - (p + 1) < mP m - p; omega)
        · skip
          exact ek_retv X () ⟨rfl, trivial⟩ (congrArg (fun a => wT ad f cI a m) (show t1 = tArr m n z t by unfold tArr; rw [if_pos (by omega), hm1])) dX5_arrive_81
      · exact absurd rfl c_47
  · refine ek_top (v' := nI (n % 19 - 1)) (pk_sub hb) ?_
    refine ek_isn (lv' := [(3, .int (nI (n % 19 - 1))), (0, .ref (ad f)), (1, .int (nI n)), (2, .int (nI z))]) X (by decide) rfl dX5_arrive_6 ?_
    refine ek_iln X 2 rfl dX5_arrive_7 ?_
    refine ek_bp (v := nI 19) X (by decide) dX5_arrive_8 ?_
    refine ek_Ndiv X (by omega) (by omega) (by omega) dX5_arrive_10 ?_
    refine ek_bp (v := nI 17) X (by decide) dX5_arrive_11 ?_
    refine ek_Nrem X (by omega) (by omega) (by omega) dX5_arrive_13 ?_
    refine ek_is (lv' := [(4, .int (nI ((n / 19) % 17))), (3, .int (nI (n % 19 - 1))), (0, .ref (ad f)), (1, .int (nI n)), (2, .int (nI z))]) X (by decide) rfl dX5_arrive_14 ?_
    refine ek_iln X 3 rfl dX5_arrive_16 ?_
    refine ek_bp (v := nI 19) X (by decide) dX5_arrive_17 ?_
    refine ek_Ndiv X (by omega) (by omega) (by omega) dX5_arrive_19 ?_
    refine ek_bp (v := nI 17) X (by decide) dX5_arrive_20 ?_
    refine ek_Ndiv X (by omega) (by omega) (by omega) dX5_arrive_22 ?_
    refine ek_bp (v := nI 12) X (by decide) dX5_arrive_23 ?_
    refine ek_Nrem X (by omega) (by omega) (by omega) dX5_arrive_25 ?_
    refine ek_is (lv' := [(5, .int (nI (((n / 19) / 17) % 12))), (4, .int (nI ((n / 19) % 17))), (3, .int (nI (n % 19 - 1))), (0, .ref (ad f)), (1, .int (nI n)), (2, .int (nI z))]) X (by decide) rfl dX5_arrive_26 ?_
    refine ek_iln X 4 rfl dX5_arrive_28 ?_
    refine ek_bp (v := nI 19) X (by decide) dX5_arrive_29 ?_
    refine ek_Ndiv X (by omega) (by omega) (by omega) dX5_arrive_31 ?_
    refine ek_bp (v := nI 17) X (by decide) dX5_arrive_32 ?_
    refine ek_Ndiv X (by omega) (by omega) (by omega) dX5_arrive_34 ?_
    refine ek_bp (v := nI 12) X (by decide) dX5_arrive_35 ?_
    refine ek_Ndiv X (by omega) (by omega) (by omega) dX5_arrive_37 ?_
    refine ek_is (lv' := [(6, .int (nI (((n / 19) / 17) / 12))), (5, .int (nI (((n / 19) / 17) % 12))), (4, .int (nI ((n / 19) % 17))), (3, .int (nI (n % 19 - 1))), (0, .ref (ad f)), (1, .int (nI n)), (2, .int (nI z))]) X (by decide) rfl dX5_arrive_38 ?_
    refine ek_il X 1 rfl dX5_arrive_40 ?_
    refine ek_Zne X (by omega) 59 (by decide) dX5_arrive_42 (fun c_42 => ?_) (fun c_42 => ?_)
    · skip
      obtain ⟨t1, ht1⟩ : ∃ a : MsnT, a = t := ⟨_, rfl⟩
      have hm1 : t1 = tMay m n z t := by rw [ht1]; unfold tMay; first | rw [if_pos (by omega)] | rw [if_neg (by omega)]
      have hT1 := tMay_ok hT n z
      rw [← hm1] at hT1
      refine ek_cast (w' := wT ad f cI t1 m) (by rw [ht1]) ?_
      refine ek_iln X 6 rfl dX5_arrive_59 ?_
      refine ek_ic (v := nI 2) X (by decide) dX5_arrive_60 ?_
      refine ek_aln X 4 rfl dX5_arrive_61 ?_
      refine ek_get X hin_X5_arrive_X5 0 rfl rfl 20 (by decide) (List.mem_of_getElem? (i := 1) rfl) rfl dX5_arrive_62 ?_
      refine ek_getN X hin_X5_arrive_X6 9 rfl rfl 6 (by decide) (List.mem_of_getElem? (i := 30) rfl) rfl dX5_arrive_65 ?_
      refine ek_ic (v := nI 5) X (by decide) dX5_arrive_68 ?_
      refine ek_il X 1 rfl dX5_arrive_69 ?_
      refine ek_Nmul X dX5_arrive_71 ?_
      refine ek_ic (v := nI 2) X (by decide) dX5_arrive_72 ?_
      refine ek_Nadd X dX5_arrive_73 ?_
      refine ek_ald X 10 0 rfl rfl (by omega) (by omega) dX5_arrive_74 ?_
      have b3_74 := mRs ((5 * (((n / 19) / 17) % 12)) + 2)
      refine ek_Nmul X dX5_arrive_75 ?_
      refine ek_ic (v := nI 1) X (by decide) dX5_arrive_76 ?_
      refine ek_Nadd X dX5_arrive_77 ?_
      refine ek_Nge X (by omega) (by omega) 82 (by decide) dX5_arrive_78 (fun c_78 => ?_) (fun c_78 => ?_)
      · skip
        refine ek_aln X 4 rfl dX5_arrive_82 ?_
        refine ek_il X 0 rfl dX5_arrive_83 ?_
        refine ek_il X 1 rfl dX5_arrive_85 ?_
        refine ek_il X 2 rfl dX5_arrive_87 ?_
        refine ek_doWv X (ek_runV (As := [.int (nI (((n / 19) / 17) / 12)), .int (nI (((n / 19) / 17) % 12)), .int (nI ((n / 19) % 17))]) (rest := []) X (c_X5_clap l D cI cJ cR ad f m t1 hM hT1.1 (((n / 19) / 17) / 12) (((n / 19) / 17) % 12) ((n / 19) % 17) (by omega) (by omega) (by omega)) gX5_arrive_X5_clap rfl hdV_X5_clap ⟨Nat.le_of_ble_eq_true rfl, Nat.le_of_ble_eq_true rfl⟩ ⟨Nat.le_of_ble_eq_true rfl, Nat.le_of_ble_eq_true rfl⟩ [0, 1, 2, 3, 4, 5, 6, 7, 8, 9, 10, 11] rfl (by decide) 0 5 rfl rfl (Nat.le_of_ble_eq_true rfl) dX5_arrive_89) [0, 1, 2, 3, 4, 5, 6, 7, 8, 9, 10, 11] [] rfl rfl (by decide) (by decide) (fun _ => wT ad f cI (tClap m (((n / 19) / 17) / 12) (((n / 19) / 17) % 12) ((n / 19) % 17) t1) m) [0, 1, 2, 3, 4, 5, 6, 7, 8, 9, 10, 11] (by decide) (fun _ => rfl) (fun u_89 hv_89 => ?_)
        obtain ⟨t2, ht2⟩ : ∃ a : MsnT, a = (tClap m (((n / 19) / 17) / 12) (((n / 19) / 17) % 12) ((n / 19) % 17) t1) := ⟨_, rfl⟩
        have hT2 := tClap_ok hT1.1 (x := (n / 19 / 17 / 12)) (c := (n / 19 / 17 % 12)) (r := (n / 19 % 17)) (by omega) (by omega)
        rw [← ht2] at hT2
        refine ek_cast (w' := wT ad f cI t2 m) (by rw [ht2]) ?_
        refine ek_ic (v := nI 0) X (by decide) dX5_arrive_92 ?_
        refine ek_is (lv' := [(7, .int (nI 0)), (6, .int (nI (((n / 19) / 17) / 12))), (5, .int (nI (((n / 19) / 17) % 12))), (4, .int (nI ((n / 19) % 17))), (3, .int (nI (n % 19 - 1))), (0, .ref (ad f)), (1, .int (nI n)), (2, .int (nI z))]) X (by decide) rfl dX5_arrive_93 ?_
        refine ek_loopAt (σ := Nat × MsnT) (fun zz => (fun (p : Nat) (t3 : MsnT) => p ≤ mP m ∧ t3 = tGos m (n / 19 / 17 % 12) (n / 19 % 17) (n % 19) (n / 19 / 17 / 12) z t2 p ∧ tOk m t3 ∧ tRu t3 = tRu t2) zz.1 zz.2) (fun zz => (fun (p : Nat) (t3 : MsnT) => mP m - p) zz.1 zz.2) (fun zz => (fun (p : Nat) (t3 : MsnT) => wT ad f cI t3 m) zz.1 zz.2) (fun zz => (fun (p : Nat) (t3 : MsnT) => [(0, .ref (ad f)), (1, .int (nI n)), (2, .int (nI z)), (3, .int (nI (n % 19 - 1))), (4, .int (nI ((n / 19) % 17))), (5, .int (nI (((n / 19) / 17) % 12))), (6, .int (nI (((n / 19) / 17) / 12))), (7, .int (nI p))]) zz.1 zz.2) ?_ (0, t2) ⟨Nat.zero_le _, rfl, hT2.1, rfl⟩ rfl [5, 6, 7, 4, 3, 2, 1, 0] rfl
        intro zz ha_95 ih_95
        obtain ⟨p, t3⟩ := zz
        replace ha_95 : p ≤ mP m ∧ t3 = tGos m (n / 19 / 17 % 12) (n / 19 % 17) (n % 19) (n / 19 / 17 / 12) z t2 p ∧ tOk m t3 ∧ tRu t3 = tRu t2 := ha_95
        refine ek_cast (w' := wT ad f cI t3 m) rfl ?_
        refine ek_castL (lv' := [(0, .ref (ad f)), (1, .int (nI n)), (2, .int (nI z)), (3, .int (nI (n % 19 - 1))), (4, .int (nI ((n / 19) % 17))), (5, .int (nI (((n / 19) / 17) % 12))), (6, .int (nI (((n / 19) / 17) / 12))), (7, .int (nI p))]) rfl ?_
        have hru3 := ha_95.2.2.2
        have hru2 := hT2.2
        have hru1 := hT1.2
        refine ek_il X 7 rfl dX5_arrive_95 ?_
        refine ek_aln X 0 rfl dX5_arrive_97 ?_
        refine ek_get X hin_X5_arrive_X5 0 rfl rfl 20 (by decide) (List.mem_of_getElem? (i := 1) rfl) rfl dX5_arrive_98 ?_
        refine ek_getN X hin_X5_arrive_X6 9 rfl rfl 2 (by decide) (List.mem_of_getElem? (i := 27) rfl) rfl dX5_arrive_101 ?_
        refine ek_Nge X (by omega) (by omega) 165 (by decide) dX5_arrive_104 (fun c_104 => ?_) (fun c_104 => ?_)
        · skip
          refine ek_iln X 3 rfl dX5_arrive_165 ?_
          refine ek_ic (v := -1) X (by decide) dX5_arrive_166 ?_
          refine ek_icmp_eq X 203 (by decide) dX5_arrive_167 (fun c_167 => ?_) (fun c_167 => ?_)
          · exact absurd c_167 (nI_ne1 (by omega))
          · skip
            refine ek_il X 5 rfl dX5_arrive_170 ?_
            refine ek_Zeq X (by omega) 203 (by decide) dX5_arrive_172 (fun c_172 => ?_) (fun c_172 => ?_)
            · skip
              exact ek_retv X () ⟨rfl, trivial⟩ (congrArg (fun a => wT ad f cI a m) (show _ = tArr m n z t by obtain ⟨h1, h2, h3, h4⟩ := ha_95; have e : p = mP m := (by omega); unfold tArr; rw [if_neg (by omega), ← hm1, ← ht2, ← e, ← h2]; unfold tRest; first | (exfalso; omega) | rw [if_pos (by omega)] | rw [if_neg (by omega)])) dX5_arrive_203
            · skip
              refine ek_aln X 0 rfl dX5_arrive_175 ?_
              refine ek_il X 6 rfl dX5_arrive_176 ?_
              refine ek_il X 5 rfl dX5_arrive_178 ?_
              refine ek_il X 4 rfl dX5_arrive_180 ?_
              refine ek_iln X 3 rfl dX5_arrive_182 ?_
              refine ek_iln X 2 rfl dX5_arrive_183 ?_
              refine ek_aln X 0 rfl dX5_arrive_184 ?_
              refine ek_get X hin_X5_arrive_X5 0 rfl rfl 20 (by decide) (List.mem_of_getElem? (i := 1) rfl) rfl dX5_arrive_185 ?_
              refine ek_getN X hin_X5_arrive_X6 9 rfl rfl 6 (by decide) (List.mem_of_getElem? (i := 30) rfl) rfl dX5_arrive_188 ?_
              refine ek_ic (v := nI 5) X (by decide) dX5_arrive_191 ?_
              refine ek_il X 5 rfl dX5_arrive_192 ?_
              refine ek_Nmul X dX5_arrive_194 ?_
              refine ek_ald X 10 0 rfl rfl (by omega) (by omega) dX5_arrive_195 ?_
              have b4_195 := mRs (5 * (((n / 19) / 17) % 12))
              refine ek_Nmul X dX5_arrive_196 ?_
              refine ek_bp (v := nI 100) X (by decide) dX5_arrive_197 ?_
              refine ek_Ndiv X (by omega) (by omega) (by omega) dX5_arrive_199 ?_
              refine ek_doWv X (ek_runV (As := [.int (nI (((n / 19) / 17) / 12)), .int (nI (((n / 19) / 17) % 12)), .int (nI ((n / 19) % 17)), .int (nI (n % 19 - 1)), .int (nI ((z * ((mRo m) (5 * (((n / 19) / 17) % 12)))) / 100))]) (rest := []) X (c_X5_go l D cI cJ cR ad f m t3 hM ha_95.2.2.1 (((n / 19) / 17) / 12) (((n / 19) / 17) % 12) ((n / 19) % 17) (n % 19 - 1) ((z * ((mRo m) (5 * (((n / 19) / 17) % 12)))) / 100) (by omega) (by omega) (by omega) (by omega) (by omega) (by omega)) gX5_arrive_X5_go rfl hdV_X5_go ⟨Nat.le_of_ble_eq_true rfl, Nat.le_of_ble_eq_true rfl⟩ ⟨Nat.le_of_ble_eq_true rfl, Nat.le_of_ble_eq_true rfl⟩ [0, 1, 2, 3, 4, 5, 6, 7, 8, 9, 10, 11] rfl (by decide) 0 5 rfl rfl (Nat.le_of_ble_eq_true rfl) dX5_arrive_200) [0, 1, 2, 3, 4, 5, 6, 7, 8, 9, 10, 11] [] rfl rfl (by decide) (by decide) (fun _ => wT ad f cI (tGo m (((n / 19) / 17) / 12) (((n / 19) / 17) % 12) ((n / 19) % 17) (n % 19 - 1) ((z * ((mRo m) (5 * (((n / 19) / 17) % 12)))) / 100) t3) m) [0, 1, 2, 3, 4, 5, 6, 7, 8, 9, 10, 11] (by decide) (fun _ => rfl) (fun u_200 hv_200 => ?_)
              exact ek_retv X () ⟨rfl, trivial⟩ (congrArg (fun a => wT ad f cI a m) (show _ = tArr m n z t by obtain ⟨h1, h2, h3, h4⟩ := ha_95; have e : p = mP m := (by omega); unfold tArr; rw [if_neg (by omega), ← hm1, ← ht2, ← e, ← h2]; unfold tRest; first | (exfalso; omega) | rw [if_pos (by omega)] | rw [if_neg (by omega)])) dX5_arrive_203
        · skip
          refine ek_il X 7 rfl dX5_arrive_107 ?_
          refine ek_iln X 3 rfl dX5_arrive_109 ?_
          refine ek_Neq X (by omega) (by omega) 159 (by decide) dX5_arrive_110 (fun c_110 => ?_) (fun c_110 => ?_)
          · skip
            refine ek_Ninc (j := 7) (d := 1) (lv' := [(7, .int (nI (p + 1))), (0, .ref (ad f)), (1, .int (nI n)), (2, .int (nI z)), (3, .int (nI (n % 19 - 1))), (4, .int (nI ((n / 19) % 17))), (5, .int (nI (((n / 19) / 17) % 12))), (6, .int (nI (((n / 19) / 17) / 12)))]) X rfl (by decide) rfl dX5_arrive_159 ?_
            refine ek_goto X 95 (by decide) dX5_arrive_162 ?_
            refine ek_re [1, 2, 3, 4, 5, 6, 7, 0] rfl ?_
            exact ih_95 (p + 1, t3) (show (p + 1) ≤ mP m ∧ t3 = tGos m (n / 19 / 17 % 12) (n / 19 % 17) (n % 19) (n / 19 / 17 / 12) z t2 (p + 1) ∧ tOk m t3 ∧ tRu t3 = tRu t2 from (by obtain ⟨h1, h2, h3, h4⟩ := ha_95; first | (have h5 := tGo_ok hM h3 (x := (n / 19 / 17 / 12)) (c := (n / 19 / 17 % 12)) (r := (n / 19 % 17)) (p := p) (z := z) (by omega) (by omega) (by omega) hz c_121; refine ⟨by omega, ?_, h5.1, h5.2.trans h4⟩; show _ = tGosS m (n / 19 / 17 % 12) (n / 19 % 17) (n % 19) (n / 19 / 17 / 12) z p (tGos m (n / 19 / 17 % 12) (n / 19 % 17) (n % 19) (n / 19 / 17 / 12) z t2 p); rw [← h2]; exact (if_pos ⟨by omega, c_121, c_140⟩).symm) | (refine ⟨by omega, ?_, h3, h4⟩; show _ = tGosS m (n / 19 / 17 % 12) (n / 19 % 17) (n % 19) (n / 19 / 17 / 12) z p (tGos m (n / 19 / 17 % 12) (n / 19 % 17) (n % 19) (n / 19 / 17 / 12) z t2 p); rw [← h2]; exact (if_neg (fun h => by have g1 := h.1; have g2 := h.2.1; have g3 := h.2.2; first | omega | contradiction)).symm))) (by show mP m - (p + 1) < mP m - p; omega)
          · skip
            refine ek_aln X 0 rfl dX5_arrive_113 ?_
            refine ek_get X hin_X5_arrive_X5 0 rfl rfl 20 (by decide) (List.mem_of_getElem? (i := 1) rfl) rfl dX5_arrive_114 ?_
            refine ek_il X 7 rfl dX5_arrive_117 ?_
            refine ek_il X 5 rfl dX5_arrive_119 ?_
            refine ek_doRi (ek_runVN (As := [.int (nI p), .int (nI (((n / 19) / 17) % 12))]) (rest := []) X (c_X6_touches l D cI cJ cR ad m hM p (((n / 19) / 17) % 12) (by omega) (by omega)) gX5_arrive_X6_touches_n97 rfl (List.mem_of_getElem? (i := 36) rfl) (List.mem_of_getElem? (i := 38) rfl) (List.mem_of_getElem? (i := 37) rfl) (List.mem_of_getElem? (i := 39) rfl) hd_X6_touches ⟨Nat.le_of_ble_eq_true rfl, Nat.le_of_ble_eq_true rfl⟩ ⟨Nat.le_of_ble_eq_true rfl, Nat.le_of_ble_eq_true rfl⟩ [9, 10, 11] rfl (by decide) 0 6 rfl rfl (Nat.le_of_ble_eq_true rfl) dX5_arrive_121) (fun v_121 hv_121 => ?_)
            subst hv_121
            by_cases c_121 : mTouch m p (((n / 19) / 17) % 12)
            · refine ek_top (v' := nI 1) (congrArg nI (if_pos c_121)) ?_
              refine ek_Zeq X (by omega) 159 (by decide) dX5_arrive_124 (fun h => absurd h (by omega)) (fun _ => ?_)
              refine ek_aln X 0 rfl dX5_arrive_127 ?_
              refine ek_get X hin_X5_arrive_X5 0 rfl rfl 20 (by decide) (List.mem_of_getElem? (i := 1) rfl) rfl dX5_arrive_128 ?_
              refine ek_il X 7 rfl dX5_arrive_131 ?_
              refine ek_aln X 0 rfl dX5_arrive_133 ?_
              refine ek_get X hin_X5_arrive_X5 0 rfl rfl 20 (by decide) (List.mem_of_getElem? (i := 1) rfl) rfl dX5_arrive_134 ?_
              refine ek_getN X hin_X5_arrive_X6 9 rfl rfl 3 (by decide) (List.mem_of_getElem? (i := 28) rfl) rfl dX5_arrive_137 ?_
              refine ek_doRi (ek_runVN (As := [.int (nI p), .int (nI (mW m))]) (rest := []) X (c_X6_isOpen l D cI cJ cR ad m hM p (mW m) (by omega) (by omega)) gX5_arrive_X6_isOpen_n104 rfl (List.mem_of_getElem? (i := 37) rfl) (List.mem_of_getElem? (i := 38) rfl) (List.mem_of_getElem? (i := 42) rfl) (List.mem_of_getElem? (i := 43) rfl) hd_X6_isOpen ⟨Nat.le_of_ble_eq_true rfl, Nat.le_of_ble_eq_true rfl⟩ ⟨Nat.le_of_ble_eq_true rfl, Nat.le_of_ble_eq_true rfl⟩ [9, 10, 11] rfl (by decide) 0 6 rfl rfl (Nat.le_of_ble_eq_true rfl) dX5_arrive_140) (fun v_140 hv_140 => ?_)
              subst hv_140
              by_cases c_140 : mOpen m p (mW m)
              · refine ek_top (v' := nI 1) (congrArg nI (if_pos c_140)) ?_
                refine ek_Zeq X (by omega) 159 (by decide) dX5_arrive_143 (fun h => absurd h (by omega)) (fun _ => ?_)
                refine ek_aln X 0 rfl dX5_arrive_146 ?_
                refine ek_il X 6 rfl dX5_arrive_147 ?_
                refine ek_il X 5 rfl dX5_arrive_149 ?_
                refine ek_il X 4 rfl dX5_arrive_151 ?_
                refine ek_il X 7 rfl dX5_arrive_153 ?_
                refine ek_iln X 2 rfl dX5_arrive_155 ?_
                refine ek_doWv X (ek_runV (As := [.int (nI (((n / 19) / 17) / 12)), .int (nI (((n / 19) / 17) % 12)), .int (nI ((n / 19) % 17)), .int (nI p), .int (nI z)]) (rest := []) X (c_X5_go l D cI cJ cR ad f m t3 hM ha_95.2.2.1 (((n / 19) / 17) / 12) (((n / 19) / 17) % 12) ((n / 19) % 17) p z (by omega) (by omega) (by omega) (by omega) hz c_121) gX5_arrive_X5_go rfl hdV_X5_go ⟨Nat.le_of_ble_eq_true rfl, Nat.le_of_ble_eq_true rfl⟩ ⟨Nat.le_of_ble_eq_true rfl, Nat.le_of_ble_eq_true rfl⟩ [0, 1, 2, 3, 4, 5, 6, 7, 8, 9, 10, 11] rfl (by decide) 0 5 rfl rfl (Nat.le_of_ble_eq_true rfl) dX5_arrive_156) [0, 1, 2, 3, 4, 5, 6, 7, 8, 9, 10, 11] [] rfl rfl (by decide) (by decide) (fun _ => wT ad f cI (tGo m (((n / 19) / 17) / 12) (((n / 19) / 17) % 12) ((n / 19) % 17) p z t3) m) [0, 1, 2, 3, 4, 5, 6, 7, 8, 9, 10, 11] (by decide) (fun _ => rfl) (fun u_156 hv_156 => ?_)
                refine ek_Ninc (j := 7) (d := 1) (lv' := [(7, .int (nI (p + 1))), (0, .ref (ad f)), (1, .int (nI n)), (2, .int (nI z)), (3, .int (nI (n % 19 - 1))), (4, .int (nI ((n / 19) % 17))), (5, .int (nI (((n / 19) / 17) % 12))), (6, .int (nI (((n / 19) / 17) / 12)))]) X rfl (by decide) rfl dX5_arrive_159 ?_
                refine ek_goto X 95 (by decide) dX5_arrive_162 ?_
                refine ek_re [1, 2, 3, 4, 5, 6, 7, 0] rfl ?_
                exact ih_95 (p + 1, (tGo m (((n / 19) / 17) / 12) (((n / 19) / 17) % 12) ((n / 19) % 17) p z t3)) (show (p + 1) ≤ mP m ∧ ((tGo m (((n / 19) / 17) / 12) (((n / 19) / 17) % 12) ((n / 19) % 17) p z t3)) = tGos m (n / 19 / 17 % 12) (n / 19 % 17) (n % 19) (n / 19 / 17 / 12) z t2 (p + 1) ∧ tOk m ((tGo m (((n / 19) / 17) / 12) (((n / 19) / 17) % 12) ((n / 19) % 17) p z t3)) ∧ tRu ((tGo m (((n / 19) / 17) / 12) (((n / 19) / 17) % 12) ((n / 19) % 17) p z t3)) = tRu t2 from (by obtain ⟨h1, h2, h3, h4⟩ := ha_95; first | (have h5 := tGo_ok hM h3 (x := (n / 19 / 17 / 12)) (c := (n / 19 / 17 % 12)) (r := (n / 19 % 17)) (p := p) (z := z) (by omega) (by omega) (by omega) hz c_121; refine ⟨by omega, ?_, h5.1, h5.2.trans h4⟩; show _ = tGosS m (n / 19 / 17 % 12) (n / 19 % 17) (n % 19) (n / 19 / 17 / 12) z p (tGos m (n / 19 / 17 % 12) (n / 19 % 17) (n % 19) (n / 19 / 17 / 12) z t2 p); rw [← h2]; exact (if_pos ⟨by omega, c_121, c_140⟩).symm) | (refine ⟨by omega, ?_, h3, h4⟩; show _ = tGosS m (n / 19 / 17 % 12) (n / 19 % 17) (n % 19) (n / 19 / 17 / 12) z p (tGos m (n / 19 / 17 % 12) (n / 19 % 17) (n % 19) (n / 19 / 17 / 12) z t2 p); rw [← h2]; exact (if_neg (fun h => by have g1 := h.1; have g2 := h.2.1; have g3 := h.2.2; first | omega | contradiction)).symm))) (by show mP m - (p + 1) < mP m - p; omega)
              · refine ek_top (v' := nI 0) (congrArg nI (if_neg c_140)) ?_
                refine ek_Zeq X (by omega) 159 (by decide) dX5_arrive_143 (fun _ => ?_) (fun h => absurd h (by omega))
                refine ek_Ninc (j := 7) (d := 1) (lv' := [(7, .int (nI (p + 1))), (0, .ref (ad f)), (1, .int (nI n)), (2, .int (nI z)), (3, .int (nI (n % 19 - 1))), (4, .int (nI ((n / 19) % 17))), (5, .int (nI (((n / 19) / 17) % 12))), (6, .int (nI (((n / 19) / 17) / 12)))]) X rfl (by decide) rfl dX5_arrive_159 ?_
                refine ek_goto X 95 (by decide) dX5_arrive_162 ?_
                refine ek_re [1, 2, 3, 4, 5, 6, 7, 0] rfl ?_
                exact ih_95 (p + 1, t3) (show (p + 1) ≤ mP m ∧ t3 = tGos m (n / 19 / 17 % 12) (n / 19 % 17) (n % 19) (n / 19 / 17 / 12) z t2 (p + 1) ∧ tOk m t3 ∧ tRu t3 = tRu t2 from (by obtain ⟨h1, h2, h3, h4⟩ := ha_95; first | (have h5 := tGo_ok hM h3 (x := (n / 19 / 17 / 12)) (c := (n / 19 / 17 % 12)) (r := (n / 19 % 17)) (p := p) (z := z) (by omega) (by omega) (by omega) hz c_121; refine ⟨by omega, ?_, h5.1, h5.2.trans h4⟩; show _ = tGosS m (n / 19 / 17 % 12) (n / 19 % 17) (n % 19) (n / 19 / 17 / 12) z p (tGos m (n / 19 / 17 % 12) (n / 19 % 17) (n % 19) (n / 19 / 17 / 12) z t2 p); rw [← h2]; exact (if_pos ⟨by omega, c_121, c_140⟩).symm) | (refine ⟨by omega, ?_, h3, h4⟩; show _ = tGosS m (n / 19 / 17 % 12) (n / 19 % 17) (n % 19) (n / 19 / 17 / 12) z p (tGos m (n / 19 / 17 % 12) (n / 19 % 17) (n % 19) (n / 19 / 17 / 12) z t2 p); rw [← h2]; exact (if_neg (fun h => by have g1 := h.1; have g2 := h.2.1; have g3 := h.2.2; first | omega | contradiction)).symm))) (by show mP m - (p + 1) < mP m - p; omega)
            · refine ek_top (v' := nI 0) (congrArg nI (if_neg c_121)) ?_
              refine ek_Zeq X (by omega) 159 (by decide) dX5_arrive_124 (fun _ => ?_) (fun h => absurd h (by omega))
              refine ek_Ninc (j := 7) (d := 1) (lv' := [(7, .int (nI (p + 1))), (0, .ref (ad f)), (1, .int (nI n)), (2, .int (nI z)), (3, .int (nI (n % 19 - 1))), (4, .int (nI ((n / 19) % 17))), (5, .int (nI (((n / 19) / 17) % 12))), (6, .int (nI (((n / 19) / 17) / 12)))]) X rfl (by decide) rfl dX5_arrive_159 ?_
              refine ek_goto X 95 (by decide) dX5_arrive_162 ?_
              refine ek_re [1, 2, 3, 4, 5, 6, 7, 0] rfl ?_
              exact ih_95 (p + 1, t3) (show (p + 1) ≤ mP m ∧ t3 = tGos m (n / 19 / 17 % 12) (n / 19 % 17) (n % 19) (n / 19 / 17 / 12) z t2 (p + 1) ∧ tOk m t3 ∧ tRu t3 = tRu t2 from (by obtain ⟨h1, h2, h3, h4⟩ := ha_95; first | (have h5 := tGo_ok hM h3 (x := (n / 19 / 17 / 12)) (c := (n / 19 / 17 % 12)) (r := (n / 19 % 17)) (p := p) (z := z) (by omega) (by omega) (by omega) hz c_121; refine ⟨by omega, ?_, h5.1, h5.2.trans h4⟩; show _ = tGosS m (n / 19 / 17 % 12) (n / 19 % 17) (n % 19) (n / 19 / 17 / 12) z p (tGos m (n / 19 / 17 % 12) (n / 19 % 17) (n % 19) (n / 19 / 17 / 12) z t2 p); rw [← h2]; exact (if_pos ⟨by omega, c_121, c_140⟩).symm) | (refine ⟨by omega, ?_, h3, h4⟩; show _ = tGosS m (n / 19 / 17 % 12) (n / 19 % 17) (n % 19) (n / 19 / 17 / 12) z p (tGos m (n / 19 / 17 % 12) (n / 19 % 17) (n % 19) (n / 19 / 17 / 12) z t2 p); rw [← h2]; exact (if_neg (fun h => by have g1 := h.1; have g2 := h.2.1; have g3 := h.2.2; first | omega | contradiction)).symm))) (by show mP m - (p + 1) < mP m - p; omega)
      · skip
        exact ek_retv X () ⟨rfl, trivial⟩ (congrArg (fun a => wT ad f cI a m) (show t1 = tArr m n z t by unfold tArr; rw [if_pos (by omega), hm1])) dX5_arrive_81
    · skip
      refine ek_iln X 3 rfl dX5_arrive_45 ?_
      refine ek_ic (v := -1) X (by decide) dX5_arrive_46 ?_
      refine ek_icmp_eq X 59 (by decide) dX5_arrive_47 (fun c_47 => ?_) (fun c_47 => ?_)
      · exact absurd c_47 (nI_ne1 (by omega))
      · skip
        refine ek_aln X 4 rfl dX5_arrive_50 ?_
        refine ek_il X 0 rfl dX5_arrive_51 ?_
        refine ek_il X 2 rfl dX5_arrive_53 ?_
        refine ek_iln X 6 rfl dX5_arrive_55 ?_
        refine ek_doWv X (ek_runV (As := [.int (nI (((n / 19) / 17) / 12)), .int (nI ((n / 19) % 17)), .int (nI z)]) (rest := []) X (c_X5_hear l D cI cJ cR ad f m t hM hT (((n / 19) / 17) / 12) ((n / 19) % 17) z (by omega) hz) gX5_arrive_X5_hear rfl hdV_X5_hear ⟨Nat.le_of_ble_eq_true rfl, Nat.le_of_ble_eq_true rfl⟩ ⟨Nat.le_of_ble_eq_true rfl, Nat.le_of_ble_eq_true rfl⟩ [0, 1, 2, 3, 4, 5, 6, 7, 8, 9, 10, 11] rfl (by decide) 0 5 rfl rfl (Nat.le_of_ble_eq_true rfl) dX5_arrive_56) [0, 1, 2, 3, 4, 5, 6, 7, 8, 9, 10, 11] [] rfl rfl (by decide) (by decide) (fun _ => wT ad f cI (tHear m (((n / 19) / 17) / 12) ((n / 19) % 17) z t) m) [0, 1, 2, 3, 4, 5, 6, 7, 8, 9, 10, 11] (by decide) (fun _ => rfl) (fun u_56 hv_56 => ?_)
        obtain ⟨t1, ht1⟩ : ∃ a : MsnT, a = (tHear m (((n / 19) / 17) / 12) ((n / 19) % 17) z t) := ⟨_, rfl⟩
        have hm1 : t1 = tMay m n z t := by rw [ht1]; unfold tMay; first | rw [if_pos (by omega)] | rw [if_neg (by omega)]
        have hT1 := tMay_ok hT n z
        rw [← hm1] at hT1
        refine ek_cast (w' := wT ad f cI t1 m) (by rw [ht1]) ?_
        refine ek_iln X 6 rfl dX5_arrive_59 ?_
        refine ek_ic (v := nI 2) X (by decide) dX5_arrive_60 ?_
        refine ek_aln X 4 rfl dX5_arrive_61 ?_
        refine ek_get X hin_X5_arrive_X5 0 rfl rfl 20 (by decide) (List.mem_of_getElem? (i := 1) rfl) rfl dX5_arrive_62 ?_
        refine ek_getN X hin_X5_arrive_X6 9 rfl rfl 6 (by decide) (List.mem_of_getElem? (i := 30) rfl) rfl dX5_arrive_65 ?_
        refine ek_ic (v := nI 5) X (by decide) dX5_arrive_68 ?_
        refine ek_il X 1 rfl dX5_arrive_69 ?_
        refine ek_Nmul X dX5_arrive_71 ?_
        refine ek_ic (v := nI 2) X (by decide) dX5_arrive_72 ?_
        refine ek_Nadd X dX5_arrive_73 ?_
        refine ek_ald X 10 0 rfl rfl (by omega) (by omega) dX5_arrive_74 ?_
        have b5_74 := mRs ((5 * (((n / 19) / 17) % 12)) + 2)
        refine ek_Nmul X dX5_arrive_75 ?_
        refine ek_ic (v := nI 1) X (by decide) dX5_arrive_76 ?_
        refine ek_Nadd X dX5_arrive_77 ?_
        refine ek_Nge X (by omega) (by omega) 82 (by decide) dX5_arrive_78 (fun c_78 => ?_) (fun c_78 => ?_)
        · skip
          refine ek_aln X 4 rfl dX5_arrive_82 ?_
          refine ek_il X 0 rfl dX5_arrive_83 ?_
          refine ek_il X 1 rfl dX5_arrive_85 ?_
          refine ek_il X 2 rfl dX5_arrive_87 ?_
          refine ek_doWv X (ek_runV (As := [.int (nI (((n / 19) / 17) / 12)), .int (nI (((n / 19) / 17) % 12)), .int (nI ((n / 19) % 17))]) (rest := []) X (c_X5_clap l D cI cJ cR ad f m t1 hM hT1.1 (((n / 19) / 17) / 12) (((n / 19) / 17) % 12) ((n / 19) % 17) (by omega) (by omega) (by omega)) gX5_arrive_X5_clap rfl hdV_X5_clap ⟨Nat.le_of_ble_eq_true rfl, Nat.le_of_ble_eq_true rfl⟩ ⟨Nat.le_of_ble_eq_true rfl, Nat.le_of_ble_eq_true rfl⟩ [0, 1, 2, 3, 4, 5, 6, 7, 8, 9, 10, 11] rfl (by decide) 0 5 rfl rfl (Nat.le_of_ble_eq_true rfl) dX5_arrive_89) [0, 1, 2, 3, 4, 5, 6, 7, 8, 9, 10, 11] [] rfl rfl (by decide) (by decide) (fun _ => wT ad f cI (tClap m (((n / 19) / 17) / 12) (((n / 19) / 17) % 12) ((n / 19) % 17) t1) m) [0, 1, 2, 3, 4, 5, 6, 7, 8, 9, 10, 11] (by decide) (fun _ => rfl) (fun u_89 hv_89 => ?_)
          obtain ⟨t2, ht2⟩ : ∃ a : MsnT, a = (tClap m (((n / 19) / 17) / 12) (((n / 19) / 17) % 12) ((n / 19) % 17) t1) := ⟨_, rfl⟩
          have hT2 := tClap_ok hT1.1 (x := (n / 19 / 17 / 12)) (c := (n / 19 / 17 % 12)) (r := (n / 19 % 17)) (by omega) (by omega)
          rw [← ht2] at hT2
          refine ek_cast (w' := wT ad f cI t2 m) (by rw [ht2]) ?_
          refine ek_ic (v := nI 0) X (by decide) dX5_arrive_92 ?_
          refine ek_is (lv' := [(7, .int (nI 0)), (6, .int (nI (((n / 19) / 17) / 12))), (5, .int (nI (((n / 19) / 17) % 12))), (4, .int (nI ((n / 19) % 17))), (3, .int (nI (n % 19 - 1))), (0, .ref (ad f)), (1, .int (nI n)), (2, .int (nI z))]) X (by decide) rfl dX5_arrive_93 ?_
          refine ek_loopAt (σ := Nat × MsnT) (fun zz => (fun (p : Nat) (t3 : MsnT) => p ≤ mP m ∧ t3 = tGos m (n / 19 / 17 % 12) (n / 19 % 17) (n % 19) (n / 19 / 17 / 12) z t2 p ∧ tOk m t3 ∧ tRu t3 = tRu t2) zz.1 zz.2) (fun zz => (fun (p : Nat) (t3 : MsnT) => mP m - p) zz.1 zz.2) (fun zz => (fun (p : Nat) (t3 : MsnT) => wT ad f cI t3 m) zz.1 zz.2) (fun zz => (fun (p : Nat) (t3 : MsnT) => [(0, .ref (ad f)), (1, .int (nI n)), (2, .int (nI z)), (3, .int (nI (n % 19 - 1))), (4, .int (nI ((n / 19) % 17))), (5, .int (nI (((n / 19) / 17) % 12))), (6, .int (nI (((n / 19) / 17) / 12))), (7, .int (nI p))]) zz.1 zz.2) ?_ (0, t2) ⟨Nat.zero_le _, rfl, hT2.1, rfl⟩ rfl [5, 6, 7, 4, 3, 2, 1, 0] rfl
          intro zz ha_95 ih_95
          obtain ⟨p, t3⟩ := zz
          replace ha_95 : p ≤ mP m ∧ t3 = tGos m (n / 19 / 17 % 12) (n / 19 % 17) (n % 19) (n / 19 / 17 / 12) z t2 p ∧ tOk m t3 ∧ tRu t3 = tRu t2 := ha_95
          refine ek_cast (w' := wT ad f cI t3 m) rfl ?_
          refine ek_castL (lv' := [(0, .ref (ad f)), (1, .int (nI n)), (2, .int (nI z)), (3, .int (nI (n % 19 - 1))), (4, .int (nI ((n / 19) % 17))), (5, .int (nI (((n / 19) / 17) % 12))), (6, .int (nI (((n / 19) / 17) / 12))), (7, .int (nI p))]) rfl ?_
          have hru3 := ha_95.2.2.2
          have hru2 := hT2.2
          have hru1 := hT1.2
          refine ek_il X 7 rfl dX5_arrive_95 ?_
          refine ek_aln X 0 rfl dX5_arrive_97 ?_
          refine ek_get X hin_X5_arrive_X5 0 rfl rfl 20 (by decide) (List.mem_of_getElem? (i := 1) rfl) rfl dX5_arrive_98 ?_
          refine ek_getN X hin_X5_arrive_X6 9 rfl rfl 2 (by decide) (List.mem_of_getElem? (i := 27) rfl) rfl dX5_arrive_101 ?_
          refine ek_Nge X (by omega) (by omega) 165 (by decide) dX5_arrive_104 (fun c_104 => ?_) (fun c_104 => ?_)
          · skip
            refine ek_iln X 3 rfl dX5_arrive_165 ?_
            refine ek_ic (v := -1) X (by decide) dX5_arrive_166 ?_
            refine ek_icmp_eq X 203 (by decide) dX5_arrive_167 (fun c_167 => ?_) (fun c_167 => ?_)
            · exact absurd c_167 (nI_ne1 (by omega))
            · skip
              refine ek_il X 5 rfl dX5_arrive_170 ?_
              refine ek_Zeq X (by omega) 203 (by decide) dX5_arrive_172 (fun c_172 => ?_) (fun c_172 => ?_)
              · skip
                exact ek_retv X () ⟨rfl, trivial⟩ (congrArg (fun a => wT ad f cI a m) (show _ = tArr m n z t by obtain ⟨h1, h2, h3, h4⟩ := ha_95; have e : p = mP m := (by omega); unfold tArr; rw [if_neg (by omega), ← hm1, ← ht2, ← e, ← h2]; unfold tRest; first | (exfalso; omega) | rw [if_pos (by omega)] | rw [if_neg (by omega)])) dX5_arrive_203
              · skip
                refine ek_aln X 0 rfl dX5_arrive_175 ?_
                refine ek_il X 6 rfl dX5_arrive_176 ?_
                refine ek_il X 5 rfl dX5_arrive_178 ?_
                refine ek_il X 4 rfl dX5_arrive_180 ?_
                refine ek_iln X 3 rfl dX5_arrive_182 ?_
                refine ek_iln X 2 rfl dX5_arrive_183 ?_
                refine ek_aln X 0 rfl dX5_arrive_184 ?_
                refine ek_get X hin_X5_arrive_X5 0 rfl rfl 20 (by decide) (List.mem_of_getElem? (i := 1) rfl) rfl dX5_arrive_185 ?_
                refine ek_getN X hin_X5_arrive_X6 9 rfl rfl 6 (by decide) (List.mem_of_getElem? (i := 30) rfl) rfl dX5_arrive_188 ?_
                refine ek_ic (v := nI 5) X (by decide) dX5_arrive_191 ?_
                refine ek_il X 5 rfl dX5_arrive_192 ?_
                refine ek_Nmul X dX5_arrive_194 ?_
                refine ek_ald X 10 0 rfl rfl (by omega) (by omega) dX5_arrive_195 ?_
                have b6_195 := mRs (5 * (((n / 19) / 17) % 12))
                refine ek_Nmul X dX5_arrive_196 ?_
                refine ek_bp (v := nI 100) X (by decide) dX5_arrive_197 ?_
                refine ek_Ndiv X (by omega) (by omega) (by omega) dX5_arrive_199 ?_
                refine ek_doWv X (ek_runV (As := [.int (nI (((n / 19) / 17) / 12)), .int (nI (((n / 19) / 17) % 12)), .int (nI ((n / 19) % 17)), .int (nI (n % 19 - 1)), .int (nI ((z * ((mRo m) (5 * (((n / 19) / 17) % 12)))) / 100))]) (rest := []) X (c_X5_go l D cI cJ cR ad f m t3 hM ha_95.2.2.1 (((n / 19) / 17) / 12) (((n / 19) / 17) % 12) ((n / 19) % 17) (n % 19 - 1) ((z * ((mRo m) (5 * (((n / 19) / 17) % 12)))) / 100) (by omega) (by omega) (by omega) (by omega) (by omega) (by omega)) gX5_arrive_X5_go rfl hdV_X5_go ⟨Nat.le_of_ble_eq_true rfl, Nat.le_of_ble_eq_true rfl⟩ ⟨Nat.le_of_ble_eq_true rfl, Nat.le_of_ble_eq_true rfl⟩ [0, 1, 2, 3, 4, 5, 6, 7, 8, 9, 10, 11] rfl (by decide) 0 5 rfl rfl (Nat.le_of_ble_eq_true rfl) dX5_arrive_200) [0, 1, 2, 3, 4, 5, 6, 7, 8, 9, 10, 11] [] rfl rfl (by decide) (by decide) (fun _ => wT ad f cI (tGo m (((n / 19) / 17) / 12) (((n / 19) / 17) % 12) ((n / 19) % 17) (n % 19 - 1) ((z * ((mRo m) (5 * (((n / 19) / 17) % 12)))) / 100) t3) m) [0, 1, 2, 3, 4, 5, 6, 7, 8, 9, 10, 11] (by decide) (fun _ => rfl) (fun u_200 hv_200 => ?_)
                exact ek_retv X () ⟨rfl, trivial⟩ (congrArg (fun a => wT ad f cI a m) (show _ = tArr m n z t by obtain ⟨h1, h2, h3, h4⟩ := ha_95; have e : p = mP m := (by omega); unfold tArr; rw [if_neg (by omega), ← hm1, ← ht2, ← e, ← h2]; unfold tRest; first | (exfalso; omega) | rw [if_pos (by omega)] | rw [if_neg (by omega)])) dX5_arrive_203
          · skip
            refine ek_il X 7 rfl dX5_arrive_107 ?_
            refine ek_iln X 3 rfl dX5_arrive_109 ?_
            refine ek_Neq X (by omega) (by omega) 159 (by decide) dX5_arrive_110 (fun c_110 => ?_) (fun c_110 => ?_)
            · skip
              refine ek_Ninc (j := 7) (d := 1) (lv' := [(7, .int (nI (p + 1))), (0, .ref (ad f)), (1, .int (nI n)), (2, .int (nI z)), (3, .int (nI (n % 19 - 1))), (4, .int (nI ((n / 19) % 17))), (5, .int (nI (((n / 19) / 17) % 12))), (6, .int (nI (((n / 19) / 17) / 12)))]) X rfl (by decide) rfl dX5_arrive_159 ?_
              refine ek_goto X 95 (by decide) dX5_arrive_162 ?_
              refine ek_re [1, 2, 3, 4, 5, 6, 7, 0] rfl ?_
              exact ih_95 (p + 1, t3) (show (p + 1) ≤ mP m ∧ t3 = tGos m (n / 19 / 17 % 12) (n / 19 % 17) (n % 19) (n / 19 / 17 / 12) z t2 (p + 1) ∧ tOk m t3 ∧ tRu t3 = tRu t2 from (by obtain ⟨h1, h2, h3, h4⟩ := ha_95; first | (have h5 := tGo_ok hM h3 (x := (n / 19 / 17 / 12)) (c := (n / 19 / 17 % 12)) (r := (n / 19 % 17)) (p := p) (z := z) (by omega) (by omega) (by omega) hz c_121; refine ⟨by omega, ?_, h5.1, h5.2.trans h4⟩; show _ = tGosS m (n / 19 / 17 % 12) (n / 19 % 17) (n % 19) (n / 19 / 17 / 12) z p (tGos m (n / 19 / 17 % 12) (n / 19 % 17) (n % 19) (n / 19 / 17 / 12) z t2 p); rw [← h2]; exact (if_pos ⟨by omega, c_121, c_140⟩).symm) | (refine ⟨by omega, ?_, h3, h4⟩; show _ = tGosS m (n / 19 / 17 % 12) (n / 19 % 17) (n % 19) (n / 19 / 17 / 12) z p (tGos m (n / 19 / 17 % 12) (n / 19 % 17) (n % 19) (n / 19 / 17 / 12) z t2 p); rw [← h2]; exact (if_neg (fun h => by have g1 := h.1; have g2 := h.2.1; have g3 := h.2.2; first | omega | contradiction)).symm))) (by show mP m - (p + 1) < mP m - p; omega)
            · skip
              refine ek_aln X 0 rfl dX5_arrive_113 ?_
              refine ek_get X hin_X5_arrive_X5 0 rfl rfl 20 (by decide) (List.mem_of_getElem? (i := 1) rfl) rfl dX5_arrive_114 ?_
              refine ek_il X 7 rfl dX5_arrive_117 ?_
              refine ek_il X 5 rfl dX5_arrive_119 ?_
              refine ek_doRi (ek_runVN (As := [.int (nI p), .int (nI (((n / 19) / 17) % 12))]) (rest := []) X (c_X6_touches l D cI cJ cR ad m hM p (((n / 19) / 17) % 12) (by omega) (by omega)) gX5_arrive_X6_touches_n97 rfl (List.mem_of_getElem? (i := 36) rfl) (List.mem_of_getElem? (i := 38) rfl) (List.mem_of_getElem? (i := 37) rfl) (List.mem_of_getElem? (i := 39) rfl) hd_X6_touches ⟨Nat.le_of_ble_eq_true rfl, Nat.le_of_ble_eq_true rfl⟩ ⟨Nat.le_of_ble_eq_true rfl, Nat.le_of_ble_eq_true rfl⟩ [9, 10, 11] rfl (by decide) 0 6 rfl rfl (Nat.le_of_ble_eq_true rfl) dX5_arrive_121) (fun v_121 hv_121 => ?_)
              subst hv_121
              by_cases c_121 : mTouch m p (((n / 19) / 17) % 12)
              · refine ek_top (v' := nI 1) (congrArg nI (if_pos c_121)) ?_
                refine ek_Zeq X (by omega) 159 (by decide) dX5_arrive_124 (fun h => absurd h (by omega)) (fun _ => ?_)
                refine ek_aln X 0 rfl dX5_arrive_127 ?_
                refine ek_get X hin_X5_arrive_X5 0 rfl rfl 20 (by decide) (List.mem_of_getElem? (i := 1) rfl) rfl dX5_arrive_128 ?_
                refine ek_il X 7 rfl dX5_arrive_131 ?_
                refine ek_aln X 0 rfl dX5_arrive_133 ?_
                refine ek_get X hin_X5_arrive_X5 0 rfl rfl 20 (by decide) (List.mem_of_getElem? (i := 1) rfl) rfl dX5_arrive_134 ?_
                refine ek_getN X hin_X5_arrive_X6 9 rfl rfl 3 (by decide) (List.mem_of_getElem? (i := 28) rfl) rfl dX5_arrive_137 ?_
                refine ek_doRi (ek_runVN (As := [.int (nI p), .int (nI (mW m))]) (rest := []) X (c_X6_isOpen l D cI cJ cR ad m hM p (mW m) (by omega) (by omega)) gX5_arrive_X6_isOpen_n104 rfl (List.mem_of_getElem? (i := 37) rfl) (List.mem_of_getElem? (i := 38) rfl) (List.mem_of_getElem? (i := 42) rfl) (List.mem_of_getElem? (i := 43) rfl) hd_X6_isOpen ⟨Nat.le_of_ble_eq_true rfl, Nat.le_of_ble_eq_true rfl⟩ ⟨Nat.le_of_ble_eq_true rfl, Nat.le_of_ble_eq_true rfl⟩ [9, 10, 11] rfl (by decide) 0 6 rfl rfl (Nat.le_of_ble_eq_true rfl) dX5_arrive_140) (fun v_140 hv_140 => ?_)
                subst hv_140
                by_cases c_140 : mOpen m p (mW m)
                · refine ek_top (v' := nI 1) (congrArg nI (if_pos c_140)) ?_
                  refine ek_Zeq X (by omega) 159 (by decide) dX5_arrive_143 (fun h => absurd h (by omega)) (fun _ => ?_)
                  refine ek_aln X 0 rfl dX5_arrive_146 ?_
                  refine ek_il X 6 rfl dX5_arrive_147 ?_
                  refine ek_il X 5 rfl dX5_arrive_149 ?_
                  refine ek_il X 4 rfl dX5_arrive_151 ?_
                  refine ek_il X 7 rfl dX5_arrive_153 ?_
                  refine ek_iln X 2 rfl dX5_arrive_155 ?_
                  refine ek_doWv X (ek_runV (As := [.int (nI (((n / 19) / 17) / 12)), .int (nI (((n / 19) / 17) % 12)), .int (nI ((n / 19) % 17)), .int (nI p), .int (nI z)]) (rest := []) X (c_X5_go l D cI cJ cR ad f m t3 hM ha_95.2.2.1 (((n / 19) / 17) / 12) (((n / 19) / 17) % 12) ((n / 19) % 17) p z (by omega) (by omega) (by omega) (by omega) hz c_121) gX5_arrive_X5_go rfl hdV_X5_go ⟨Nat.le_of_ble_eq_true rfl, Nat.le_of_ble_eq_true rfl⟩ ⟨Nat.le_of_ble_eq_true rfl, Nat.le_of_ble_eq_true rfl⟩ [0, 1, 2, 3, 4, 5, 6, 7, 8, 9, 10, 11] rfl (by decide) 0 5 rfl rfl (Nat.le_of_ble_eq_true rfl) dX5_arrive_156) [0, 1, 2, 3, 4, 5, 6, 7, 8, 9, 10, 11] [] rfl rfl (by decide) (by decide) (fun _ => wT ad f cI (tGo m (((n / 19) / 17) / 12) (((n / 19) / 17) % 12) ((n / 19) % 17) p z t3) m) [0, 1, 2, 3, 4, 5, 6, 7, 8, 9, 10, 11] (by decide) (fun _ => rfl) (fun u_156 hv_156 => ?_)
                  refine ek_Ninc (j := 7) (d := 1) (lv' := [(7, .int (nI (p + 1))), (0, .ref (ad f)), (1, .int (nI n)), (2, .int (nI z)), (3, .int (nI (n % 19 - 1))), (4, .int (nI ((n / 19) % 17))), (5, .int (nI (((n / 19) / 17) % 12))), (6, .int (nI (((n / 19) / 17) / 12)))]) X rfl (by decide) rfl dX5_arrive_159 ?_
                  refine ek_goto X 95 (by decide) dX5_arrive_162 ?_
                  refine ek_re [1, 2, 3, 4, 5, 6, 7, 0] rfl ?_
                  exact ih_95 (p + 1, (tGo m (((n / 19) / 17) / 12) (((n / 19) / 17) % 12) ((n / 19) % 17) p z t3)) (show (p + 1) ≤ mP m ∧ ((tGo m (((n / 19) / 17) / 12) (((n / 19) / 17) % 12) ((n / 19) % 17) p z t3)) = tGos m (n / 19 / 17 % 12) (n / 19 % 17) (n % 19) (n / 19 / 17 / 12) z t2 (p + 1) ∧ tOk m ((tGo m (((n / 19) / 17) / 12) (((n / 19) / 17) % 12) ((n / 19) % 17) p z t3)) ∧ tRu ((tGo m (((n / 19) / 17) / 12) (((n / 19) / 17) % 12) ((n / 19) % 17) p z t3)) = tRu t2 from (by obtain ⟨h1, h2, h3, h4⟩ := ha_95; first | (have h5 := tGo_ok hM h3 (x := (n / 19 / 17 / 12)) (c := (n / 19 / 17 % 12)) (r := (n / 19 % 17)) (p := p) (z := z) (by omega) (by omega) (by omega) hz c_121; refine ⟨by omega, ?_, h5.1, h5.2.trans h4⟩; show _ = tGosS m (n / 19 / 17 % 12) (n / 19 % 17) (n % 19) (n / 19 / 17 / 12) z p (tGos m (n / 19 / 17 % 12) (n / 19 % 17) (n % 19) (n / 19 / 17 / 12) z t2 p); rw [← h2]; exact (if_pos ⟨by omega, c_121, c_140⟩).symm) | (refine ⟨by omega, ?_, h3, h4⟩; show _ = tGosS m (n / 19 / 17 % 12) (n / 19 % 17) (n % 19) (n / 19 / 17 / 12) z p (tGos m (n / 19 / 17 % 12) (n / 19 % 17) (n % 19) (n / 19 / 17 / 12) z t2 p); rw [← h2]; exact (if_neg (fun h => by have g1 := h.1; have g2 := h.2.1; have g3 := h.2.2; first | omega | contradiction)).symm))) (by show mP m - (p + 1) < mP m - p; omega)
                · refine ek_top (v' := nI 0) (congrArg nI (if_neg c_140)) ?_
                  refine ek_Zeq X (by omega) 159 (by decide) dX5_arrive_143 (fun _ => ?_) (fun h => absurd h (by omega))
                  refine ek_Ninc (j := 7) (d := 1) (lv' := [(7, .int (nI (p + 1))), (0, .ref (ad f)), (1, .int (nI n)), (2, .int (nI z)), (3, .int (nI (n % 19 - 1))), (4, .int (nI ((n / 19) % 17))), (5, .int (nI (((n / 19) / 17) % 12))), (6, .int (nI (((n / 19) / 17) / 12)))]) X rfl (by decide) rfl dX5_arrive_159 ?_
                  refine ek_goto X 95 (by decide) dX5_arrive_162 ?_
                  refine ek_re [1, 2, 3, 4, 5, 6, 7, 0] rfl ?_
                  exact ih_95 (p + 1, t3) (show (p + 1) ≤ mP m ∧ t3 = tGos m (n / 19 / 17 % 12) (n / 19 % 17) (n % 19) (n / 19 / 17 / 12) z t2 (p + 1) ∧ tOk m t3 ∧ tRu t3 = tRu t2 from (by obtain ⟨h1, h2, h3, h4⟩ := ha_95; first | (have h5 := tGo_ok hM h3 (x := (n / 19 / 17 / 12)) (c := (n / 19 / 17 % 12)) (r := (n / 19 % 17)) (p := p) (z := z) (by omega) (by omega) (by omega) hz c_121; refine ⟨by omega, ?_, h5.1, h5.2.trans h4⟩; show _ = tGosS m (n / 19 / 17 % 12) (n / 19 % 17) (n % 19) (n / 19 / 17 / 12) z p (tGos m (n / 19 / 17 % 12) (n / 19 % 17) (n % 19) (n / 19 / 17 / 12) z t2 p); rw [← h2]; exact (if_pos ⟨by omega, c_121, c_140⟩).symm) | (refine ⟨by omega, ?_, h3, h4⟩; show _ = tGosS m (n / 19 / 17 % 12) (n / 19 % 17) (n % 19) (n / 19 / 17 / 12) z p (tGos m (n / 19 / 17 % 12) (n / 19 % 17) (n % 19) (n / 19 / 17 / 12) z t2 p); rw [← h2]; exact (if_neg (fun h => by have g1 := h.1; have g2 := h.2.1; have g3 := h.2.2; first | omega | contradiction)).symm))) (by show mP m - (p + 1) < mP m - p; omega)
              · refine ek_top (v' := nI 0) (congrArg nI (if_neg c_121)) ?_
                refine ek_Zeq X (by omega) 159 (by decide) dX5_arrive_124 (fun _ => ?_) (fun h => absurd h (by omega))
                refine ek_Ninc (j := 7) (d := 1) (lv' := [(7, .int (nI (p + 1))), (0, .ref (ad f)), (1, .int (nI n)), (2, .int (nI z)), (3, .int (nI (n % 19 - 1))), (4, .int (nI ((n / 19) % 17))), (5, .int (nI (((n / 19) / 17) % 12))), (6, .int (nI (((n / 19) / 17) / 12)))]) X rfl (by decide) rfl dX5_arrive_159 ?_
                refine ek_goto X 95 (by decide) dX5_arrive_162 ?_
                refine ek_re [1, 2, 3, 4, 5, 6, 7, 0] rfl ?_
                exact ih_95 (p + 1, t3) (show (p + 1) ≤ mP m ∧ t3 = tGos m (n / 19 / 17 % 12) (n / 19 % 17) (n % 19) (n / 19 / 17 / 12) z t2 (p + 1) ∧ tOk m t3 ∧ tRu t3 = tRu t2 from (by obtain ⟨h1, h2, h3, h4⟩ := ha_95; first | (have h5 := tGo_ok hM h3 (x := (n / 19 / 17 / 12)) (c := (n / 19 / 17 % 12)) (r := (n / 19 % 17)) (p := p) (z := z) (by omega) (by omega) (by omega) hz c_121; refine ⟨by omega, ?_, h5.1, h5.2.trans h4⟩; show _ = tGosS m (n / 19 / 17 % 12) (n / 19 % 17) (n % 19) (n / 19 / 17 / 12) z p (tGos m (n / 19 / 17 % 12) (n / 19 % 17) (n % 19) (n / 19 / 17 / 12) z t2 p); rw [← h2]; exact (if_pos ⟨by omega, c_121, c_140⟩).symm) | (refine ⟨by omega, ?_, h3, h4⟩; show _ = tGosS m (n / 19 / 17 % 12) (n / 19 % 17) (n % 19) (n / 19 / 17 / 12) z p (tGos m (n / 19 / 17 % 12) (n / 19 % 17) (n % 19) (n / 19 / 17 / 12) z t2 p); rw [← h2]; exact (if_neg (fun h => by have g1 := h.1; have g2 := h.2.1; have g3 := h.2.2; first | omega | contradiction)).symm))) (by show mP m - (p + 1) < mP m - p; omega)
        · skip
          exact ek_retv X () ⟨rfl, trivial⟩ (congrArg (fun a => wT ad f cI a m) (show t1 = tArr m n z t by unfold tArr; rw [if_pos (by omega), hm1])) dX5_arrive_81

abbrev tDec (t : MsnT) : MsnT := ((tOd t, tPw t, tPc t, tSy t), (tTh t, tBa t, tFi t, tHe t), (tWa t - 1, tRu t, tCl t, tK t), (tCt t, tOr t, tLa t, tLt t), (tWo t, tPl t, tCh t, tWi t))
def tZero (n : Nat) (t : MsnT) : MsnT := ((tOd t, tPw t, tPc t, tSy t), (tTh t, tBa t, eFill 6 (-1) (tFi t), tHe t), (0, 0, 0, 0), (0, 0, -1, tLt t), (n, dgs 6 n, tCh t, tWi t))
def tSay (n k b : Nat) (t : MsnT) : Nat → MsnT
  | 0 => t
  | i + 1 => tStart (i * b) 0 i (n / 10 ^ (k - 1 - i) % 10) 100 (tSay n k b t i)
def tLoop (m : MdlT) : Nat → MsnT → MsnT
  | 0, t => t
  | f + 1, t => if tWa t = 0 then t else tLoop m f (tArr m (tOd t (tWa t - 1)) (tPw t (tWa t - 1)) (tDec t))
def tThrough (m : MdlT) (n b : Nat) (t : MsnT) : MsnT := tLoop m 629 (tSay n (dgs 6 n) b (tZero n t) (dgs 6 n))
/-- what holds of a reference's word between the calls -/
def tBase (t : MsnT) : Prop := (∀ j, tSy t j ≤ 9) ∧ (∀ j, tPc t j < 6) ∧ (∀ j, tTh t j < 262144) ∧ (∀ j, tBa t j < 262144) ∧ (∀ j, tOd t j < 2147483648) ∧ (∀ j, tPw t j < 128) ∧ (tK t ≤ 60 ∧ tCt t ≤ tK t ∧ tOr t ≤ tCt t) ∧ ¬ tCh t = nI 0 ∧ tWi t ≤ 9 ∧ tLt t ≤ 100 ∧ tPl t ≤ 6
abbrev wdOk (n : Nat) : Prop := (1 ≤ n ∧ n ≤ 999999) ∧ ∀ i, i < dgs 6 n → 1 ≤ n / 10 ^ i % 10
theorem tOk_base {m : MdlT} {t : MsnT} (h : tOk m t) : tBase t := by
  obtain ⟨⟨q1, q2, q3, q4, q5, q6, q7, q8, q9, q10, q11⟩, q12⟩ := h
  exact ⟨q2, q4, q5, q6, q7, q9, q10, q11.2⟩
theorem tZero_ok {m : MdlT} {t : MsnT} (h : tBase t) (h3 : mRo m 3 = 0) (n : Nat) : tOk m (tZero n t) := by
  obtain ⟨q2, q4, q5, q6, q7, q9, q10, q11, q12, q13, q14⟩ := h
  exact ⟨⟨⟨by show 0 ≤ 17; omega, by show 0 ≤ _; omega, by show 0 < 4096; omega⟩, q2, fun j hj => absurd hj (Nat.not_lt_zero j), q4, q5, q6, q7, fun j hj => absurd hj (Nat.not_lt_zero j), q9, ⟨by show 0 ≤ 60; omega, Nat.le_refl 0, Nat.le_refl 0⟩, h3, q11, q12, q13, dgs_le 6 n⟩, Nat.zero_le _⟩
theorem tSay_ok {m : MdlT} {t : MsnT} (h : tOk m t) (h0 : tRu t = 0) {n k b : Nat} (hk : k ≤ 6) (hd : ∀ i, i < k → 1 ≤ n / 10 ^ i % 10) : ∀ i, i ≤ k → tOk m (tSay n k b t i) ∧ tRu (tSay n k b t i) = i
  | 0, _ => ⟨h, h0⟩
  | i + 1, hi => by
    obtain ⟨j1, j2⟩ := tSay_ok h h0 hk hd i (by omega) (b := b)
    have h9 := hd (k - 1 - i) (by omega)
    obtain ⟨l1, l2⟩ := tStart_ok j1 (x := i * b) (c := 0) (p := i) (y := n / 10 ^ (k - 1 - i) % 10) (z := 100) (by omega) (by omega) (by omega) (by omega) ⟨h9, by omega⟩ (by omega)
    exact ⟨l1, l2.trans (by rw [j2])⟩
theorem tDec_ok {m : MdlT} {t : MsnT} (h : tOk m t) : tOk m (tDec t) := by
  obtain ⟨⟨q1, q2, q3, q4, q5, q6, q7, q8, q9, q10, q11⟩, q12⟩ := h
  exact ⟨⟨q1, q2, q3, q4, q5, q6, q7, fun j hj => q8 j (by have : j < tWa t - 1 := hj; omega), q9, q10, q11⟩, by show tWa t - 1 ≤ tPot t; omega⟩
theorem tStep_ok {m : MdlT} {t : MsnT} (hM : mOk m) (h : tOk m t) (hw : 0 < tWa t) : tOk m (tArr m (tOd t (tWa t - 1)) (tPw t (tWa t - 1)) (tDec t)) ∧ 629 - tPot (tArr m (tOd t (tWa t - 1)) (tPw t (tWa t - 1)) (tDec t)) + tWa (tArr m (tOd t (tWa t - 1)) (tPw t (tWa t - 1)) (tDec t)) < 629 - tPot t + tWa t := by
  have hD := tDec_ok h
  have hn := h.1.2.2.2.2.2.2.2.1 (tWa t - 1) (by omega)
  have hz := h.1.2.2.2.2.2.2.2.2.1 (tWa t - 1)
  have a1 := tArr_ok hM hD (n := tOd t (tWa t - 1)) (z := tPw t (tWa t - 1)) hn hz
  obtain ⟨g1, g2⟩ := tArr_grow hM hD (n := tOd t (tWa t - 1)) (z := tPw t (tWa t - 1)) hn hz
  have g3 : tPot (tArr m (tOd t (tWa t - 1)) (tPw t (tWa t - 1)) (tDec t)) ≤ tRu (tArr m (tOd t (tWa t - 1)) (tPw t (tWa t - 1)) (tDec t)) * 37 := tPot_le _
  have g4 := a1.1.1.1.1
  have g5 : tPot (tDec t) = tPot t := rfl
  have g6 : tWa (tDec t) = tWa t - 1 := rfl
  rw [g5] at g1
  rw [g5, g6] at g2
  exact ⟨a1.1, by omega⟩
theorem tLoop_ok {m : MdlT} (hM : mOk m) : ∀ (f : Nat) (t : MsnT), tOk m t → tOk m (tLoop m f t) ∧ (629 - tPot t + tWa t ≤ f → tWa (tLoop m f t) = 0)
  | 0, t, h => ⟨h, fun e => by show tWa t = 0; omega⟩
  | f + 1, t, h => by
    unfold tLoop
    split
    · rename_i e
      exact ⟨h, fun _ => e⟩
    · rename_i e
      obtain ⟨s1, s2⟩ := tStep_ok hM h (by omega)
      obtain ⟨r1, r2⟩ := tLoop_ok hM f _ s1
      exact ⟨r1, fun h9 => r2 (by omega)⟩
theorem tThrough_ok {m : MdlT} {t : MsnT} (hM : mOk m) (h : tBase t) (h3 : mRo m 3 = 0) {n b : Nat} (hd : wdOk n) : tOk m (tThrough m n b t) ∧ tWa (tThrough m n b t) = 0 := by
  obtain ⟨s1, s2⟩ := tSay_ok (tZero_ok h h3 n) rfl (n := n) (k := dgs 6 n) (b := b) (dgs_le 6 n) hd.2 (dgs 6 n) (Nat.le_refl _)
  obtain ⟨l1, l2⟩ := tLoop_ok hM 629 _ s1
  exact ⟨l1, l2 (by have := s1.2; have := tPot_le (tSay n (dgs 6 n) b (tZero n t) (dgs 6 n)); have := s1.1.1.1; omega)⟩
theorem tLoop_0 (m : MdlT) (f : Nat) (t : MsnT) (h : tWa t = 0) : tLoop m f t = t := by
  cases f with
  | zero => rfl
  | succ f => exact if_pos h
theorem e_max (a b : Nat) (ha : a < 2147483648) (hb : b < 2147483648) : emax (nI a) (nI b) = nI (max a b) := by
  unfold emax
  by_cases h : a < b
  · rw [if_pos ((nI_ltI ha hb).mpr h), Nat.max_eq_right (Nat.le_of_lt h)]
  · rw [if_neg (fun e => h ((nI_ltI ha hb).mp e)), Nat.max_eq_left (Nat.le_of_not_lt h)]
theorem pw_step (k : Nat) : max 1 (10 ^ k / 10) = 10 ^ (k - 1) := by
  cases k with
  | zero => decide
  | succ k =>
    rw [Nat.pow_succ, Nat.mul_div_cancel _ (by omega), Nat.add_sub_cancel]
    exact Nat.max_eq_right (Nat.pow_pos (by omega))

theorem hin_X5_say_X5 : ∀ x ∈ wsX50, x ∈ wsX5_say := fun x h => List.mem_cons_of_mem _ (List.mem_append_left _ (List.mem_append_right _ h))
abbrev rm_X5_say : Room := { frames := 5, cells := 0, slots := 0, locals := 116 }
set_option maxHeartbeats 4000000 in
set_option maxRecDepth 100000 in
theorem c_X5_say (l : Launch) (D : va_G) (cI cJ cR : ClassId) (ad : Nat → Nat) (f : Nat) (m : MdlT) (t : MsnT) (hM : mOk m) (hT : tBase t) (h3 : mRo m 3 = 0) (n b : Nat) (hd : wdOk n) (hb : b ≤ 20) : ek_M (S := Unit) l yX5_say wsX5_say rm_X5_say D (tyW cI cJ cR) nestW [.ref (ad f), .int (nI n), .int (nI b)] (wT ad f cI t m) (fun r9 _ => r9 = none ∧ True) (fun _ => wT ad f cI (tThrough m n b t) m) := by
  refine ek_M.of (cc := cX5_say) (maxL := 5) (ret := none) (by decide) rfl (Nat.le_of_ble_eq_true rfl) ?_
  intro p9 e9 s9 m9 args9 below9 meth9 c9 A X hin
  obtain ⟨⟨mC1, mC2⟩, mPs, mWs, mEs, mTs, mSs, mRs, mTl⟩ := id hM
  obtain ⟨⟨hn1, hn2⟩, hdg⟩ := id hd
  refine ek_castL (lv' := [(0, .ref (ad f)), (1, .int (nI n)), (2, .int (nI b))]) rfl ?_
  refine ek_aln X 0 rfl dX5_say_0 ?_
  refine ek_iln X 1 rfl dX5_say_1 ?_
  refine ek_put (w' := wT ad f cI ((tOd t, tPw t, tPc t, tSy t), (tTh t, tBa t, tFi t, tHe t), (tWa t, tRu t, tCl t, tK t), (tCt t, tOr t, tLa t, tLt t), (n, tPl t, tCh t, tWi t)) m) X hin_X5_say_X5 tyX5 tyX5_ok nmX5 0 rfl rfl 0 (by decide) (List.mem_of_getElem? (i := 1) rfl) rfl rfl rfl rfl (Nat.le_of_ble_eq_true rfl) rfl dX5_say_2 ?_
  refine ek_aln X 0 rfl dX5_say_5 ?_
  refine ek_ic (v := nI 0) X (by decide) dX5_say_6 ?_
  refine ek_put (w' := wT ad f cI ((tOd t, tPw t, tPc t, tSy t), (tTh t, tBa t, tFi t, tHe t), (tWa t, tRu t, tCl t, tK t), (tCt t, tOr t, tLa t, tLt t), (n, 0, tCh t, tWi t)) m) X hin_X5_say_X5 tyX5 tyX5_ok nmX5 0 rfl rfl 1 (by decide) (List.mem_of_getElem? (i := 2) rfl) rfl rfl rfl rfl (Nat.le_of_ble_eq_true rfl) rfl dX5_say_7 ?_
  refine ek_aln X 0 rfl dX5_say_10 ?_
  refine ek_ic (v := nI 0) X (by decide) dX5_say_11 ?_
  refine ek_put (w' := wT ad f cI ((tOd t, tPw t, tPc t, tSy t), (tTh t, tBa t, tFi t, tHe t), (tWa t, 0, tCl t, tK t), (tCt t, tOr t, tLa t, tLt t), (n, 0, tCh t, tWi t)) m) X hin_X5_say_X5 tyX5 tyX5_ok nmX5 0 rfl rfl 2 (by decide) (List.mem_of_getElem? (i := 3) rfl) rfl rfl rfl rfl (Nat.le_of_ble_eq_true rfl) rfl dX5_say_12 ?_
  refine ek_aln X 0 rfl dX5_say_15 ?_
  refine ek_ic (v := nI 0) X (by decide) dX5_say_16 ?_
  refine ek_put (w' := wT ad f cI ((tOd t, tPw t, tPc t, tSy t), (tTh t, tBa t, tFi t, tHe t), (tWa t, 0, tCl t, 0), (tCt t, tOr t, tLa t, tLt t), (n, 0, tCh t, tWi t)) m) X hin_X5_say_X5 tyX5 tyX5_ok nmX5 0 rfl rfl 3 (by decide) (List.mem_of_getElem? (i := 4) rfl) rfl rfl rfl rfl (Nat.le_of_ble_eq_true rfl) rfl dX5_say_17 ?_
  refine ek_aln X 0 rfl dX5_say_20 ?_
  refine ek_ic (v := nI 0) X (by decide) dX5_say_21 ?_
  refine ek_put (w' := wT ad f cI ((tOd t, tPw t, tPc t, tSy t), (tTh t, tBa t, tFi t, tHe t), (tWa t, 0, tCl t, 0), (0, tOr t, tLa t, tLt t), (n, 0, tCh t, tWi t)) m) X hin_X5_say_X5 tyX5 tyX5_ok nmX5 0 rfl rfl 4 (by decide) (List.mem_of_getElem? (i := 5) rfl) rfl rfl rfl rfl (Nat.le_of_ble_eq_true rfl) rfl dX5_say_22 ?_
  refine ek_aln X 0 rfl dX5_say_25 ?_
  refine ek_ic (v := nI 0) X (by decide) dX5_say_26 ?_
  refine ek_put (w' := wT ad f cI ((tOd t, tPw t, tPc t, tSy t), (tTh t, tBa t, tFi t, tHe t), (tWa t, 0, tCl t, 0), (0, 0, tLa t, tLt t), (n, 0, tCh t, tWi t)) m) X hin_X5_say_X5 tyX5 tyX5_ok nmX5 0 rfl rfl 5 (by decide) (List.mem_of_getElem? (i := 6) rfl) rfl rfl rfl rfl (Nat.le_of_ble_eq_true rfl) rfl dX5_say_27 ?_
  refine ek_aln X 0 rfl dX5_say_30 ?_
  refine ek_ic (v := -1) X (by decide) dX5_say_31 ?_
  refine ek_put (w' := wT ad f cI ((tOd t, tPw t, tPc t, tSy t), (tTh t, tBa t, tFi t, tHe t), (tWa t, 0, tCl t, 0), (0, 0, -1, tLt t), (n, 0, tCh t, tWi t)) m) X hin_X5_say_X5 tyX5 tyX5_ok nmX5 0 rfl rfl 6 (by decide) (List.mem_of_getElem? (i := 7) rfl) rfl rfl rfl rfl (Nat.le_of_ble_eq_true rfl) rfl dX5_say_32 ?_
  refine ek_aln X 0 rfl dX5_say_35 ?_
  refine ek_ic (v := nI 0) X (by decide) dX5_say_36 ?_
  refine ek_put (w' := wT ad f cI ((tOd t, tPw t, tPc t, tSy t), (tTh t, tBa t, tFi t, tHe t), (0, 0, tCl t, 0), (0, 0, -1, tLt t), (n, 0, tCh t, tWi t)) m) X hin_X5_say_X5 tyX5 tyX5_ok nmX5 0 rfl rfl 7 (by decide) (List.mem_of_getElem? (i := 8) rfl) rfl rfl rfl rfl (Nat.le_of_ble_eq_true rfl) rfl dX5_say_37 ?_
  refine ek_aln X 0 rfl dX5_say_40 ?_
  refine ek_ic (v := nI 0) X (by decide) dX5_say_41 ?_
  refine ek_put (w' := wT ad f cI ((tOd t, tPw t, tPc t, tSy t), (tTh t, tBa t, tFi t, tHe t), (0, 0, 0, 0), (0, 0, -1, tLt t), (n, 0, tCh t, tWi t)) m) X hin_X5_say_X5 tyX5 tyX5_ok nmX5 0 rfl rfl 8 (by decide) (List.mem_of_getElem? (i := 9) rfl) rfl rfl rfl rfl (Nat.le_of_ble_eq_true rfl) rfl dX5_say_42 ?_
  refine ek_iln X 1 rfl dX5_say_45 ?_
  refine ek_isn (lv' := [(3, .int (nI n)), (0, .ref (ad f)), (1, .int (nI n)), (2, .int (nI b))]) X (by decide) rfl dX5_say_46 ?_
  refine ek_loopAt (σ := Nat × Nat) (fun zz => (fun (left : Nat) (pl : Nat) => pl ≤ 6 ∧ left < 10 ^ (6 - pl) ∧ pl + dgs (6 - pl) left = dgs 6 n) zz.1 zz.2) (fun zz => (fun (left : Nat) (pl : Nat) => 6 - pl) zz.1 zz.2) (fun zz => (fun (left : Nat) (pl : Nat) => wT ad f cI ((tOd t, tPw t, tPc t, tSy t), (tTh t, tBa t, tFi t, tHe t), (0, 0, 0, 0), (0, 0, -1, tLt t), (n, pl, tCh t, tWi t)) m) zz.1 zz.2) (fun zz => (fun (left : Nat) (pl : Nat) => [(0, .ref (ad f)), (1, .int (nI n)), (2, .int (nI b)), (3, .int (nI left))]) zz.1 zz.2) ?_ (n, 0) ⟨by omega, by show n < 1000000; omega, by show 0 + dgs 6 n = dgs 6 n; omega⟩ rfl [1, 2, 3, 0] rfl
  intro zz ha_47 ih_47
  obtain ⟨left, pl⟩ := zz
  replace ha_47 : pl ≤ 6 ∧ left < 10 ^ (6 - pl) ∧ pl + dgs (6 - pl) left = dgs 6 n := ha_47
  refine ek_cast (w' := wT ad f cI ((tOd t, tPw t, tPc t, tSy t), (tTh t, tBa t, tFi t, tHe t), (0, 0, 0, 0), (0, 0, -1, tLt t), (n, pl, tCh t, tWi t)) m) rfl ?_
  refine ek_castL (lv' := [(0, .ref (ad f)), (1, .int (nI n)), (2, .int (nI b)), (3, .int (nI left))]) rfl ?_
  have hl9 : left < 2147483648 := Nat.lt_of_lt_of_le ha_47.2.1 (Nat.le_trans (Nat.pow_le_pow_right (n := 10) (by omega) (show 6 - pl ≤ 6 by omega)) (by decide))
  have hl7 : 0 < left → pl < 6 := fun h => (by obtain ⟨h1, h2, h3⟩ := ha_47; rcases Nat.lt_or_ge pl 6 with h4 | h4; exact h4; rw [show 6 - pl = 0 by omega] at h2; omega)
  refine ek_iln X 3 rfl dX5_say_47 ?_
  refine ek_Zle X (by omega) 69 (by decide) dX5_say_48 (fun c_48 => ?_) (fun c_48 => ?_)
  · skip
    have hpl : pl = dgs 6 n := (by obtain ⟨h1, h2, h3⟩ := ha_47; rw [← h3, show left = 0 by omega]; cases (6 - pl) <;> rfl)
    have hpl1 : 1 ≤ pl := (by rw [hpl]; unfold dgs; rw [if_pos (by omega)]; omega)
    have hpl6 : pl ≤ 6 := ha_47.1
    refine ek_ic (v := nI 1) X (by decide) dX5_say_69 ?_
    refine ek_isn (lv' := [(3, .int (nI 1)), (0, .ref (ad f)), (1, .int (nI n)), (2, .int (nI b))]) X (by decide) rfl dX5_say_70 ?_
    refine ek_ic (v := nI 1) X (by decide) dX5_say_71 ?_
    refine ek_is (lv' := [(4, .int (nI 1)), (3, .int (nI 1)), (0, .ref (ad f)), (1, .int (nI n)), (2, .int (nI b))]) X (by decide) rfl dX5_say_72 ?_
    refine ek_loopAt (σ := Nat × Nat) (fun zz => (fun (d : Nat) (j : Nat) => 1 ≤ j ∧ j ≤ pl ∧ d = 10 ^ (j - 1)) zz.1 zz.2) (fun zz => (fun (d : Nat) (j : Nat) => pl - j) zz.1 zz.2) (fun zz => (fun (d : Nat) (j : Nat) => wT ad f cI ((tOd t, tPw t, tPc t, tSy t), (tTh t, tBa t, tFi t, tHe t), (0, 0, 0, 0), (0, 0, -1, tLt t), (n, pl, tCh t, tWi t)) m) zz.1 zz.2) (fun zz => (fun (d : Nat) (j : Nat) => [(0, .ref (ad f)), (1, .int (nI n)), (2, .int (nI b)), (3, .int (nI d)), (4, .int (nI j))]) zz.1 zz.2) ?_ (1, 1) ⟨by omega, by omega, rfl⟩ rfl [2, 3, 4, 1, 0] rfl
    intro zz ha_74 ih_74
    obtain ⟨d, j⟩ := zz
    replace ha_74 : 1 ≤ j ∧ j ≤ pl ∧ d = 10 ^ (j - 1) := ha_74
    refine ek_cast (w' := wT ad f cI ((tOd t, tPw t, tPc t, tSy t), (tTh t, tBa t, tFi t, tHe t), (0, 0, 0, 0), (0, 0, -1, tLt t), (n, pl, tCh t, tWi t)) m) rfl ?_
    refine ek_castL (lv' := [(0, .ref (ad f)), (1, .int (nI n)), (2, .int (nI b)), (3, .int (nI d)), (4, .int (nI j))]) rfl ?_
    refine ek_il X 4 rfl dX5_say_74 ?_
    refine ek_aln X 0 rfl dX5_say_76 ?_
    refine ek_get X hin_X5_say_X5 0 rfl rfl 1 (by decide) (List.mem_of_getElem? (i := 2) rfl) rfl dX5_say_77 ?_
    refine ek_top (v' := nI pl) rfl ?_
    refine ek_Nge X (by omega) (by omega) 94 (by decide) dX5_say_80 (fun c_80 => ?_) (fun c_80 => ?_)
    · skip
      refine ek_ic (v := nI 0) X (by decide) dX5_say_94 ?_
      refine ek_is (lv' := [(4, .int (nI 0)), (0, .ref (ad f)), (1, .int (nI n)), (2, .int (nI b)), (3, .int (nI d))]) X (by decide) rfl dX5_say_95 ?_
      refine ek_loopAt (σ := Nat × (Nat → Int32)) (fun zz => (fun (q : Nat) (fi : Nat → Int32) => q ≤ 6 ∧ fi = eFill q (-1) (tFi t)) zz.1 zz.2) (fun zz => (fun (q : Nat) (fi : Nat → Int32) => 6 - q) zz.1 zz.2) (fun zz => (fun (q : Nat) (fi : Nat → Int32) => wT ad f cI ((tOd t, tPw t, tPc t, tSy t), (tTh t, tBa t, fi, tHe t), (0, 0, 0, 0), (0, 0, -1, tLt t), (n, pl, tCh t, tWi t)) m) zz.1 zz.2) (fun zz => (fun (q : Nat) (fi : Nat → Int32) => [(0, .ref (ad f)), (1, .int (nI n)), (2, .int (nI b)), (3, .int (nI d)), (4, .int (nI q))]) zz.1 zz.2) ?_ (0, tFi t) ⟨by omega, (eFill_0 _ _).symm⟩ rfl [1, 2, 3, 4, 0] rfl
      intro zz ha_97 ih_97
      obtain ⟨q, fi⟩ := zz
      replace ha_97 : q ≤ 6 ∧ fi = eFill q (-1) (tFi t) := ha_97
      refine ek_cast (w' := wT ad f cI ((tOd t, tPw t, tPc t, tSy t), (tTh t, tBa t, fi, tHe t), (0, 0, 0, 0), (0, 0, -1, tLt t), (n, pl, tCh t, tWi t)) m) rfl ?_
      refine ek_castL (lv' := [(0, .ref (ad f)), (1, .int (nI n)), (2, .int (nI b)), (3, .int (nI d)), (4, .int (nI q))]) rfl ?_
      refine ek_il X 4 rfl dX5_say_97 ?_
      refine ek_bp (v := nI 6) X (by decide) dX5_say_99 ?_
      refine ek_Nge X (by omega) (by omega) 118 (by decide) dX5_say_101 (fun c_101 => ?_) (fun c_101 => ?_)
      · skip
        obtain ⟨t0, ht0⟩ : ∃ a : MsnT, a = ((tOd t, tPw t, tPc t, tSy t), (tTh t, tBa t, fi, tHe t), (0, 0, 0, 0), (0, 0, -1, tLt t), (n, pl, tCh t, tWi t)) := ⟨_, rfl⟩
        have hz0 : t0 = tZero n t := (by obtain ⟨h1, h2⟩ := ha_97; rw [ht0, h2, show q = 6 by omega, hpl]; rfl)
        have hT0 : tOk m t0 := (by rw [hz0]; exact tZero_ok hT h3 n)
        have hR0 : tRu t0 = 0 := (by rw [hz0]; rfl)
        have hP0 : tPl t0 = pl := (by rw [ht0])
        refine ek_cast (w' := wT ad f cI t0 m) (by rw [ht0]) ?_
        refine ek_ic (v := nI 0) X (by decide) dX5_say_118 ?_
        refine ek_is (lv' := [(4, .int (nI 0)), (0, .ref (ad f)), (1, .int (nI n)), (2, .int (nI b)), (3, .int (nI d))]) X (by decide) rfl dX5_say_119 ?_
        refine ek_loopAt (σ := Nat × Nat × MsnT) (fun zz => (fun (d : Nat) (i : Nat) (t4 : MsnT) => i ≤ pl ∧ d = 10 ^ (pl - 1 - i) ∧ t4 = tSay n pl b t0 i ∧ tPl t4 = pl) zz.1 zz.2.1 zz.2.2) (fun zz => (fun (d : Nat) (i : Nat) (t4 : MsnT) => pl - i) zz.1 zz.2.1 zz.2.2) (fun zz => (fun (d : Nat) (i : Nat) (t4 : MsnT) => wT ad f cI t4 m) zz.1 zz.2.1 zz.2.2) (fun zz => (fun (d : Nat) (i : Nat) (t4 : MsnT) => [(0, .ref (ad f)), (1, .int (nI n)), (2, .int (nI b)), (3, .int (nI d)), (4, .int (nI i))]) zz.1 zz.2.1 zz.2.2) ?_ (d, 0, t0) ⟨Nat.zero_le _, (by obtain ⟨h1, h2, h3⟩ := ha_74; rw [h3, show j = pl by omega]; rfl), rfl, hP0⟩ rfl [1, 2, 3, 4, 0] rfl
        intro zz ha_121 ih_121
        obtain ⟨d, i, t4⟩ := zz
        replace ha_121 : i ≤ pl ∧ d = 10 ^ (pl - 1 - i) ∧ t4 = tSay n pl b t0 i ∧ tPl t4 = pl := ha_121
        refine ek_cast (w' := wT ad f cI t4 m) rfl ?_
        refine ek_castL (lv' := [(0, .ref (ad f)), (1, .int (nI n)), (2, .int (nI b)), (3, .int (nI d)), (4, .int (nI i))]) rfl ?_
        have hS4 := tSay_ok (b := b) hT0 hR0 hpl6 (fun i hi => hdg i (by omega)) i ha_121.1
        rw [← ha_121.2.2.1] at hS4
        have hp4 := tPot_le t4
        have hw4 := hS4.1.2
        have hr4 := hS4.2
        have hd5 : d ≤ 100000 := by rw [ha_121.2.1]; exact Nat.pow_le_pow_right (n := 10) (by omega) (show pl - 1 - i ≤ 5 by omega)
        have hd1 : 1 ≤ d := by rw [ha_121.2.1]; exact Nat.pow_pos (by omega)
        have hib : i ≤ 6 → i * b ≤ 120 := fun h => Nat.mul_le_mul h hb
        have hpl4 := ha_121.2.2.2
        refine ek_il X 4 rfl dX5_say_121 ?_
        refine ek_aln X 0 rfl dX5_say_123 ?_
        refine ek_get X hin_X5_say_X5 0 rfl rfl 1 (by decide) (List.mem_of_getElem? (i := 2) rfl) rfl dX5_say_124 ?_
        refine ek_Nge X (by omega) (by omega) 164 (by decide) dX5_say_127 (fun c_127 => ?_) (fun c_127 => ?_)
        · skip
          refine ek_loopAt (σ := MsnT) (fun zz => (fun (t5 : MsnT) => tOk m t5 ∧ ∃ f9, 629 - tPot t5 + tWa t5 ≤ f9 ∧ tLoop m f9 t5 = tThrough m n b t) zz) (fun zz => (fun (t5 : MsnT) => 629 - tPot t5 + tWa t5) zz) (fun zz => (fun (t5 : MsnT) => wT ad f cI t5 m) zz) (fun zz => (fun (t5 : MsnT) => [(0, .ref (ad f))]) zz) ?_ (t4) ⟨hS4.1, 629, by omega, by rw [ha_121.2.2.1, hz0, show i = dgs 6 n by omega, hpl]; rfl⟩ rfl [0] rfl
          intro zz ha_164 ih_164
          obtain ⟨t5, rfl⟩ : ∃ z, z = zz := ⟨_, rfl⟩
          replace ha_164 : tOk m t5 ∧ ∃ f9, 629 - tPot t5 + tWa t5 ≤ f9 ∧ tLoop m f9 t5 = tThrough m n b t := ha_164
          refine ek_cast (w' := wT ad f cI t5 m) rfl ?_
          refine ek_castL (lv' := [(0, .ref (ad f))]) rfl ?_
          have hT5 := ha_164.1
          obtain ⟨_, hw5⟩ := id hT5
          have hp5 := tPot_le t5
          have hr5 := hT5.1.1.1
          refine ek_aln X 0 rfl dX5_say_164 ?_
          refine ek_get X hin_X5_say_X5 0 rfl rfl 7 (by decide) (List.mem_of_getElem? (i := 8) rfl) rfl dX5_say_165 ?_
          refine ek_Zle X (by omega) 206 (by decide) dX5_say_168 (fun c_168 => ?_) (fun c_168 => ?_)
          · skip
            exact ek_retv X () ⟨rfl, trivial⟩ (by obtain ⟨h1, f9, h2, h4⟩ := ha_164; rw [← h4, tLoop_0 _ _ _ (by omega)]) dX5_say_206
          · skip
            refine ek_aln X 0 rfl dX5_say_171 ?_
            refine ek_dup X rfl dX5_say_172 ?_
            refine ek_get X hin_X5_say_X5 0 rfl rfl 7 (by decide) (List.mem_of_getElem? (i := 8) rfl) rfl dX5_say_173 ?_
            refine ek_ic (v := nI 1) X (by decide) dX5_say_176 ?_
            refine ek_Nsub X (by omega) dX5_say_177 ?_
            refine ek_put (w' := wT ad f cI ((tOd t5, tPw t5, tPc t5, tSy t5), (tTh t5, tBa t5, tFi t5, tHe t5), ((tWa t5) - 1, tRu t5, tCl t5, tK t5), (tCt t5, tOr t5, tLa t5, tLt t5), (tWo t5, tPl t5, tCh t5, tWi t5)) m) X hin_X5_say_X5 tyX5 tyX5_ok nmX5 0 rfl rfl 7 (by decide) (List.mem_of_getElem? (i := 8) rfl) rfl rfl rfl rfl (Nat.le_of_ble_eq_true rfl) rfl dX5_say_178 ?_
            refine ek_aln X 0 rfl dX5_say_181 ?_
            refine ek_aln X 0 rfl dX5_say_182 ?_
            refine ek_get X hin_X5_say_X5 0 rfl rfl 18 (by decide) (List.mem_of_getElem? (i := 15) rfl) rfl dX5_say_183 ?_
            refine ek_aln X 0 rfl dX5_say_186 ?_
            refine ek_get X hin_X5_say_X5 0 rfl rfl 7 (by decide) (List.mem_of_getElem? (i := 8) rfl) rfl dX5_say_187 ?_
            refine ek_top (v' := nI ((tWa t5) - 1)) rfl ?_
            refine ek_ald X 7 0 rfl rfl (by omega) (by omega) dX5_say_190 ?_
            refine ek_top (v' := nI ((tOd t5) ((tWa t5) - 1))) rfl ?_
            refine ek_aln X 0 rfl dX5_say_191 ?_
            refine ek_get X hin_X5_say_X5 0 rfl rfl 19 (by decide) (List.mem_of_getElem? (i := 16) rfl) rfl dX5_say_192 ?_
            refine ek_aln X 0 rfl dX5_say_195 ?_
            refine ek_get X hin_X5_say_X5 0 rfl rfl 7 (by decide) (List.mem_of_getElem? (i := 8) rfl) rfl dX5_say_196 ?_
            refine ek_top (v' := nI ((tWa t5) - 1)) rfl ?_
            refine ek_ald X 8 0 rfl rfl (by omega) (by omega) dX5_say_199 ?_
            refine ek_top (v' := nI ((tPw t5) ((tWa t5) - 1))) rfl ?_
            refine ek_doWv X (ek_runV (As := [.int (nI ((tOd t5) ((tWa t5) - 1))), .int (nI ((tPw t5) ((tWa t5) - 1)))]) (rest := []) X (c_X5_arrive l D cI cJ cR ad f m (((tOd t5, tPw t5, tPc t5, tSy t5), (tTh t5, tBa t5, tFi t5, tHe t5), ((tWa t5) - 1, tRu t5, tCl t5, tK t5), (tCt t5, tOr t5, tLa t5, tLt t5), (tWo t5, tPl t5, tCh t5, tWi t5))) hM (tDec_ok hT5) ((tOd t5) ((tWa t5) - 1)) ((tPw t5) ((tWa t5) - 1)) (hT5.1.2.2.2.2.2.2.2.1 _ (by omega)) (hT5.1.2.2.2.2.2.2.2.2.1 _)) gX5_say_X5_arrive rfl hdV_X5_arrive ⟨Nat.le_of_ble_eq_true rfl, Nat.le_of_ble_eq_true rfl⟩ ⟨Nat.le_of_ble_eq_true rfl, Nat.le_of_ble_eq_true rfl⟩ [0, 1, 2, 3, 4, 5, 6, 7, 8, 9, 10, 11] rfl (by decide) 0 5 rfl rfl (Nat.le_of_ble_eq_true rfl) dX5_say_200) [0, 1, 2, 3, 4, 5, 6, 7, 8, 9, 10, 11] [] rfl rfl (by decide) (by decide) (fun _ => wT ad f cI (tArr m ((tOd t5) ((tWa t5) - 1)) ((tPw t5) ((tWa t5) - 1)) (((tOd t5, tPw t5, tPc t5, tSy t5), (tTh t5, tBa t5, tFi t5, tHe t5), ((tWa t5) - 1, tRu t5, tCl t5, tK t5), (tCt t5, tOr t5, tLa t5, tLt t5), (tWo t5, tPl t5, tCh t5, tWi t5)))) m) [0, 1, 2, 3, 4, 5, 6, 7, 8, 9, 10, 11] (by decide) (fun _ => rfl) (fun u_200 hv_200 => ?_)
            refine ek_goto X 164 (by decide) dX5_say_203 ?_
            refine ek_re [0] rfl ?_
            exact ih_164 ((tArr m ((tOd t5) ((tWa t5) - 1)) ((tPw t5) ((tWa t5) - 1)) (((tOd t5, tPw t5, tPc t5, tSy t5), (tTh t5, tBa t5, tFi t5, tHe t5), ((tWa t5) - 1, tRu t5, tCl t5, tK t5), (tCt t5, tOr t5, tLa t5, tLt t5), (tWo t5, tPl t5, tCh t5, tWi t5))))) (show tOk m ((tArr m ((tOd t5) ((tWa t5) - 1)) ((tPw t5) ((tWa t5) - 1)) (((tOd t5, tPw t5, tPc t5, tSy t5), (tTh t5, tBa t5, tFi t5, tHe t5), ((tWa t5) - 1, tRu t5, tCl t5, tK t5), (tCt t5, tOr t5, tLa t5, tLt t5), (tWo t5, tPl t5, tCh t5, tWi t5))))) ∧ ∃ f9, 629 - tPot ((tArr m ((tOd t5) ((tWa t5) - 1)) ((tPw t5) ((tWa t5) - 1)) (((tOd t5, tPw t5, tPc t5, tSy t5), (tTh t5, tBa t5, tFi t5, tHe t5), ((tWa t5) - 1, tRu t5, tCl t5, tK t5), (tCt t5, tOr t5, tLa t5, tLt t5), (tWo t5, tPl t5, tCh t5, tWi t5))))) + tWa ((tArr m ((tOd t5) ((tWa t5) - 1)) ((tPw t5) ((tWa t5) - 1)) (((tOd t5, tPw t5, tPc t5, tSy t5), (tTh t5, tBa t5, tFi t5, tHe t5), ((tWa t5) - 1, tRu t5, tCl t5, tK t5), (tCt t5, tOr t5, tLa t5, tLt t5), (tWo t5, tPl t5, tCh t5, tWi t5))))) ≤ f9 ∧ tLoop m f9 ((tArr m ((tOd t5) ((tWa t5) - 1)) ((tPw t5) ((tWa t5) - 1)) (((tOd t5, tPw t5, tPc t5, tSy t5), (tTh t5, tBa t5, tFi t5, tHe t5), ((tWa t5) - 1, tRu t5, tCl t5, tK t5), (tCt t5, tOr t5, tLa t5, tLt t5), (tWo t5, tPl t5, tCh t5, tWi t5))))) = tThrough m n b t from (by obtain ⟨h1, f9, h2, h4⟩ := ha_164; have h5 := tStep_ok hM h1 (by omega); obtain ⟨f8, rfl⟩ : ∃ a, f9 = a + 1 := ⟨f9 - 1, by omega⟩; exact ⟨h5.1, f8, Nat.le_of_lt_succ (Nat.lt_of_lt_of_le h5.2 h2), by rw [← h4]; exact (if_neg (by omega)).symm⟩)) (tStep_ok hM hT5 (by omega)).2
        · skip
          refine ek_aln X 0 rfl dX5_say_130 ?_
          refine ek_il X 4 rfl dX5_say_131 ?_
          refine ek_iln X 2 rfl dX5_say_133 ?_
          refine ek_Nmul X dX5_say_134 ?_
          refine ek_ic (v := nI 0) X (by decide) dX5_say_135 ?_
          refine ek_il X 4 rfl dX5_say_136 ?_
          refine ek_iln X 1 rfl dX5_say_138 ?_
          refine ek_iln X 3 rfl dX5_say_139 ?_
          refine ek_Ndiv X (by omega) (by omega) (by omega) dX5_say_140 ?_
          refine ek_bp (v := nI 10) X (by decide) dX5_say_141 ?_
          refine ek_Nrem X (Nat.lt_of_le_of_lt (Nat.div_le_self _ _) (by omega)) (by omega) (by omega) dX5_say_143 ?_
          refine ek_bp (v := nI 100) X (by decide) dX5_say_144 ?_
          refine ek_doWv X (ek_runV (As := [.int (nI (i * b)), .int (nI 0), .int (nI i), .int (nI ((n / d) % 10)), .int (nI 100)]) (rest := []) X (c_X5_start l D cI cJ cR ad f m t4 hM (i * b) 0 i ((n / d) % 10) 100 (by have := hib (by omega); omega) (by omega) (by omega) (by omega) (hS4.1.1.2.2.2.2.2.2.1)) gX5_say_X5_start rfl hdV_X5_start ⟨Nat.le_of_ble_eq_true rfl, Nat.le_of_ble_eq_true rfl⟩ ⟨Nat.le_of_ble_eq_true rfl, Nat.le_of_ble_eq_true rfl⟩ [0, 1, 2, 3, 4, 5, 6, 7, 8, 9, 10, 11] rfl (by decide) 0 5 rfl rfl (Nat.le_of_ble_eq_true rfl) dX5_say_146) [0, 1, 2, 3, 4, 5, 6, 7, 8, 9, 10, 11] [] rfl rfl (by decide) (by decide) (fun _ => wT ad f cI (tStart (i * b) 0 i ((n / d) % 10) 100 t4) m) [0, 1, 2, 3, 4, 5, 6, 7, 8, 9, 10, 11] (by decide) (fun _ => rfl) (fun u_146 hv_146 => ?_)
          refine ek_ic (v := nI 1) X (by decide) dX5_say_149 ?_
          refine ek_iln X 3 rfl dX5_say_150 ?_
          refine ek_bp (v := nI 10) X (by decide) dX5_say_151 ?_
          refine ek_Ndiv X (by omega) (by omega) (by omega) dX5_say_153 ?_
          refine ek_mmax X (List.mem_of_getElem? (i := 11) rfl) (List.mem_of_getElem? (i := 12) rfl) (List.mem_of_getElem? (i := 13) rfl) (List.mem_of_getElem? (i := 14) rfl) (by decide) (Nat.le_of_ble_eq_true rfl) (by decide) dX5_say_154 ?_
          refine ek_top (v' := nI (max 1 (d / 10))) (e_max _ _ (by omega) (by omega)) ?_
          refine ek_isn (lv' := [(3, .int (nI (max 1 (d / 10)))), (0, .ref (ad f)), (1, .int (nI n)), (2, .int (nI b)), (4, .int (nI i))]) X (by decide) rfl dX5_say_157 ?_
          refine ek_Ninc (j := 4) (d := 1) (lv' := [(4, .int (nI (i + 1))), (3, .int (nI (max 1 (d / 10)))), (0, .ref (ad f)), (1, .int (nI n)), (2, .int (nI b))]) X rfl (by decide) rfl dX5_say_158 ?_
          refine ek_goto X 121 (by decide) dX5_say_161 ?_
          refine ek_re [2, 3, 4, 1, 0] rfl ?_
          exact ih_121 (max 1 (d / 10), i + 1, (tStart (i * b) 0 i ((n / d) % 10) 100 t4)) (show (i + 1) ≤ pl ∧ (max 1 (d / 10)) = 10 ^ (pl - 1 - (i + 1)) ∧ ((tStart (i * b) 0 i ((n / d) % 10) 100 t4)) = tSay n pl b t0 (i + 1) ∧ tPl ((tStart (i * b) 0 i ((n / d) % 10) 100 t4)) = pl from (by obtain ⟨h1, h2, h3, h4⟩ := ha_121; refine ⟨by omega, ?_, ?_, ?_⟩; (rw [h2, pw_step, show pl - 1 - (i + 1) = pl - 1 - i - 1 by omega]); (show _ = tStart (i * b) 0 i (n / 10 ^ (pl - 1 - i) % 10) 100 (tSay n pl b t0 i); rw [← h3, ← h2]); exact (tStart_pl _ _ _ _ _ _).trans h4)) (by show pl - (i + 1) < pl - i; omega)
      · skip
        refine ek_aln X 0 rfl dX5_say_104 ?_
        refine ek_get X hin_X5_say_X5 0 rfl rfl 12 (by decide) (List.mem_of_getElem? (i := 10) rfl) rfl dX5_say_105 ?_
        refine ek_il X 4 rfl dX5_say_108 ?_
        refine ek_ic (v := -1) X (by decide) dX5_say_110 ?_
        refine ek_ast (w' := wT ad f cI ((tOd t, tPw t, tPc t, tSy t), (tTh t, tBa t, eN fi q (-1), tHe t), (0, 0, 0, 0), (0, 0, -1, tLt t), (n, pl, tCh t, tWi t)) m) X 1 0 rfl rfl (by omega) (by omega) rfl dX5_say_111 ?_
        refine ek_Ninc (j := 4) (d := 1) (lv' := [(4, .int (nI (q + 1))), (0, .ref (ad f)), (1, .int (nI n)), (2, .int (nI b)), (3, .int (nI d))]) X rfl (by decide) rfl dX5_say_112 ?_
        refine ek_goto X 97 (by decide) dX5_say_115 ?_
        refine ek_re [1, 2, 3, 4, 0] rfl ?_
        exact ih_97 (q + 1, eN fi q (-1)) (show (q + 1) ≤ 6 ∧ (eN fi q (-1)) = eFill (q + 1) (-1) (tFi t) from (by obtain ⟨h1, h2⟩ := ha_97; exact ⟨by omega, by rw [h2]; exact eFill_s _ _ _⟩)) (by show 6 - (q + 1) < 6 - q; omega)
    · skip
      refine ek_iln X 3 rfl dX5_say_83 ?_
      refine ek_bp (v := nI 10) X (by decide) dX5_say_84 ?_
      refine ek_Nmul X dX5_say_86 ?_
      refine ek_isn (lv' := [(3, .int (nI (d * 10))), (0, .ref (ad f)), (1, .int (nI n)), (2, .int (nI b)), (4, .int (nI j))]) X (by decide) rfl dX5_say_87 ?_
      refine ek_Ninc (j := 4) (d := 1) (lv' := [(4, .int (nI (j + 1))), (3, .int (nI (d * 10))), (0, .ref (ad f)), (1, .int (nI n)), (2, .int (nI b))]) X rfl (by decide) rfl dX5_say_88 ?_
      refine ek_goto X 74 (by decide) dX5_say_91 ?_
      refine ek_re [2, 3, 4, 1, 0] rfl ?_
      exact ih_74 (d * 10, j + 1) (show 1 ≤ (j + 1) ∧ (j + 1) ≤ pl ∧ (d * 10) = 10 ^ ((j + 1) - 1) from (by obtain ⟨h1, h2, h3⟩ := ha_74; refine ⟨by omega, by omega, ?_⟩; rw [h3, show j + 1 - 1 = (j - 1) + 1 by omega, Nat.pow_succ])) (by show pl - (j + 1) < pl - j; omega)
  · skip
    refine ek_aln X 0 rfl dX5_say_51 ?_
    refine ek_dup X rfl dX5_say_52 ?_
    refine ek_get X hin_X5_say_X5 0 rfl rfl 1 (by decide) (List.mem_of_getElem? (i := 2) rfl) rfl dX5_say_53 ?_
    refine ek_top (v' := nI pl) rfl ?_
    refine ek_ic (v := nI 1) X (by decide) dX5_say_56 ?_
    refine ek_Nadd X dX5_say_57 ?_
    refine ek_put (w' := wT ad f cI ((tOd t, tPw t, tPc t, tSy t), (tTh t, tBa t, tFi t, tHe t), (0, 0, 0, 0), (0, 0, -1, tLt t), (n, pl + 1, tCh t, tWi t)) m) X hin_X5_say_X5 tyX5 tyX5_ok nmX5 0 rfl rfl 1 (by decide) (List.mem_of_getElem? (i := 2) rfl) rfl rfl rfl rfl (Nat.le_of_ble_eq_true rfl) rfl dX5_say_58 ?_
    refine ek_iln X 3 rfl dX5_say_61 ?_
    refine ek_bp (v := nI 10) X (by decide) dX5_say_62 ?_
    refine ek_Ndiv X (by omega) (by omega) (by omega) dX5_say_64 ?_
    refine ek_isn (lv' := [(3, .int (nI (left / 10))), (0, .ref (ad f)), (1, .int (nI n)), (2, .int (nI b))]) X (by decide) rfl dX5_say_65 ?_
    refine ek_goto X 47 (by decide) dX5_say_66 ?_
    refine ek_re [1, 2, 3, 0] rfl ?_
    exact ih_47 (left / 10, pl + 1) (show (pl + 1) ≤ 6 ∧ (left / 10) < 10 ^ (6 - (pl + 1)) ∧ (pl + 1) + dgs (6 - (pl + 1)) (left / 10) = dgs 6 n from (by obtain ⟨h1, h2, h3⟩ := ha_47; have h4 := hl7 (by omega); rw [show 6 - pl = (6 - (pl + 1)) + 1 by omega] at h2 h3; refine ⟨by omega, ?_, ?_⟩; (rw [Nat.pow_succ] at h2; omega); rw [← h3]; rw [show dgs ((6 - (pl + 1)) + 1) left = dgs (6 - (pl + 1)) (left / 10) + 1 from if_pos (by omega)]; omega)) (by have := hl7 (by omega); show 6 - (pl + 1) < 6 - pl; omega)

theorem hin_X5_isInOrder_X5 : ∀ x ∈ wsX50, x ∈ wsX5_isInOrder := fun x h => List.mem_cons_of_mem _ (List.mem_append_right _ h)
abbrev rm_X5_isInOrder : Room := { frames := 1, cells := 0, slots := 0, locals := 12 }
set_option maxHeartbeats 4000000 in
set_option maxRecDepth 100000 in
theorem c_X5_isInOrder (l : Launch) (D : va_G) (cI cJ cR : ClassId) (ad : Nat → Nat) (f : Nat) (m : MdlT) (t : MsnT) (hM : mOk m) (hT : tBase t)  : ek_R l yX5_isInOrder wsX5_isInOrder rm_X5_isInOrder D (tyW cI cJ cR) nestW [.ref (ad f)] (wT ad f cI t m) (fun r9 => ∃ v : Int32, r9 = some (.int v) ∧ v = nI (if 0 < tPl t ∧ tOr t = tPl t then 1 else 0)) := by
  refine ek_R.of (cc := cX5_isInOrder) (maxL := 1) (ret := (some .boolean)) (by decide) rfl (Nat.le_of_ble_eq_true rfl) ?_
  intro p9 e9 s9 m9 args9 below9 meth9 c9 X
  obtain ⟨-, -, -, -, -, -, ⟨tk1, tk2, tk3⟩, -, -, -, tpl⟩ := id hT
  refine ek_castL (lv' := [(0, .ref (ad f))]) rfl ?_
  refine ek_aln X 0 rfl dX5_isInOrder_0 ?_
  refine ek_get X hin_X5_isInOrder_X5 0 rfl rfl 1 (by decide) (List.mem_of_getElem? (i := 1) rfl) rfl dX5_isInOrder_1 ?_
  refine ek_Zle X (by omega) 22 (by decide) dX5_isInOrder_4 (fun c_4 => ?_) (fun c_4 => ?_)
  · skip
    refine ek_ic (v := nI 0) X (by decide) dX5_isInOrder_22 ?_
    exact ek_retzR X (by decide) ⟨_, rfl, (by first | exact (congrArg nI (if_pos (by omega))).symm | exact (congrArg nI (if_neg (by omega))).symm)⟩ dX5_isInOrder_23
  · skip
    refine ek_aln X 0 rfl dX5_isInOrder_7 ?_
    refine ek_get X hin_X5_isInOrder_X5 0 rfl rfl 5 (by decide) (List.mem_of_getElem? (i := 2) rfl) rfl dX5_isInOrder_8 ?_
    refine ek_aln X 0 rfl dX5_isInOrder_11 ?_
    refine ek_get X hin_X5_isInOrder_X5 0 rfl rfl 1 (by decide) (List.mem_of_getElem? (i := 1) rfl) rfl dX5_isInOrder_12 ?_
    refine ek_Nne X (by omega) (by omega) 22 (by decide) dX5_isInOrder_15 (fun c_15 => ?_) (fun c_15 => ?_)
    · skip
      refine ek_ic (v := nI 0) X (by decide) dX5_isInOrder_22 ?_
      exact ek_retzR X (by decide) ⟨_, rfl, (by first | exact (congrArg nI (if_pos (by omega))).symm | exact (congrArg nI (if_neg (by omega))).symm)⟩ dX5_isInOrder_23
    · skip
      refine ek_ic (v := nI 1) X (by decide) dX5_isInOrder_18 ?_
      refine ek_goto X 23 (by decide) dX5_isInOrder_19 ?_
      exact ek_retzR X (by decide) ⟨_, rfl, (by first | exact (congrArg nI (if_pos (by omega))).symm | exact (congrArg nI (if_neg (by omega))).symm)⟩ dX5_isInOrder_23
