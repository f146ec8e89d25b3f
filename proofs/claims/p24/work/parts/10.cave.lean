/-! ===== EchoCave.isWithin ===== -/

abbrev rm_X4_isWithin : Room := { frames := 1, cells := 0, slots := 0, locals := 12 }
set_option maxHeartbeats 4000000 in
set_option maxRecDepth 100000 in
/-- lo ≤ x ≤ hi -/
theorem c_X4_isWithin (l : Launch) (D : va_G) (cI cJ cR : ClassId) (x lo hi : Int32) : ek_R l yX4_isWithin wsX4_isWithin rm_X4_isWithin D (tyW cI cJ cR) nestW [.int x, .int lo, .int hi] ([]) (fun r9 => ∃ v : Int32, r9 = some (.int v) ∧ v = nI (if lo ≤ x ∧ x ≤ hi then 1 else 0)) := by
  refine ek_R.of (cc := cX4_isWithin) (maxL := 3) (ret := (some .boolean)) (by decide) rfl (Nat.le_of_ble_eq_true rfl) ?_
  intro p9 e9 s9 m9 args9 below9 meth9 c9 X
  refine ek_castL (lv' := [(0, .int x), (1, .int lo), (2, .int hi)]) rfl ?_
  refine ek_iln X 1 rfl dX4_isWithin_0 ?_
  refine ek_iln X 0 rfl dX4_isWithin_1 ?_
  refine ek_icmp_gt X 14 (by decide) dX4_isWithin_2 (fun c_2 => ?_) (fun c_2 => ?_)
  · skip
    refine ek_ic (v := nI 0) X (by decide) dX4_isWithin_14 ?_
    exact ek_retzR X (by decide) ⟨_, rfl, (by first | exact (congrArg nI (if_pos ⟨Int32.not_lt.mp c_2, Int32.not_lt.mp c_7⟩)).symm | exact (congrArg nI (if_neg (fun h => Int32.not_lt.mpr h.1 c_2))).symm | exact (congrArg nI (if_neg (fun h => Int32.not_lt.mpr h.2 c_7))).symm)⟩ dX4_isWithin_15
  · skip
    refine ek_iln X 0 rfl dX4_isWithin_5 ?_
    refine ek_iln X 2 rfl dX4_isWithin_6 ?_
    refine ek_icmp_gt X 14 (by decide) dX4_isWithin_7 (fun c_7 => ?_) (fun c_7 => ?_)
    · skip
      refine ek_ic (v := nI 0) X (by decide) dX4_isWithin_14 ?_
      exact ek_retzR X (by decide) ⟨_, rfl, (by first | exact (congrArg nI (if_pos ⟨Int32.not_lt.mp c_2, Int32.not_lt.mp c_7⟩)).symm | exact (congrArg nI (if_neg (fun h => Int32.not_lt.mpr h.1 c_2))).symm | exact (congrArg nI (if_neg (fun h => Int32.not_lt.mpr h.2 c_7))).symm)⟩ dX4_isWithin_15
    · skip
      refine ek_ic (v := nI 1) X (by decide) dX4_isWithin_10 ?_
      refine ek_goto X 15 (by decide) dX4_isWithin_11 ?_
      exact ek_retzR X (by decide) ⟨_, rfl, (by first | exact (congrArg nI (if_pos ⟨Int32.not_lt.mp c_2, Int32.not_lt.mp c_7⟩)).symm | exact (congrArg nI (if_neg (fun h => Int32.not_lt.mpr h.1 c_2))).symm | exact (congrArg nI (if_neg (fun h => Int32.not_lt.mpr h.2 c_7))).symm)⟩ dX4_isWithin_15

/-! ===== EchoCave.Cave ===== -/
abbrev cOth (u : CaveT) (i c : Nat) : Nat := if cFrm u i = c then cTo u i else cFrm u i
abbrev cBeh (u : CaveT) (i z : Nat) : Nat := z * (90 - 5 * cNar u i) / 100
abbrev cOpen (u : CaveT) (i : Nat) : Prop := cW u ≤ cHgt u (cFrm u i) ∧ cW u ≤ cHgt u (cTo u i)

theorem hin_X0_hasChamber_X0 : ∀ x ∈ wsX00, x ∈ wsX0_hasChamber := fun x h => List.mem_cons_of_mem _ (List.mem_append_right _ h)
set_option maxRecDepth 20000 in
theorem gn_X0_hasChamber_X4_isWithin : GoodIn wsX0_hasChamber wsX4_isWithin := goodIn_r _ [4] (by decide +kernel) (by decide +kernel)
abbrev rm_X0_hasChamber : Room := { frames := 2, cells := 0, slots := 0, locals := 34 }
set_option maxHeartbeats 4000000 in
set_option maxRecDepth 100000 in
theorem c_X0_hasChamber (l : Launch) (D : va_G) (cI cJ cR : ClassId) (ad : Nat → Nat) (u : CaveT) (hB : cOk u) (x : Int32) : ek_R l yX0_hasChamber wsX0_hasChamber rm_X0_hasChamber D (tyW cI cJ cR) nestW [.ref (ad 0), .int x] (wC ad cI cR u) (fun r9 => ∃ v : Int32, r9 = some (.int v) ∧ v = nI (if nI 0 ≤ x ∧ x ≤ nI (cC u - 1) then 1 else 0)) := by
  refine ek_R.of (cc := cX0_hasChamber) (maxL := 2) (ret := (some .boolean)) (by decide) rfl (Nat.le_of_ble_eq_true rfl) ?_
  intro p9 e9 s9 m9 args9 below9 meth9 c9 X
  obtain ⟨⟨hC1, hC2⟩, hPs, hWt, bWal, bHgt, bBat, bSyl, bDel, bDrs, bFrm, bTo, bLen, bNar, bPb⟩ := id hB
  refine ek_castL (lv' := [(0, .ref (ad 0)), (1, .int x)]) rfl ?_
  refine ek_iln X 1 rfl dX0_hasChamber_0 ?_
  refine ek_ic (v := nI 0) X (by decide) dX0_hasChamber_1 ?_
  refine ek_aln X 0 rfl dX0_hasChamber_2 ?_
  refine ek_get X hin_X0_hasChamber_X0 0 rfl rfl 0 (by decide) (List.mem_of_getElem? (i := 1) rfl) rfl dX0_hasChamber_3 ?_
  refine ek_ic (v := nI 1) X (by decide) dX0_hasChamber_6 ?_
  refine ek_Nsub X (by omega) dX0_hasChamber_7 ?_
  refine ek_doRi (ek_runSN (As := [.int x, .int (nI 0), .int (nI ((cC u) - 1))]) (rest := []) X (c_X4_isWithin l D cI cJ cR (x) (nI 0) (nI ((cC u) - 1))) gn_X0_hasChamber_X4_isWithin rfl (List.mem_of_getElem? (i := 19) rfl) (List.mem_of_getElem? (i := 3) rfl) (List.mem_of_getElem? (i := 2) rfl) hd_X4_isWithin ⟨Nat.le_of_ble_eq_true rfl, Nat.le_of_ble_eq_true rfl⟩ ⟨Nat.le_of_ble_eq_true rfl, Nat.le_of_ble_eq_true rfl⟩ [] rfl (by decide) (Nat.le_of_ble_eq_true rfl) dX0_hasChamber_8) (fun v_8 hv_8 => ?_)
  subst hv_8
  by_cases c_8 : nI 0 ≤ x ∧ x ≤ nI ((cC u) - 1)
  · refine ek_top (v' := nI 1) (congrArg nI (if_pos c_8)) ?_
    exact ek_retzR X (by decide) ⟨_, rfl, (by first | exact (congrArg nI (if_pos (by assumption))).symm | exact (congrArg nI (if_neg (by assumption))).symm)⟩ dX0_hasChamber_11
  · refine ek_top (v' := nI 0) (congrArg nI (if_neg c_8)) ?_
    exact ek_retzR X (by decide) ⟨_, rfl, (by first | exact (congrArg nI (if_pos (by assumption))).symm | exact (congrArg nI (if_neg (by assumption))).symm)⟩ dX0_hasChamber_11

theorem hin_X0_hasPassage_X0 : ∀ x ∈ wsX00, x ∈ wsX0_hasPassage := fun x h => List.mem_cons_of_mem _ (List.mem_append_right _ h)
set_option maxRecDepth 20000 in
theorem gn_X0_hasPassage_X4_isWithin : GoodIn wsX0_hasPassage wsX4_isWithin := goodIn_r _ [4] (by decide +kernel) (by decide +kernel)
abbrev rm_X0_hasPassage : Room := { frames := 2, cells := 0, slots := 0, locals := 34 }
set_option maxHeartbeats 4000000 in
set_option maxRecDepth 100000 in
theorem c_X0_hasPassage (l : Launch) (D : va_G) (cI cJ cR : ClassId) (ad : Nat → Nat) (u : CaveT) (hB : cOk u) (hP1 : 1 ≤ cP u) (x : Int32) : ek_R l yX0_hasPassage wsX0_hasPassage rm_X0_hasPassage D (tyW cI cJ cR) nestW [.ref (ad 0), .int x] (wC ad cI cR u) (fun r9 => ∃ v : Int32, r9 = some (.int v) ∧ v = nI (if nI 0 ≤ x ∧ x ≤ nI (cP u - 1) then 1 else 0)) := by
  refine ek_R.of (cc := cX0_hasPassage) (maxL := 2) (ret := (some .boolean)) (by decide) rfl (Nat.le_of_ble_eq_true rfl) ?_
  intro p9 e9 s9 m9 args9 below9 meth9 c9 X
  obtain ⟨⟨hC1, hC2⟩, hPs, hWt, bWal, bHgt, bBat, bSyl, bDel, bDrs, bFrm, bTo, bLen, bNar, bPb⟩ := id hB
  refine ek_castL (lv' := [(0, .ref (ad 0)), (1, .int x)]) rfl ?_
  refine ek_iln X 1 rfl dX0_hasPassage_0 ?_
  refine ek_ic (v := nI 0) X (by decide) dX0_hasPassage_1 ?_
  refine ek_aln X 0 rfl dX0_hasPassage_2 ?_
  refine ek_get X hin_X0_hasPassage_X0 0 rfl rfl 8 (by decide) (List.mem_of_getElem? (i := 1) rfl) rfl dX0_hasPassage_3 ?_
  refine ek_ic (v := nI 1) X (by decide) dX0_hasPassage_6 ?_
  refine ek_Nsub X (by omega) dX0_hasPassage_7 ?_
  refine ek_doRi (ek_runSN (As := [.int x, .int (nI 0), .int (nI ((cP u) - 1))]) (rest := []) X (c_X4_isWithin l D cI cJ cR (x) (nI 0) (nI ((cP u) - 1))) gn_X0_hasPassage_X4_isWithin rfl (List.mem_of_getElem? (i := 19) rfl) (List.mem_of_getElem? (i := 3) rfl) (List.mem_of_getElem? (i := 2) rfl) hd_X4_isWithin ⟨Nat.le_of_ble_eq_true rfl, Nat.le_of_ble_eq_true rfl⟩ ⟨Nat.le_of_ble_eq_true rfl, Nat.le_of_ble_eq_true rfl⟩ [] rfl (by decide) (Nat.le_of_ble_eq_true rfl) dX0_hasPassage_8) (fun v_8 hv_8 => ?_)
  subst hv_8
  by_cases c_8 : nI 0 ≤ x ∧ x ≤ nI ((cP u) - 1)
  · refine ek_top (v' := nI 1) (congrArg nI (if_pos c_8)) ?_
    exact ek_retzR X (by decide) ⟨_, rfl, (by first | exact (congrArg nI (if_pos (by assumption))).symm | exact (congrArg nI (if_neg (by assumption))).symm)⟩ dX0_hasPassage_11
  · refine ek_top (v' := nI 0) (congrArg nI (if_neg c_8)) ?_
    exact ek_retzR X (by decide) ⟨_, rfl, (by first | exact (congrArg nI (if_pos (by assumption))).symm | exact (congrArg nI (if_neg (by assumption))).symm)⟩ dX0_hasPassage_11

theorem hin_X0_isOpen_X0 : ∀ x ∈ wsX00, x ∈ wsX0_isOpen := fun x h => List.mem_cons_of_mem _ (List.mem_append_right _ h)
abbrev rm_X0_isOpen : Room := { frames := 1, cells := 0, slots := 0, locals := 12 }
set_option maxHeartbeats 4000000 in
set_option maxRecDepth 100000 in
theorem c_X0_isOpen (l : Launch) (D : va_G) (cI cJ cR : ClassId) (ad : Nat → Nat) (u : CaveT) (hB : cOk u) (i : Nat) (hi : i < 18) : ek_R l yX0_isOpen wsX0_isOpen rm_X0_isOpen D (tyW cI cJ cR) nestW [.ref (ad 0), .int (nI i)] (wC ad cI cR u) (fun r9 => ∃ v : Int32, r9 = some (.int v) ∧ v = nI (if cOpen u i then 1 else 0)) := by
  refine ek_R.of (cc := cX0_isOpen) (maxL := 2) (ret := (some .boolean)) (by decide) rfl (Nat.le_of_ble_eq_true rfl) ?_
  intro p9 e9 s9 m9 args9 below9 meth9 c9 X
  obtain ⟨⟨hC1, hC2⟩, hPs, hWt, bWal, bHgt, bBat, bSyl, bDel, bDrs, bFrm, bTo, bLen, bNar, bPb⟩ := id hB
  refine ek_castL (lv' := [(0, .ref (ad 0)), (1, .int (nI i))]) rfl ?_
  refine ek_aln X 0 rfl dX0_isOpen_0 ?_
  refine ek_get X hin_X0_isOpen_X0 0 rfl rfl 2 (by decide) (List.mem_of_getElem? (i := 1) rfl) rfl dX0_isOpen_1 ?_
  refine ek_aln X 0 rfl dX0_isOpen_4 ?_
  refine ek_get X hin_X0_isOpen_X0 0 rfl rfl 9 (by decide) (List.mem_of_getElem? (i := 2) rfl) rfl dX0_isOpen_5 ?_
  refine ek_iln X 1 rfl dX0_isOpen_8 ?_
  refine ek_ald X 8 0 rfl rfl (by omega) (by omega) dX0_isOpen_9 ?_
  have b1_9 := bFrm i
  refine ek_ald X 2 0 rfl rfl (by omega) (by omega) dX0_isOpen_10 ?_
  have b2_10 := bHgt ((cFrm u) i)
  refine ek_aln X 0 rfl dX0_isOpen_11 ?_
  refine ek_get X hin_X0_isOpen_X0 0 rfl rfl 13 (by decide) (List.mem_of_getElem? (i := 3) rfl) rfl dX0_isOpen_12 ?_
  refine ek_Nlt X (by omega) (by omega) 40 (by decide) dX0_isOpen_15 (fun c_15 => ?_) (fun c_15 => ?_)
  · skip
    refine ek_ic (v := nI 0) X (by decide) dX0_isOpen_40 ?_
    exact ek_retzR X (by decide) ⟨_, rfl, (by first | exact (congrArg nI (if_pos (by omega))).symm | exact (congrArg nI (if_neg (by omega))).symm)⟩ dX0_isOpen_41
  · skip
    refine ek_aln X 0 rfl dX0_isOpen_18 ?_
    refine ek_get X hin_X0_isOpen_X0 0 rfl rfl 2 (by decide) (List.mem_of_getElem? (i := 1) rfl) rfl dX0_isOpen_19 ?_
    refine ek_aln X 0 rfl dX0_isOpen_22 ?_
    refine ek_get X hin_X0_isOpen_X0 0 rfl rfl 10 (by decide) (List.mem_of_getElem? (i := 4) rfl) rfl dX0_isOpen_23 ?_
    refine ek_iln X 1 rfl dX0_isOpen_26 ?_
    refine ek_ald X 9 0 rfl rfl (by omega) (by omega) dX0_isOpen_27 ?_
    have b3_27 := bTo i
    refine ek_ald X 2 0 rfl rfl (by omega) (by omega) dX0_isOpen_28 ?_
    have b4_28 := bHgt ((cTo u) i)
    refine ek_aln X 0 rfl dX0_isOpen_29 ?_
    refine ek_get X hin_X0_isOpen_X0 0 rfl rfl 13 (by decide) (List.mem_of_getElem? (i := 3) rfl) rfl dX0_isOpen_30 ?_
    refine ek_Nlt X (by omega) (by omega) 40 (by decide) dX0_isOpen_33 (fun c_33 => ?_) (fun c_33 => ?_)
    · skip
      refine ek_ic (v := nI 0) X (by decide) dX0_isOpen_40 ?_
      exact ek_retzR X (by decide) ⟨_, rfl, (by first | exact (congrArg nI (if_pos (by omega))).symm | exact (congrArg nI (if_neg (by omega))).symm)⟩ dX0_isOpen_41
    · skip
      refine ek_ic (v := nI 1) X (by decide) dX0_isOpen_36 ?_
      refine ek_goto X 41 (by decide) dX0_isOpen_37 ?_
      exact ek_retzR X (by decide) ⟨_, rfl, (by first | exact (congrArg nI (if_pos (by omega))).symm | exact (congrArg nI (if_neg (by omega))).symm)⟩ dX0_isOpen_41

theorem hin_X0_otherEnd_X0 : ∀ x ∈ wsX00, x ∈ wsX0_otherEnd := fun x h => List.mem_cons_of_mem _ (List.mem_append_right _ h)
abbrev rm_X0_otherEnd : Room := { frames := 1, cells := 0, slots := 0, locals := 12 }
set_option maxHeartbeats 4000000 in
set_option maxRecDepth 100000 in
theorem c_X0_otherEnd (l : Launch) (D : va_G) (cI cJ cR : ClassId) (ad : Nat → Nat) (u : CaveT) (hB : cOk u) (i c : Nat) (hi : i < 18) (hc : c < 12) : ek_R l yX0_otherEnd wsX0_otherEnd rm_X0_otherEnd D (tyW cI cJ cR) nestW [.ref (ad 0), .int (nI i), .int (nI c)] (wC ad cI cR u) (fun r9 => ∃ v : Int32, r9 = some (.int v) ∧ v = nI (cOth u i c)) := by
  refine ek_R.of (cc := cX0_otherEnd) (maxL := 3) (ret := (some .int)) (by decide) rfl (Nat.le_of_ble_eq_true rfl) ?_
  intro p9 e9 s9 m9 args9 below9 meth9 c9 X
  obtain ⟨⟨hC1, hC2⟩, hPs, hWt, bWal, bHgt, bBat, bSyl, bDel, bDrs, bFrm, bTo, bLen, bNar, bPb⟩ := id hB
  refine ek_castL (lv' := [(0, .ref (ad 0)), (1, .int (nI i)), (2, .int (nI c))]) rfl ?_
  refine ek_aln X 0 rfl dX0_otherEnd_0 ?_
  refine ek_get X hin_X0_otherEnd_X0 0 rfl rfl 9 (by decide) (List.mem_of_getElem? (i := 1) rfl) rfl dX0_otherEnd_1 ?_
  refine ek_iln X 1 rfl dX0_otherEnd_4 ?_
  refine ek_ald X 8 0 rfl rfl (by omega) (by omega) dX0_otherEnd_5 ?_
  have b1_5 := bFrm i
  refine ek_iln X 2 rfl dX0_otherEnd_6 ?_
  refine ek_Nne X (by omega) (by omega) 19 (by decide) dX0_otherEnd_7 (fun c_7 => ?_) (fun c_7 => ?_)
  · skip
    refine ek_aln X 0 rfl dX0_otherEnd_19 ?_
    refine ek_get X hin_X0_otherEnd_X0 0 rfl rfl 9 (by decide) (List.mem_of_getElem? (i := 1) rfl) rfl dX0_otherEnd_20 ?_
    refine ek_iln X 1 rfl dX0_otherEnd_23 ?_
    refine ek_ald X 8 0 rfl rfl (by omega) (by omega) dX0_otherEnd_24 ?_
    have b2_24 := bFrm i
    exact ek_retiR X ⟨_, rfl, (by first | exact (congrArg nI (if_pos (by omega))).symm | exact (congrArg nI (if_neg (by omega))).symm)⟩ dX0_otherEnd_25
  · skip
    refine ek_aln X 0 rfl dX0_otherEnd_10 ?_
    refine ek_get X hin_X0_otherEnd_X0 0 rfl rfl 10 (by decide) (List.mem_of_getElem? (i := 2) rfl) rfl dX0_otherEnd_11 ?_
    refine ek_iln X 1 rfl dX0_otherEnd_14 ?_
    refine ek_ald X 9 0 rfl rfl (by omega) (by omega) dX0_otherEnd_15 ?_
    have b3_15 := bTo i
    refine ek_goto X 25 (by decide) dX0_otherEnd_16 ?_
    exact ek_retiR X ⟨_, rfl, (by first | exact (congrArg nI (if_pos (by omega))).symm | exact (congrArg nI (if_neg (by omega))).symm)⟩ dX0_otherEnd_25

theorem hin_X0_drowns_X0 : ∀ x ∈ wsX00, x ∈ wsX0_drowns := fun x h => List.mem_cons_of_mem _ (List.mem_append_right _ h)
abbrev rm_X0_drowns : Room := { frames := 1, cells := 0, slots := 0, locals := 12 }
set_option maxHeartbeats 4000000 in
set_option maxRecDepth 100000 in
theorem c_X0_drowns (l : Launch) (D : va_G) (cI cJ cR : ClassId) (ad : Nat → Nat) (u : CaveT) (hB : cOk u) (c t : Nat) (hc : c < 12) (ht : t < 128) : ek_R l yX0_drowns wsX0_drowns rm_X0_drowns D (tyW cI cJ cR) nestW [.ref (ad 0), .int (nI c), .int (nI t)] (wC ad cI cR u) (fun r9 => ∃ v : Int32, r9 = some (.int v) ∧ v = nI (if t < 2 * cBat u c + 1 then 1 else 0)) := by
  refine ek_R.of (cc := cX0_drowns) (maxL := 3) (ret := (some .boolean)) (by decide) rfl (Nat.le_of_ble_eq_true rfl) ?_
  intro p9 e9 s9 m9 args9 below9 meth9 c9 X
  obtain ⟨⟨hC1, hC2⟩, hPs, hWt, bWal, bHgt, bBat, bSyl, bDel, bDrs, bFrm, bTo, bLen, bNar, bPb⟩ := id hB
  refine ek_castL (lv' := [(0, .ref (ad 0)), (1, .int (nI c)), (2, .int (nI t))]) rfl ?_
  refine ek_iln X 2 rfl dX0_drowns_0 ?_
  refine ek_ic (v := nI 2) X (by decide) dX0_drowns_1 ?_
  refine ek_aln X 0 rfl dX0_drowns_2 ?_
  refine ek_get X hin_X0_drowns_X0 0 rfl rfl 3 (by decide) (List.mem_of_getElem? (i := 1) rfl) rfl dX0_drowns_3 ?_
  refine ek_iln X 1 rfl dX0_drowns_6 ?_
  refine ek_ald X 3 0 rfl rfl (by omega) (by omega) dX0_drowns_7 ?_
  have b1_7 := bBat c
  refine ek_Nmul X dX0_drowns_8 ?_
  refine ek_ic (v := nI 1) X (by decide) dX0_drowns_9 ?_
  refine ek_Nadd X dX0_drowns_10 ?_
  refine ek_Nge X (by omega) (by omega) 18 (by decide) dX0_drowns_11 (fun c_11 => ?_) (fun c_11 => ?_)
  · skip
    refine ek_ic (v := nI 0) X (by decide) dX0_drowns_18 ?_
    exact ek_retzR X (by decide) ⟨_, rfl, (by first | exact (congrArg nI (if_pos (by omega))).symm | exact (congrArg nI (if_neg (by omega))).symm)⟩ dX0_drowns_19
  · skip
    refine ek_ic (v := nI 1) X (by decide) dX0_drowns_14 ?_
    refine ek_goto X 19 (by decide) dX0_drowns_15 ?_
    exact ek_retzR X (by decide) ⟨_, rfl, (by first | exact (congrArg nI (if_pos (by omega))).symm | exact (congrArg nI (if_neg (by omega))).symm)⟩ dX0_drowns_19

theorem hin_X0_strengthBehind_X0 : ∀ x ∈ wsX00, x ∈ wsX0_strengthBehind := fun x h => List.mem_cons_of_mem _ (List.mem_append_right _ h)
abbrev rm_X0_strengthBehind : Room := { frames := 1, cells := 0, slots := 0, locals := 12 }
set_option maxHeartbeats 4000000 in
set_option maxRecDepth 100000 in
theorem c_X0_strengthBehind (l : Launch) (D : va_G) (cI cJ cR : ClassId) (ad : Nat → Nat) (u : CaveT) (hB : cOk u) (i t : Nat) (hi : i < 18) (ht : t < 128) : ek_R l yX0_strengthBehind wsX0_strengthBehind rm_X0_strengthBehind D (tyW cI cJ cR) nestW [.ref (ad 0), .int (nI i), .int (nI t)] (wC ad cI cR u) (fun r9 => ∃ v : Int32, r9 = some (.int v) ∧ v = nI (cBeh u i t)) := by
  refine ek_R.of (cc := cX0_strengthBehind) (maxL := 3) (ret := (some .int)) (by decide) rfl (Nat.le_of_ble_eq_true rfl) ?_
  intro p9 e9 s9 m9 args9 below9 meth9 c9 X
  obtain ⟨⟨hC1, hC2⟩, hPs, hWt, bWal, bHgt, bBat, bSyl, bDel, bDrs, bFrm, bTo, bLen, bNar, bPb⟩ := id hB
  refine ek_castL (lv' := [(0, .ref (ad 0)), (1, .int (nI i)), (2, .int (nI t))]) rfl ?_
  refine ek_iln X 2 rfl dX0_strengthBehind_0 ?_
  refine ek_bp (v := nI 90) X (by decide) dX0_strengthBehind_1 ?_
  refine ek_ic (v := nI 5) X (by decide) dX0_strengthBehind_3 ?_
  refine ek_aln X 0 rfl dX0_strengthBehind_4 ?_
  refine ek_get X hin_X0_strengthBehind_X0 0 rfl rfl 12 (by decide) (List.mem_of_getElem? (i := 1) rfl) rfl dX0_strengthBehind_5 ?_
  refine ek_iln X 1 rfl dX0_strengthBehind_8 ?_
  refine ek_ald X 11 0 rfl rfl (by omega) (by omega) dX0_strengthBehind_9 ?_
  have b1_9 := bNar i
  refine ek_Nmul X dX0_strengthBehind_10 ?_
  refine ek_Nsub X (by omega) dX0_strengthBehind_11 ?_
  refine ek_Nmul X dX0_strengthBehind_12 ?_
  refine ek_bp (v := nI 100) X (by decide) dX0_strengthBehind_13 ?_
  refine ek_Ndiv X (by have := Nat.mul_le_mul (Nat.le_of_lt ht) (Nat.sub_le 90 (5 * cNar u i)); omega) (by omega) (by omega) dX0_strengthBehind_15 ?_
  exact ek_retiR X ⟨_, rfl, rfl⟩ dX0_strengthBehind_16

theorem hin_X0_strengthFromWall_X0 : ∀ x ∈ wsX00, x ∈ wsX0_strengthFromWall := fun x h => List.mem_cons_of_mem _ (List.mem_append_right _ h)
abbrev rm_X0_strengthFromWall : Room := { frames := 1, cells := 0, slots := 0, locals := 12 }
set_option maxHeartbeats 4000000 in
set_option maxRecDepth 100000 in
theorem c_X0_strengthFromWall (l : Launch) (D : va_G) (cI cJ cR : ClassId) (ad : Nat → Nat) (u : CaveT) (hB : cOk u) (c t : Nat) (hc : c < 12) (ht : t < 128) : ek_R l yX0_strengthFromWall wsX0_strengthFromWall rm_X0_strengthFromWall D (tyW cI cJ cR) nestW [.ref (ad 0), .int (nI c), .int (nI t)] (wC ad cI cR u) (fun r9 => ∃ v : Int32, r9 = some (.int v) ∧ v = nI (t * cWal u c / 100)) := by
  refine ek_R.of (cc := cX0_strengthFromWall) (maxL := 3) (ret := (some .int)) (by decide) rfl (Nat.le_of_ble_eq_true rfl) ?_
  intro p9 e9 s9 m9 args9 below9 meth9 c9 X
  obtain ⟨⟨hC1, hC2⟩, hPs, hWt, bWal, bHgt, bBat, bSyl, bDel, bDrs, bFrm, bTo, bLen, bNar, bPb⟩ := id hB
  refine ek_castL (lv' := [(0, .ref (ad 0)), (1, .int (nI c)), (2, .int (nI t))]) rfl ?_
  refine ek_iln X 2 rfl dX0_strengthFromWall_0 ?_
  refine ek_aln X 0 rfl dX0_strengthFromWall_1 ?_
  refine ek_get X hin_X0_strengthFromWall_X0 0 rfl rfl 1 (by decide) (List.mem_of_getElem? (i := 1) rfl) rfl dX0_strengthFromWall_2 ?_
  refine ek_iln X 1 rfl dX0_strengthFromWall_5 ?_
  refine ek_ald X 1 0 rfl rfl (by omega) (by omega) dX0_strengthFromWall_6 ?_
  have b1_6 := bWal c
  refine ek_Nmul X dX0_strengthFromWall_7 ?_
  refine ek_bp (v := nI 100) X (by decide) dX0_strengthFromWall_8 ?_
  refine ek_Ndiv X (by have := Nat.mul_le_mul (Nat.le_of_lt ht) (bWal c); omega) (by omega) (by omega) dX0_strengthFromWall_10 ?_
  exact ek_retiR X ⟨_, rfl, rfl⟩ dX0_strengthFromWall_11

abbrev cNOp (u : CaveT) : Nat := eC (fun i => cOpen u i) (cP u)
abbrev cNCl (u : CaveT) : Nat := eC (fun c => cSyl u c ≠ 0) (cC u)
abbrev cNOd (u : CaveT) (c : Nat) : Nat := eC (fun k => cOpen u (cPb u c k)) (cDrs u c)

theorem hin_X0_openPassages_X0 : ∀ x ∈ wsX00, x ∈ wsX0_openPassages := fun x h => List.mem_cons_of_mem _ (List.mem_append_right _ h)
abbrev rm_X0_openPassages : Room := { frames := 2, cells := 0, slots := 0, locals := 33 }
set_option maxHeartbeats 4000000 in
set_option maxRecDepth 100000 in
theorem c_X0_openPassages (l : Launch) (D : va_G) (cI cJ cR : ClassId) (ad : Nat → Nat) (u : CaveT) (hB : cOk u) : ek_R l yX0_openPassages wsX0_openPassages rm_X0_openPassages D (tyW cI cJ cR) nestW [.ref (ad 0)] (wC ad cI cR u) (fun r9 => ∃ v : Int32, r9 = some (.int v) ∧ v = nI (cNOp u)) := by
  refine ek_R.of (cc := cX0_openPassages) (maxL := 3) (ret := (some .int)) (by decide) rfl (Nat.le_of_ble_eq_true rfl) ?_
  intro p9 e9 s9 m9 args9 below9 meth9 c9 X
  obtain ⟨⟨hC1, hC2⟩, hPs, hWt, bWal, bHgt, bBat, bSyl, bDel, bDrs, bFrm, bTo, bLen, bNar, bPb⟩ := id hB
  refine ek_castL (lv' := [(0, .ref (ad 0))]) rfl ?_
  refine ek_ic (v := nI 0) X (by decide) dX0_openPassages_0 ?_
  refine ek_isn (lv' := [(1, .int (nI 0)), (0, .ref (ad 0))]) X (by decide) rfl dX0_openPassages_1 ?_
  refine ek_ic (v := nI 0) X (by decide) dX0_openPassages_2 ?_
  refine ek_isn (lv' := [(2, .int (nI 0)), (1, .int (nI 0)), (0, .ref (ad 0))]) X (by decide) rfl dX0_openPassages_3 ?_
  refine ek_loopAt (σ := Nat × Nat) (fun zz => (fun (o : Nat) (i : Nat) => i ≤ cP u ∧ o = eC (fun j9 => cOpen u j9) i) zz.1 zz.2) (fun zz => (fun (o : Nat) (i : Nat) => cP u - i) zz.1 zz.2) (fun zz => (fun (o : Nat) (i : Nat) => wC ad cI cR u) zz.1 zz.2) (fun zz => (fun (o : Nat) (i : Nat) => [(0, .ref (ad 0)), (1, .int (nI o)), (2, .int (nI i))]) zz.1 zz.2) ?_ (0, 0) ⟨Nat.zero_le _, rfl⟩ rfl [2, 1, 0] rfl
  intro zz ha_4 ih_4
  obtain ⟨o, i⟩ := zz
  replace ha_4 : i ≤ cP u ∧ o = eC (fun j9 => cOpen u j9) i := ha_4
  refine ek_cast (w' := wC ad cI cR u) rfl ?_
  refine ek_castL (lv' := [(0, .ref (ad 0)), (1, .int (nI o)), (2, .int (nI i))]) rfl ?_
  have ho_4 := eC_le (fun i => cOpen u i) i
  refine ek_iln X 2 rfl dX0_openPassages_4 ?_
  refine ek_aln X 0 rfl dX0_openPassages_5 ?_
  refine ek_get X hin_X0_openPassages_X0 0 rfl rfl 8 (by decide) (List.mem_of_getElem? (i := 1) rfl) rfl dX0_openPassages_6 ?_
  refine ek_Nge X (by omega) (by omega) 29 (by decide) dX0_openPassages_9 (fun c_9 => ?_) (fun c_9 => ?_)
  · skip
    refine ek_iln X 1 rfl dX0_openPassages_29 ?_
    exact ek_retiR X ⟨_, rfl, (by rw [ha_4.2, show i = cP u by omega])⟩ dX0_openPassages_30
  · skip
    refine ek_aln X 0 rfl dX0_openPassages_12 ?_
    refine ek_iln X 2 rfl dX0_openPassages_13 ?_
    refine ek_doRi (ek_runV (As := [.int (nI i)]) (rest := []) X (c_X0_isOpen l D cI cJ cR ad u hB i (by omega)) gX0_openPassages_X0_isOpen rfl hdV_X0_isOpen ⟨Nat.le_of_ble_eq_true rfl, Nat.le_of_ble_eq_true rfl⟩ ⟨Nat.le_of_ble_eq_true rfl, Nat.le_of_ble_eq_true rfl⟩ [0, 1, 2, 3, 4, 5, 6, 7, 8, 9, 10, 11, 12, 13, 14, 15, 16, 17, 18, 19, 20, 21, 22, 23, 24] rfl (by decide) 0 0 rfl rfl (Nat.le_of_ble_eq_true rfl) dX0_openPassages_14) (fun v_14 hv_14 => ?_)
    subst hv_14
    by_cases c_14 : cOpen u i
    · refine ek_top (v' := nI 1) (congrArg nI (if_pos c_14)) ?_
      refine ek_Zeq X (by omega) 23 (by decide) dX0_openPassages_17 (fun h => absurd h (by omega)) (fun _ => ?_)
      refine ek_Ninc (j := 1) (d := 1) (lv' := [(1, .int (nI (o + 1))), (0, .ref (ad 0)), (2, .int (nI i))]) X rfl (by decide) rfl dX0_openPassages_20 ?_
      refine ek_Ninc (j := 2) (d := 1) (lv' := [(2, .int (nI (i + 1))), (1, .int (nI (o + 1))), (0, .ref (ad 0))]) X rfl (by decide) rfl dX0_openPassages_23 ?_
      refine ek_goto X 4 (by decide) dX0_openPassages_26 ?_
      refine ek_re [2, 1, 0] rfl ?_
      exact ih_4 (o + 1, i + 1) (show (i + 1) ≤ cP u ∧ (o + 1) = eC (fun j9 => cOpen u j9) (i + 1) from (by obtain ⟨h1, h2⟩ := ha_4; exact ⟨by omega, by simp only [eC]; first | (rw [if_pos ‹_›, h2]) | (rw [if_neg ‹_›, h2]; rfl)⟩)) (by show cP u - (i + 1) < cP u - i; omega)
    · refine ek_top (v' := nI 0) (congrArg nI (if_neg c_14)) ?_
      refine ek_Zeq X (by omega) 23 (by decide) dX0_openPassages_17 (fun _ => ?_) (fun h => absurd h (by omega))
      refine ek_Ninc (j := 2) (d := 1) (lv' := [(2, .int (nI (i + 1))), (0, .ref (ad 0)), (1, .int (nI o))]) X rfl (by decide) rfl dX0_openPassages_23 ?_
      refine ek_goto X 4 (by decide) dX0_openPassages_26 ?_
      refine ek_re [1, 2, 0] rfl ?_
      exact ih_4 (o, i + 1) (show (i + 1) ≤ cP u ∧ o = eC (fun j9 => cOpen u j9) (i + 1) from (by obtain ⟨h1, h2⟩ := ha_4; exact ⟨by omega, by simp only [eC]; first | (rw [if_pos ‹_›, h2]) | (rw [if_neg ‹_›, h2]; rfl)⟩)) (by show cP u - (i + 1) < cP u - i; omega)

theorem hin_X0_clappers_X0 : ∀ x ∈ wsX00, x ∈ wsX0_clappers := fun x h => List.mem_cons_of_mem _ (List.mem_append_right _ h)
abbrev rm_X0_clappers : Room := { frames := 1, cells := 0, slots := 0, locals := 12 }
set_option maxHeartbeats 4000000 in
set_option maxRecDepth 100000 in
theorem c_X0_clappers (l : Launch) (D : va_G) (cI cJ cR : ClassId) (ad : Nat → Nat) (u : CaveT) (hB : cOk u) : ek_R l yX0_clappers wsX0_clappers rm_X0_clappers D (tyW cI cJ cR) nestW [.ref (ad 0)] (wC ad cI cR u) (fun r9 => ∃ v : Int32, r9 = some (.int v) ∧ v = nI (cNCl u)) := by
  refine ek_R.of (cc := cX0_clappers) (maxL := 3) (ret := (some .int)) (by decide) rfl (Nat.le_of_ble_eq_true rfl) ?_
  intro p9 e9 s9 m9 args9 below9 meth9 c9 X
  obtain ⟨⟨hC1, hC2⟩, hPs, hWt, bWal, bHgt, bBat, bSyl, bDel, bDrs, bFrm, bTo, bLen, bNar, bPb⟩ := id hB
  refine ek_castL (lv' := [(0, .ref (ad 0))]) rfl ?_
  refine ek_ic (v := nI 0) X (by decide) dX0_clappers_0 ?_
  refine ek_isn (lv' := [(1, .int (nI 0)), (0, .ref (ad 0))]) X (by decide) rfl dX0_clappers_1 ?_
  refine ek_ic (v := nI 0) X (by decide) dX0_clappers_2 ?_
  refine ek_isn (lv' := [(2, .int (nI 0)), (1, .int (nI 0)), (0, .ref (ad 0))]) X (by decide) rfl dX0_clappers_3 ?_
  refine ek_loopAt (σ := Nat × Nat) (fun zz => (fun (o : Nat) (i : Nat) => i ≤ cC u ∧ o = eC (fun c => cSyl u c ≠ 0) i) zz.1 zz.2) (fun zz => (fun (o : Nat) (i : Nat) => cC u - i) zz.1 zz.2) (fun zz => (fun (o : Nat) (i : Nat) => wC ad cI cR u) zz.1 zz.2) (fun zz => (fun (o : Nat) (i : Nat) => [(0, .ref (ad 0)), (1, .int (nI o)), (2, .int (nI i))]) zz.1 zz.2) ?_ (0, 0) ⟨Nat.zero_le _, rfl⟩ rfl [2, 1, 0] rfl
  intro zz ha_4 ih_4
  obtain ⟨o, i⟩ := zz
  replace ha_4 : i ≤ cC u ∧ o = eC (fun c => cSyl u c ≠ 0) i := ha_4
  refine ek_cast (w' := wC ad cI cR u) rfl ?_
  refine ek_castL (lv' := [(0, .ref (ad 0)), (1, .int (nI o)), (2, .int (nI i))]) rfl ?_
  have ho_4 := eC_le (fun c => cSyl u c ≠ 0) i
  refine ek_iln X 2 rfl dX0_clappers_4 ?_
  refine ek_aln X 0 rfl dX0_clappers_5 ?_
  refine ek_get X hin_X0_clappers_X0 0 rfl rfl 0 (by decide) (List.mem_of_getElem? (i := 1) rfl) rfl dX0_clappers_6 ?_
  refine ek_Nge X (by omega) (by omega) 30 (by decide) dX0_clappers_9 (fun c_9 => ?_) (fun c_9 => ?_)
  · skip
    refine ek_iln X 1 rfl dX0_clappers_30 ?_
    exact ek_retiR X ⟨_, rfl, (by rw [ha_4.2, show i = cC u by omega])⟩ dX0_clappers_31
  · skip
    refine ek_aln X 0 rfl dX0_clappers_12 ?_
    refine ek_get X hin_X0_clappers_X0 0 rfl rfl 4 (by decide) (List.mem_of_getElem? (i := 2) rfl) rfl dX0_clappers_13 ?_
    refine ek_iln X 2 rfl dX0_clappers_16 ?_
    refine ek_ald X 4 0 rfl rfl (by omega) (by omega) dX0_clappers_17 ?_
    have b1_17 := bSyl i
    refine ek_Zeq X (by omega) 24 (by decide) dX0_clappers_18 (fun c_18 => ?_) (fun c_18 => ?_)
    · skip
      refine ek_Ninc (j := 2) (d := 1) (lv' := [(2, .int (nI (i + 1))), (0, .ref (ad 0)), (1, .int (nI o))]) X rfl (by decide) rfl dX0_clappers_24 ?_
      refine ek_goto X 4 (by decide) dX0_clappers_27 ?_
      refine ek_re [1, 2, 0] rfl ?_
      exact ih_4 (o, i + 1) (show (i + 1) ≤ cC u ∧ o = eC (fun c => cSyl u c ≠ 0) (i + 1) from (by obtain ⟨h1, h2⟩ := ha_4; exact ⟨by omega, by simp only [eC]; first | (rw [if_pos (by omega), h2]) | (rw [if_neg (by omega), h2]; rfl)⟩)) (by show cC u - (i + 1) < cC u - i; omega)
    · skip
      refine ek_Ninc (j := 1) (d := 1) (lv' := [(1, .int (nI (o + 1))), (0, .ref (ad 0)), (2, .int (nI i))]) X rfl (by decide) rfl dX0_clappers_21 ?_
      refine ek_Ninc (j := 2) (d := 1) (lv' := [(2, .int (nI (i + 1))), (1, .int (nI (o + 1))), (0, .ref (ad 0))]) X rfl (by decide) rfl dX0_clappers_24 ?_
      refine ek_goto X 4 (by decide) dX0_clappers_27 ?_
      refine ek_re [2, 1, 0] rfl ?_
      exact ih_4 (o + 1, i + 1) (show (i + 1) ≤ cC u ∧ (o + 1) = eC (fun c => cSyl u c ≠ 0) (i + 1) from (by obtain ⟨h1, h2⟩ := ha_4; exact ⟨by omega, by simp only [eC]; first | (rw [if_pos (by omega), h2]) | (rw [if_neg (by omega), h2]; rfl)⟩)) (by show cC u - (i + 1) < cC u - i; omega)

theorem hin_X0_openDoors_X0 : ∀ x ∈ wsX00, x ∈ wsX0_openDoors := fun x h => List.mem_cons_of_mem _ (List.mem_append_right _ h)
abbrev rm_X0_openDoors : Room := { frames := 2, cells := 0, slots := 0, locals := 33 }
set_option maxHeartbeats 4000000 in
set_option maxRecDepth 100000 in
theorem c_X0_openDoors (l : Launch) (D : va_G) (cI cJ cR : ClassId) (ad : Nat → Nat) (u : CaveT) (hB : cOk u) (c : Nat) (hc : c < 12) : ek_R l yX0_openDoors wsX0_openDoors rm_X0_openDoors D (tyW cI cJ cR) nestW [.ref (ad 0), .int (nI c)] (wC ad cI cR u) (fun r9 => ∃ v : Int32, r9 = some (.int v) ∧ v = nI (cNOd u c)) := by
  refine ek_R.of (cc := cX0_openDoors) (maxL := 4) (ret := (some .int)) (by decide) rfl (Nat.le_of_ble_eq_true rfl) ?_
  intro p9 e9 s9 m9 args9 below9 meth9 c9 X
  obtain ⟨⟨hC1, hC2⟩, hPs, hWt, bWal, bHgt, bBat, bSyl, bDel, bDrs, bFrm, bTo, bLen, bNar, bPb⟩ := id hB
  have hdr := bDrs c
  refine ek_castL (lv' := [(0, .ref (ad 0)), (1, .int (nI c))]) rfl ?_
  refine ek_ic (v := nI 0) X (by decide) dX0_openDoors_0 ?_
  refine ek_isn (lv' := [(2, .int (nI 0)), (0, .ref (ad 0)), (1, .int (nI c))]) X (by decide) rfl dX0_openDoors_1 ?_
  refine ek_ic (v := nI 0) X (by decide) dX0_openDoors_2 ?_
  refine ek_isn (lv' := [(3, .int (nI 0)), (2, .int (nI 0)), (0, .ref (ad 0)), (1, .int (nI c))]) X (by decide) rfl dX0_openDoors_3 ?_
  refine ek_loopAt (σ := Nat × Nat) (fun zz => (fun (o : Nat) (i : Nat) => i ≤ cDrs u c ∧ o = eC (fun k => cOpen u (cPb u c k)) i) zz.1 zz.2) (fun zz => (fun (o : Nat) (i : Nat) => cDrs u c - i) zz.1 zz.2) (fun zz => (fun (o : Nat) (i : Nat) => wC ad cI cR u) zz.1 zz.2) (fun zz => (fun (o : Nat) (i : Nat) => [(0, .ref (ad 0)), (1, .int (nI c)), (2, .int (nI o)), (3, .int (nI i))]) zz.1 zz.2) ?_ (0, 0) ⟨Nat.zero_le _, rfl⟩ rfl [2, 3, 1, 0] rfl
  intro zz ha_4 ih_4
  obtain ⟨o, i⟩ := zz
  replace ha_4 : i ≤ cDrs u c ∧ o = eC (fun k => cOpen u (cPb u c k)) i := ha_4
  refine ek_cast (w' := wC ad cI cR u) rfl ?_
  refine ek_castL (lv' := [(0, .ref (ad 0)), (1, .int (nI c)), (2, .int (nI o)), (3, .int (nI i))]) rfl ?_
  have ho_4 := eC_le (fun k => cOpen u (cPb u c k)) i
  refine ek_iln X 3 rfl dX0_openDoors_4 ?_
  refine ek_aln X 0 rfl dX0_openDoors_5 ?_
  refine ek_get X hin_X0_openDoors_X0 0 rfl rfl 6 (by decide) (List.mem_of_getElem? (i := 1) rfl) rfl dX0_openDoors_6 ?_
  refine ek_iln X 1 rfl dX0_openDoors_9 ?_
  refine ek_ald X 6 0 rfl rfl (by omega) (by omega) dX0_openDoors_10 ?_
  have b1_10 := bDrs c
  refine ek_Nge X (by omega) (by omega) 38 (by decide) dX0_openDoors_11 (fun c_11 => ?_) (fun c_11 => ?_)
  · skip
    refine ek_iln X 2 rfl dX0_openDoors_38 ?_
    exact ek_retiR X ⟨_, rfl, (by rw [ha_4.2, show i = cDrs u c by omega])⟩ dX0_openDoors_39
  · skip
    refine ek_aln X 0 rfl dX0_openDoors_14 ?_
    refine ek_aln X 0 rfl dX0_openDoors_15 ?_
    refine ek_get X hin_X0_openDoors_X0 0 rfl rfl 7 (by decide) (List.mem_of_getElem? (i := 2) rfl) rfl dX0_openDoors_16 ?_
    refine ek_iln X 1 rfl dX0_openDoors_19 ?_
    refine ek_aald X 7 2 rfl rfl (by omega) (by omega) (if_pos (by omega)) dX0_openDoors_20 ?_
    refine ek_iln X 3 rfl dX0_openDoors_21 ?_
    refine ek_ald X (13 + c) 0 (wC_row c (by omega)) rfl (by omega) (by omega) dX0_openDoors_22 ?_
    have b2_22 := bPb c i
    refine ek_doRi (ek_runV (As := [.int (nI (cPb u c i))]) (rest := []) X (c_X0_isOpen l D cI cJ cR ad u hB (cPb u c i) (by omega)) gX0_openDoors_X0_isOpen rfl hdV_X0_isOpen ⟨Nat.le_of_ble_eq_true rfl, Nat.le_of_ble_eq_true rfl⟩ ⟨Nat.le_of_ble_eq_true rfl, Nat.le_of_ble_eq_true rfl⟩ [0, 1, 2, 3, 4, 5, 6, 7, 8, 9, 10, 11, 12, 13, 14, 15, 16, 17, 18, 19, 20, 21, 22, 23, 24] rfl (by decide) 0 0 rfl rfl (Nat.le_of_ble_eq_true rfl) dX0_openDoors_23) (fun v_23 hv_23 => ?_)
    subst hv_23
    by_cases c_23 : cOpen u (cPb u c i)
    · refine ek_top (v' := nI 1) (congrArg nI (if_pos c_23)) ?_
      refine ek_Zeq X (by omega) 32 (by decide) dX0_openDoors_26 (fun h => absurd h (by omega)) (fun _ => ?_)
      refine ek_Ninc (j := 2) (d := 1) (lv' := [(2, .int (nI (o + 1))), (0, .ref (ad 0)), (1, .int (nI c)), (3, .int (nI i))]) X rfl (by decide) rfl dX0_openDoors_29 ?_
      refine ek_Ninc (j := 3) (d := 1) (lv' := [(3, .int (nI (i + 1))), (2, .int (nI (o + 1))), (0, .ref (ad 0)), (1, .int (nI c))]) X rfl (by decide) rfl dX0_openDoors_32 ?_
      refine ek_goto X 4 (by decide) dX0_openDoors_35 ?_
      refine ek_re [2, 3, 1, 0] rfl ?_
      exact ih_4 (o + 1, i + 1) (show (i + 1) ≤ cDrs u c ∧ (o + 1) = eC (fun k => cOpen u (cPb u c k)) (i + 1) from (by obtain ⟨h1, h2⟩ := ha_4; exact ⟨by omega, by simp only [eC]; first | (rw [if_pos ‹_›, h2]) | (rw [if_neg ‹_›, h2]; rfl)⟩)) (by show cDrs u c - (i + 1) < cDrs u c - i; omega)
    · refine ek_top (v' := nI 0) (congrArg nI (if_neg c_23)) ?_
      refine ek_Zeq X (by omega) 32 (by decide) dX0_openDoors_26 (fun _ => ?_) (fun h => absurd h (by omega))
      refine ek_Ninc (j := 3) (d := 1) (lv' := [(3, .int (nI (i + 1))), (0, .ref (ad 0)), (1, .int (nI c)), (2, .int (nI o))]) X rfl (by decide) rfl dX0_openDoors_32 ?_
      refine ek_goto X 4 (by decide) dX0_openDoors_35 ?_
      refine ek_re [1, 2, 3, 0] rfl ?_
      exact ih_4 (o, i + 1) (show (i + 1) ≤ cDrs u c ∧ o = eC (fun k => cOpen u (cPb u c k)) (i + 1) from (by obtain ⟨h1, h2⟩ := ha_4; exact ⟨by omega, by simp only [eC]; first | (rw [if_pos ‹_›, h2]) | (rw [if_neg ‹_›, h2]; rfl)⟩)) (by show cDrs u c - (i + 1) < cDrs u c - i; omega)

def cFact (u : CaveT) (c k : Nat) : Nat := match k with
  | 0 => cWal u c
  | 1 => cHgt u c
  | 2 => cBat u c
  | 3 => cSyl u c
  | 4 => cDel u c
  | 5 => cDrs u c
  | _ => cNOd u c
def pFact (u : CaveT) (i k : Nat) : Nat := match k with
  | 0 => cFrm u i
  | 1 => cTo u i
  | 2 => cLen u i
  | 3 => cNar u i
  | _ => if cOpen u i then 1 else 0

theorem hin_X0_chamberFact_X0 : ∀ x ∈ wsX00, x ∈ wsX0_chamberFact := fun x h => List.mem_cons_of_mem _ (List.mem_append_right _ h)
abbrev rm_X0_chamberFact : Room := { frames := 3, cells := 0, slots := 0, locals := 56 }
set_option maxHeartbeats 4000000 in
set_option maxRecDepth 100000 in
theorem c_X0_chamberFact (l : Launch) (D : va_G) (cI cJ cR : ClassId) (ad : Nat → Nat) (u : CaveT) (hB : cOk u) (c k : Nat) (hc : c < 12) (hk : k ≤ 6) : ek_R l yX0_chamberFact wsX0_chamberFact rm_X0_chamberFact D (tyW cI cJ cR) nestW [.ref (ad 0), .int (nI c), .int (nI k)] (wC ad cI cR u) (fun r9 => ∃ v : Int32, r9 = some (.int v) ∧ v = nI (cFact u c k)) := by
  refine ek_R.of (cc := cX0_chamberFact) (maxL := 3) (ret := (some .int)) (by decide) rfl (Nat.le_of_ble_eq_true rfl) ?_
  intro p9 e9 s9 m9 args9 below9 meth9 c9 X
  obtain ⟨⟨hC1, hC2⟩, hPs, hWt, bWal, bHgt, bBat, bSyl, bDel, bDrs, bFrm, bTo, bLen, bNar, bPb⟩ := id hB
  refine ek_castL (lv' := [(0, .ref (ad 0)), (1, .int (nI c)), (2, .int (nI k))]) rfl ?_
  refine ek_iln X 2 rfl dX0_chamberFact_0 ?_
  rcases (show k = 0 ∨ k = 1 ∨ k = 2 ∨ k = 3 ∨ k = 4 ∨ k = 5 ∨ 5 < k by omega) with rfl | rfl | rfl | rfl | rfl | rfl | c_1
  · refine ek_tsN X 40 (by decide) (by decide) rfl (by decide) dX0_chamberFact_1 ?_
    refine ek_aln X 0 rfl dX0_chamberFact_40 ?_
    refine ek_get X hin_X0_chamberFact_X0 0 rfl rfl 1 (by decide) (List.mem_of_getElem? (i := 1) rfl) rfl dX0_chamberFact_41 ?_
    refine ek_iln X 1 rfl dX0_chamberFact_44 ?_
    refine ek_ald X 1 0 rfl rfl (by omega) (by omega) dX0_chamberFact_45 ?_
    have b1_45 := bWal c
    exact ek_retiR X ⟨_, rfl, (by first | rfl | (have h6 : k = 6 := by omega); subst h6; rfl)⟩ dX0_chamberFact_46
  · refine ek_tsN X 47 (by decide) (by decide) rfl (by decide) dX0_chamberFact_1 ?_
    refine ek_aln X 0 rfl dX0_chamberFact_47 ?_
    refine ek_get X hin_X0_chamberFact_X0 0 rfl rfl 2 (by decide) (List.mem_of_getElem? (i := 2) rfl) rfl dX0_chamberFact_48 ?_
    refine ek_iln X 1 rfl dX0_chamberFact_51 ?_
    refine ek_ald X 2 0 rfl rfl (by omega) (by omega) dX0_chamberFact_52 ?_
    have b2_52 := bHgt c
    exact ek_retiR X ⟨_, rfl, (by first | rfl | (have h6 : k = 6 := by omega); subst h6; rfl)⟩ dX0_chamberFact_53
  · refine ek_tsN X 54 (by decide) (by decide) rfl (by decide) dX0_chamberFact_1 ?_
    refine ek_aln X 0 rfl dX0_chamberFact_54 ?_
    refine ek_get X hin_X0_chamberFact_X0 0 rfl rfl 3 (by decide) (List.mem_of_getElem? (i := 3) rfl) rfl dX0_chamberFact_55 ?_
    refine ek_iln X 1 rfl dX0_chamberFact_58 ?_
    refine ek_ald X 3 0 rfl rfl (by omega) (by omega) dX0_chamberFact_59 ?_
    have b3_59 := bBat c
    exact ek_retiR X ⟨_, rfl, (by first | rfl | (have h6 : k = 6 := by omega); subst h6; rfl)⟩ dX0_chamberFact_60
  · refine ek_tsN X 61 (by decide) (by decide) rfl (by decide) dX0_chamberFact_1 ?_
    refine ek_aln X 0 rfl dX0_chamberFact_61 ?_
    refine ek_get X hin_X0_chamberFact_X0 0 rfl rfl 4 (by decide) (List.mem_of_getElem? (i := 4) rfl) rfl dX0_chamberFact_62 ?_
    refine ek_iln X 1 rfl dX0_chamberFact_65 ?_
    refine ek_ald X 4 0 rfl rfl (by omega) (by omega) dX0_chamberFact_66 ?_
    have b4_66 := bSyl c
    exact ek_retiR X ⟨_, rfl, (by first | rfl | (have h6 : k = 6 := by omega); subst h6; rfl)⟩ dX0_chamberFact_67
  · refine ek_tsN X 68 (by decide) (by decide) rfl (by decide) dX0_chamberFact_1 ?_
    refine ek_aln X 0 rfl dX0_chamberFact_68 ?_
    refine ek_get X hin_X0_chamberFact_X0 0 rfl rfl 5 (by decide) (List.mem_of_getElem? (i := 5) rfl) rfl dX0_chamberFact_69 ?_
    refine ek_iln X 1 rfl dX0_chamberFact_72 ?_
    refine ek_ald X 5 0 rfl rfl (by omega) (by omega) dX0_chamberFact_73 ?_
    have b5_73 := bDel c
    exact ek_retiR X ⟨_, rfl, (by first | rfl | (have h6 : k = 6 := by omega); subst h6; rfl)⟩ dX0_chamberFact_74
  · refine ek_tsN X 75 (by decide) (by decide) rfl (by decide) dX0_chamberFact_1 ?_
    refine ek_aln X 0 rfl dX0_chamberFact_75 ?_
    refine ek_get X hin_X0_chamberFact_X0 0 rfl rfl 6 (by decide) (List.mem_of_getElem? (i := 6) rfl) rfl dX0_chamberFact_76 ?_
    refine ek_iln X 1 rfl dX0_chamberFact_79 ?_
    refine ek_ald X 6 0 rfl rfl (by omega) (by omega) dX0_chamberFact_80 ?_
    have b6_80 := bDrs c
    exact ek_retiR X ⟨_, rfl, (by first | rfl | (have h6 : k = 6 := by omega); subst h6; rfl)⟩ dX0_chamberFact_81
  · refine ek_tsO X 82 (by omega) (by omega) (by decide) dX0_chamberFact_1 ?_
    refine ek_aln X 0 rfl dX0_chamberFact_82 ?_
    refine ek_iln X 1 rfl dX0_chamberFact_83 ?_
    refine ek_doRi (ek_runV (As := [.int (nI c)]) (rest := []) X (c_X0_openDoors l D cI cJ cR ad u hB c (by omega)) gX0_chamberFact_X0_openDoors rfl hdV_X0_openDoors ⟨Nat.le_of_ble_eq_true rfl, Nat.le_of_ble_eq_true rfl⟩ ⟨Nat.le_of_ble_eq_true rfl, Nat.le_of_ble_eq_true rfl⟩ [0, 1, 2, 3, 4, 5, 6, 7, 8, 9, 10, 11, 12, 13, 14, 15, 16, 17, 18, 19, 20, 21, 22, 23, 24] rfl (by decide) 0 0 rfl rfl (Nat.le_of_ble_eq_true rfl) dX0_chamberFact_84) (fun v_84 hv_84 => ?_)
    subst hv_84
    have hno_84 := eC_le (fun k => cOpen u (cPb u c k)) (cDrs u c)
    exact ek_retiR X ⟨_, rfl, (by first | rfl | (have h6 : k = 6 := by omega); subst h6; rfl)⟩ dX0_chamberFact_87

theorem hin_X0_passageFact_X0 : ∀ x ∈ wsX00, x ∈ wsX0_passageFact := fun x h => List.mem_cons_of_mem _ (List.mem_append_right _ h)
abbrev rm_X0_passageFact : Room := { frames := 2, cells := 0, slots := 0, locals := 33 }
set_option maxHeartbeats 4000000 in
set_option maxRecDepth 100000 in
theorem c_X0_passageFact (l : Launch) (D : va_G) (cI cJ cR : ClassId) (ad : Nat → Nat) (u : CaveT) (hB : cOk u) (i k : Nat) (hi : i < 18) (hk : k ≤ 4) : ek_R l yX0_passageFact wsX0_passageFact rm_X0_passageFact D (tyW cI cJ cR) nestW [.ref (ad 0), .int (nI i), .int (nI k)] (wC ad cI cR u) (fun r9 => ∃ v : Int32, r9 = some (.int v) ∧ v = nI (pFact u i k)) := by
  refine ek_R.of (cc := cX0_passageFact) (maxL := 3) (ret := (some .int)) (by decide) rfl (Nat.le_of_ble_eq_true rfl) ?_
  intro p9 e9 s9 m9 args9 below9 meth9 c9 X
  obtain ⟨⟨hC1, hC2⟩, hPs, hWt, bWal, bHgt, bBat, bSyl, bDel, bDrs, bFrm, bTo, bLen, bNar, bPb⟩ := id hB
  refine ek_castL (lv' := [(0, .ref (ad 0)), (1, .int (nI i)), (2, .int (nI k))]) rfl ?_
  refine ek_iln X 2 rfl dX0_passageFact_0 ?_
  rcases (show k = 0 ∨ k = 1 ∨ k = 2 ∨ k = 3 ∨ 3 < k by omega) with rfl | rfl | rfl | rfl | c_1
  · refine ek_tsN X 32 (by decide) (by decide) rfl (by decide) dX0_passageFact_1 ?_
    refine ek_aln X 0 rfl dX0_passageFact_32 ?_
    refine ek_get X hin_X0_passageFact_X0 0 rfl rfl 9 (by decide) (List.mem_of_getElem? (i := 1) rfl) rfl dX0_passageFact_33 ?_
    refine ek_iln X 1 rfl dX0_passageFact_36 ?_
    refine ek_ald X 8 0 rfl rfl (by omega) (by omega) dX0_passageFact_37 ?_
    have b1_37 := bFrm i
    exact ek_retiR X ⟨_, rfl, (by first | rfl | ((have h4 : k = 4 := by omega); subst h4; first | exact (congrArg nI (if_pos (by assumption))).symm | exact (congrArg nI (if_neg (by assumption))).symm))⟩ dX0_passageFact_38
  · refine ek_tsN X 39 (by decide) (by decide) rfl (by decide) dX0_passageFact_1 ?_
    refine ek_aln X 0 rfl dX0_passageFact_39 ?_
    refine ek_get X hin_X0_passageFact_X0 0 rfl rfl 10 (by decide) (List.mem_of_getElem? (i := 2) rfl) rfl dX0_passageFact_40 ?_
    refine ek_iln X 1 rfl dX0_passageFact_43 ?_
    refine ek_ald X 9 0 rfl rfl (by omega) (by omega) dX0_passageFact_44 ?_
    have b2_44 := bTo i
    exact ek_retiR X ⟨_, rfl, (by first | rfl | ((have h4 : k = 4 := by omega); subst h4; first | exact (congrArg nI (if_pos (by assumption))).symm | exact (congrArg nI (if_neg (by assumption))).symm))⟩ dX0_passageFact_45
  · refine ek_tsN X 46 (by decide) (by decide) rfl (by decide) dX0_passageFact_1 ?_
    refine ek_aln X 0 rfl dX0_passageFact_46 ?_
    refine ek_get X hin_X0_passageFact_X0 0 rfl rfl 11 (by decide) (List.mem_of_getElem? (i := 3) rfl) rfl dX0_passageFact_47 ?_
    refine ek_iln X 1 rfl dX0_passageFact_50 ?_
    refine ek_ald X 10 0 rfl rfl (by omega) (by omega) dX0_passageFact_51 ?_
    have b3_51 := bLen i
    exact ek_retiR X ⟨_, rfl, (by first | rfl | ((have h4 : k = 4 := by omega); subst h4; first | exact (congrArg nI (if_pos (by assumption))).symm | exact (congrArg nI (if_neg (by assumption))).symm))⟩ dX0_passageFact_52
  · refine ek_tsN X 53 (by decide) (by decide) rfl (by decide) dX0_passageFact_1 ?_
    refine ek_aln X 0 rfl dX0_passageFact_53 ?_
    refine ek_get X hin_X0_passageFact_X0 0 rfl rfl 12 (by decide) (List.mem_of_getElem? (i := 4) rfl) rfl dX0_passageFact_54 ?_
    refine ek_iln X 1 rfl dX0_passageFact_57 ?_
    refine ek_ald X 11 0 rfl rfl (by omega) (by omega) dX0_passageFact_58 ?_
    have b4_58 := bNar i
    exact ek_retiR X ⟨_, rfl, (by first | rfl | ((have h4 : k = 4 := by omega); subst h4; first | exact (congrArg nI (if_pos (by assumption))).symm | exact (congrArg nI (if_neg (by assumption))).symm))⟩ dX0_passageFact_59
  · refine ek_tsO X 60 (by omega) (by omega) (by decide) dX0_passageFact_1 ?_
    refine ek_aln X 0 rfl dX0_passageFact_60 ?_
    refine ek_iln X 1 rfl dX0_passageFact_61 ?_
    refine ek_doRi (ek_runV (As := [.int (nI i)]) (rest := []) X (c_X0_isOpen l D cI cJ cR ad u hB i (by omega)) gX0_passageFact_X0_isOpen rfl hdV_X0_isOpen ⟨Nat.le_of_ble_eq_true rfl, Nat.le_of_ble_eq_true rfl⟩ ⟨Nat.le_of_ble_eq_true rfl, Nat.le_of_ble_eq_true rfl⟩ [0, 1, 2, 3, 4, 5, 6, 7, 8, 9, 10, 11, 12, 13, 14, 15, 16, 17, 18, 19, 20, 21, 22, 23, 24] rfl (by decide) 0 0 rfl rfl (Nat.le_of_ble_eq_true rfl) dX0_passageFact_62) (fun v_62 hv_62 => ?_)
    subst hv_62
    by_cases c_62 : cOpen u i
    · refine ek_top (v' := nI 1) (congrArg nI (if_pos c_62)) ?_
      refine ek_Zeq X (by omega) 72 (by decide) dX0_passageFact_65 (fun h => absurd h (by omega)) (fun _ => ?_)
      refine ek_ic (v := nI 1) X (by decide) dX0_passageFact_68 ?_
      refine ek_goto X 73 (by decide) dX0_passageFact_69 ?_
      exact ek_retiR X ⟨_, rfl, (by first | rfl | ((have h4 : k = 4 := by omega); subst h4; first | exact (congrArg nI (if_pos (by assumption))).symm | exact (congrArg nI (if_neg (by assumption))).symm))⟩ dX0_passageFact_73
    · refine ek_top (v' := nI 0) (congrArg nI (if_neg c_62)) ?_
      refine ek_Zeq X (by omega) 72 (by decide) dX0_passageFact_65 (fun _ => ?_) (fun h => absurd h (by omega))
      refine ek_ic (v := nI 0) X (by decide) dX0_passageFact_72 ?_
      exact ek_retiR X ⟨_, rfl, (by first | rfl | ((have h4 : k = 4 := by omega); subst h4; first | exact (congrArg nI (if_pos (by assumption))).symm | exact (congrArg nI (if_neg (by assumption))).symm))⟩ dX0_passageFact_73

def cClap (u : CaveT) (c s d : Nat) : CaveT := (cC u, cP u, cW u, cWal u, cHgt u, cBat u, eN (cSyl u) c s, eN (cDel u) c (if s = 0 then 0 else d), cDrs u, cFrm u, cTo u, cLen u, cNar u, cPb u, cFnd u)
def cAdd (u : CaveT) (w h b : Nat) : CaveT := (cC u + 1, cP u, cW u, eN (cWal u) (cC u) w, eN (cHgt u) (cC u) h, eN (cBat u) (cC u) b, cSyl u, cDel u, cDrs u, cFrm u, cTo u, cLen u, cNar u, cPb u, cFnd u)
def cDoor (u : CaveT) (c i : Nat) : CaveT := (cC u, cP u, cW u, cWal u, cHgt u, cBat u, cSyl u, cDel u, eN (cDrs u) c (cDrs u c + 1), cFrm u, cTo u, cLen u, cNar u, eN (cPb u) c (eN (cPb u c) (cDrs u c) i), cFnd u)
def cEnds (u : CaveT) (a b t n : Nat) : CaveT := (cC u, cP u, cW u, cWal u, cHgt u, cBat u, cSyl u, cDel u, cDrs u, eN (cFrm u) (cP u) a, eN (cTo u) (cP u) b, eN (cLen u) (cP u) t, eN (cNar u) (cP u) n, cPb u, cFnd u)
def cMore (u : CaveT) : CaveT := (cC u, cP u + 1, cW u, cWal u, cHgt u, cBat u, cSyl u, cDel u, cDrs u, cFrm u, cTo u, cLen u, cNar u, cPb u, cFnd u)
def cPass (u : CaveT) (a b t n : Nat) : CaveT := cMore (cDoor (cDoor (cEnds u a b t n) a (cP u)) b (cP u))
def cSetF (u : CaveT) (f : Nat → Int32) : CaveT := (cC u, cP u, cW u, cWal u, cHgt u, cBat u, cSyl u, cDel u, cDrs u, cFrm u, cTo u, cLen u, cNar u, cPb u, f)

theorem hin_X0_putClapper_X0 : ∀ x ∈ wsX00, x ∈ wsX0_putClapper := fun x h => List.mem_cons_of_mem _ (List.mem_append_right _ h)
abbrev rm_X0_putClapper : Room := { frames := 1, cells := 0, slots := 0, locals := 12 }
set_option maxHeartbeats 4000000 in
set_option maxRecDepth 100000 in
theorem c_X0_putClapper (l : Launch) (D : va_G) (cI cJ cR : ClassId) (ad : Nat → Nat) (u : CaveT) (c t d : Nat) (hc : c < 12) (ht : t ≤ 9) : ek_M (S := Unit) l yX0_putClapper wsX0_putClapper rm_X0_putClapper D (tyW cI cJ cR) nestW [.ref (ad 0), .int (nI c), .int (nI t), .int (nI d)] (wC ad cI cR u) (fun r9 _ => r9 = none ∧ True) (fun _ => wC ad cI cR (cClap u c t d)) := by
  refine ek_M.of (cc := cX0_putClapper) (maxL := 4) (ret := none) (by decide) rfl (Nat.le_of_ble_eq_true rfl) ?_
  intro p9 e9 s9 m9 args9 below9 meth9 c9 A X hin
  refine ek_castL (lv' := [(0, .ref (ad 0)), (1, .int (nI c)), (2, .int (nI t)), (3, .int (nI d))]) rfl ?_
  refine ek_aln X 0 rfl dX0_putClapper_0 ?_
  refine ek_get X hin_X0_putClapper_X0 0 rfl rfl 4 (by decide) (List.mem_of_getElem? (i := 1) rfl) rfl dX0_putClapper_1 ?_
  refine ek_iln X 1 rfl dX0_putClapper_4 ?_
  refine ek_iln X 2 rfl dX0_putClapper_5 ?_
  refine ek_Nast (w' := wC ad cI cR (cC u, cP u, cW u, cWal u, cHgt u, cBat u, eN (cSyl u) c t, cDel u, cDrs u, cFrm u, cTo u, cLen u, cNar u, cPb u, cFnd u)) X 4 0 rfl rfl (by omega) (by omega) rfl dX0_putClapper_6 ?_
  refine ek_aln X 0 rfl dX0_putClapper_7 ?_
  refine ek_get X hin_X0_putClapper_X0 0 rfl rfl 5 (by decide) (List.mem_of_getElem? (i := 2) rfl) rfl dX0_putClapper_8 ?_
  refine ek_iln X 1 rfl dX0_putClapper_11 ?_
  refine ek_iln X 2 rfl dX0_putClapper_12 ?_
  refine ek_Zne X (by omega) 20 (by decide) dX0_putClapper_13 (fun c_13 => ?_) (fun c_13 => ?_)
  · skip
    refine ek_iln X 3 rfl dX0_putClapper_20 ?_
    refine ek_Nast (w' := wC ad cI cR (cC u, cP u, cW u, cWal u, cHgt u, cBat u, eN (cSyl u) c t, eN (cDel u) c d, cDrs u, cFrm u, cTo u, cLen u, cNar u, cPb u, cFnd u)) X 5 0 rfl rfl (by omega) (by omega) rfl dX0_putClapper_21 ?_
    exact ek_retv X () ⟨rfl, trivial⟩ (by unfold cClap; first | rw [if_pos (by omega)] | rw [if_neg (by omega)]) dX0_putClapper_22
  · skip
    refine ek_ic (v := nI 0) X (by decide) dX0_putClapper_16 ?_
    refine ek_goto X 21 (by decide) dX0_putClapper_17 ?_
    refine ek_Nast (w' := wC ad cI cR (cC u, cP u, cW u, cWal u, cHgt u, cBat u, eN (cSyl u) c t, eN (cDel u) c 0, cDrs u, cFrm u, cTo u, cLen u, cNar u, cPb u, cFnd u)) X 5 0 rfl rfl (by omega) (by omega) rfl dX0_putClapper_21 ?_
    exact ek_retv X () ⟨rfl, trivial⟩ (by unfold cClap; first | rw [if_pos (by omega)] | rw [if_neg (by omega)]) dX0_putClapper_22

theorem hin_X0_findChamber_X0 : ∀ x ∈ wsX00, x ∈ wsX0_findChamber := fun x h => List.mem_cons_of_mem _ (List.mem_append_right _ h)
abbrev rm_X0_findChamber : Room := { frames := 1, cells := 0, slots := 0, locals := 12 }
set_option maxHeartbeats 4000000 in
set_option maxRecDepth 100000 in
theorem c_X0_findChamber (l : Launch) (D : va_G) (cI cJ cR : ClassId) (ad : Nat → Nat) (u : CaveT) (w h b : Nat) (hc : cC u < 12) : ek_M (S := Unit) l yX0_findChamber wsX0_findChamber rm_X0_findChamber D (tyW cI cJ cR) nestW [.ref (ad 0), .int (nI w), .int (nI h), .int (nI b)] (wC ad cI cR u) (fun r9 _ => ∃ v : Int32, r9 = some (.int v) ∧ v = nI (cC u)) (fun _ => wC ad cI cR (cAdd u w h b)) := by
  refine ek_M.of (cc := cX0_findChamber) (maxL := 5) (ret := (some .int)) (by decide) rfl (Nat.le_of_ble_eq_true rfl) ?_
  intro p9 e9 s9 m9 args9 below9 meth9 c9 A X hin
  refine ek_castL (lv' := [(0, .ref (ad 0)), (1, .int (nI w)), (2, .int (nI h)), (3, .int (nI b))]) rfl ?_
  refine ek_aln X 0 rfl dX0_findChamber_0 ?_
  refine ek_get X hin_X0_findChamber_X0 0 rfl rfl 0 (by decide) (List.mem_of_getElem? (i := 1) rfl) rfl dX0_findChamber_1 ?_
  refine ek_is (lv' := [(4, .int (nI (cC u))), (0, .ref (ad 0)), (1, .int (nI w)), (2, .int (nI h)), (3, .int (nI b))]) X (by decide) rfl dX0_findChamber_4 ?_
  refine ek_aln X 1 rfl dX0_findChamber_6 ?_
  refine ek_get X hin_X0_findChamber_X0 0 rfl rfl 1 (by decide) (List.mem_of_getElem? (i := 2) rfl) rfl dX0_findChamber_7 ?_
  refine ek_il X 0 rfl dX0_findChamber_10 ?_
  refine ek_iln X 2 rfl dX0_findChamber_12 ?_
  refine ek_Nast (w' := wC ad cI cR (cC u, cP u, cW u, eN (cWal u) (cC u) w, cHgt u, cBat u, cSyl u, cDel u, cDrs u, cFrm u, cTo u, cLen u, cNar u, cPb u, cFnd u)) X 1 0 rfl rfl (by omega) (by omega) rfl dX0_findChamber_13 ?_
  refine ek_aln X 1 rfl dX0_findChamber_14 ?_
  refine ek_get X hin_X0_findChamber_X0 0 rfl rfl 2 (by decide) (List.mem_of_getElem? (i := 3) rfl) rfl dX0_findChamber_15 ?_
  refine ek_il X 0 rfl dX0_findChamber_18 ?_
  refine ek_iln X 3 rfl dX0_findChamber_20 ?_
  refine ek_Nast (w' := wC ad cI cR (cC u, cP u, cW u, eN (cWal u) (cC u) w, eN (cHgt u) (cC u) h, cBat u, cSyl u, cDel u, cDrs u, cFrm u, cTo u, cLen u, cNar u, cPb u, cFnd u)) X 2 0 rfl rfl (by omega) (by omega) rfl dX0_findChamber_21 ?_
  refine ek_aln X 1 rfl dX0_findChamber_22 ?_
  refine ek_get X hin_X0_findChamber_X0 0 rfl rfl 3 (by decide) (List.mem_of_getElem? (i := 4) rfl) rfl dX0_findChamber_23 ?_
  refine ek_il X 0 rfl dX0_findChamber_26 ?_
  refine ek_iln X 4 rfl dX0_findChamber_28 ?_
  refine ek_Nast (w' := wC ad cI cR (cC u, cP u, cW u, eN (cWal u) (cC u) w, eN (cHgt u) (cC u) h, eN (cBat u) (cC u) b, cSyl u, cDel u, cDrs u, cFrm u, cTo u, cLen u, cNar u, cPb u, cFnd u)) X 3 0 rfl rfl (by omega) (by omega) rfl dX0_findChamber_29 ?_
  refine ek_aln X 1 rfl dX0_findChamber_30 ?_
  refine ek_dup X rfl dX0_findChamber_31 ?_
  refine ek_get X hin_X0_findChamber_X0 0 rfl rfl 0 (by decide) (List.mem_of_getElem? (i := 1) rfl) rfl dX0_findChamber_32 ?_
  refine ek_top (v' := nI (cC u)) rfl ?_
  refine ek_ic (v := nI 1) X (by decide) dX0_findChamber_35 ?_
  refine ek_Nadd X dX0_findChamber_36 ?_
  refine ek_put (w' := wC ad cI cR ((cC u) + 1, cP u, cW u, eN (cWal u) (cC u) w, eN (cHgt u) (cC u) h, eN (cBat u) (cC u) b, cSyl u, cDel u, cDrs u, cFrm u, cTo u, cLen u, cNar u, cPb u, cFnd u)) X hin_X0_findChamber_X0 tyX0 tyX0_ok nmX0 0 rfl rfl 0 (by decide) (List.mem_of_getElem? (i := 1) rfl) rfl rfl rfl rfl (Nat.le_of_ble_eq_true rfl) rfl dX0_findChamber_37 ?_
  refine ek_il X 0 rfl dX0_findChamber_40 ?_
  exact ek_reti X () ⟨_, rfl, rfl⟩ rfl dX0_findChamber_42

theorem hin_X0_addDoor_X0 : ∀ x ∈ wsX00, x ∈ wsX0_addDoor := fun x h => List.mem_cons_of_mem _ (List.mem_append_right _ h)
abbrev rm_X0_addDoor : Room := { frames := 1, cells := 0, slots := 0, locals := 12 }
set_option maxHeartbeats 4000000 in
set_option maxRecDepth 100000 in
theorem c_X0_addDoor (l : Launch) (D : va_G) (cI cJ cR : ClassId) (ad : Nat → Nat) (u : CaveT) (c i : Nat) (hc : c < 12) (hd : cDrs u c < 18) : ek_M (S := Unit) l yX0_addDoor wsX0_addDoor rm_X0_addDoor D (tyW cI cJ cR) nestW [.ref (ad 0), .int (nI c), .int (nI i)] (wC ad cI cR u) (fun r9 _ => r9 = none ∧ True) (fun _ => wC ad cI cR (cDoor u c i)) := by
  refine ek_M.of (cc := cX0_addDoor) (maxL := 3) (ret := none) (by decide) rfl (Nat.le_of_ble_eq_true rfl) ?_
  intro p9 e9 s9 m9 args9 below9 meth9 c9 A X hin
  refine ek_castL (lv' := [(0, .ref (ad 0)), (1, .int (nI c)), (2, .int (nI i))]) rfl ?_
  refine ek_aln X 0 rfl dX0_addDoor_0 ?_
  refine ek_get X hin_X0_addDoor_X0 0 rfl rfl 6 (by decide) (List.mem_of_getElem? (i := 1) rfl) rfl dX0_addDoor_1 ?_
  refine ek_iln X 1 rfl dX0_addDoor_4 ?_
  refine ek_ald X 6 0 rfl rfl (by omega) (by omega) dX0_addDoor_5 ?_
  refine ek_bp (v := nI 18) X (by decide) dX0_addDoor_6 ?_
  refine ek_Nge X (by omega) (by omega) 35 (by decide) dX0_addDoor_8 (fun c_8 => ?_) (fun c_8 => ?_)
  · exact absurd c_8 (Nat.not_le.mpr hd)
  · skip
    refine ek_aln X 0 rfl dX0_addDoor_11 ?_
    refine ek_get X hin_X0_addDoor_X0 0 rfl rfl 7 (by decide) (List.mem_of_getElem? (i := 2) rfl) rfl dX0_addDoor_12 ?_
    refine ek_iln X 1 rfl dX0_addDoor_15 ?_
    refine ek_aald X 7 2 rfl rfl (by omega) (by omega) (if_pos (by omega)) dX0_addDoor_16 ?_
    refine ek_aln X 0 rfl dX0_addDoor_17 ?_
    refine ek_get X hin_X0_addDoor_X0 0 rfl rfl 6 (by decide) (List.mem_of_getElem? (i := 1) rfl) rfl dX0_addDoor_18 ?_
    refine ek_iln X 1 rfl dX0_addDoor_21 ?_
    refine ek_ald X 6 0 rfl rfl (by omega) (by omega) dX0_addDoor_22 ?_
    refine ek_iln X 2 rfl dX0_addDoor_23 ?_
    refine ek_Nast (w' := wC ad cI cR (cC u, cP u, cW u, cWal u, cHgt u, cBat u, cSyl u, cDel u, cDrs u, cFrm u, cTo u, cLen u, cNar u, eN (cPb u) c (eN ((cPb u) c) ((cDrs u) c) i), cFnd u)) X (13 + c) 0 (wC_row c (by omega)) rfl (by omega) (by omega) (wC_rowset c (by omega) _ _) dX0_addDoor_24 ?_
    refine ek_aln X 0 rfl dX0_addDoor_25 ?_
    refine ek_get X hin_X0_addDoor_X0 0 rfl rfl 6 (by decide) (List.mem_of_getElem? (i := 1) rfl) rfl dX0_addDoor_26 ?_
    refine ek_iln X 1 rfl dX0_addDoor_29 ?_
    refine ek_dup2 X rfl rfl dX0_addDoor_30 ?_
    refine ek_ald X 6 0 rfl rfl (by omega) (by omega) dX0_addDoor_31 ?_
    refine ek_top (v' := nI ((cDrs u) c)) rfl ?_
    refine ek_ic (v := nI 1) X (by decide) dX0_addDoor_32 ?_
    refine ek_Nadd X dX0_addDoor_33 ?_
    refine ek_Nast (w' := wC ad cI cR (cC u, cP u, cW u, cWal u, cHgt u, cBat u, cSyl u, cDel u, eN (cDrs u) c (((cDrs u) c) + 1), cFrm u, cTo u, cLen u, cNar u, eN (cPb u) c (eN ((cPb u) c) ((cDrs u) c) i), cFnd u)) X 6 0 rfl rfl (by omega) (by omega) rfl dX0_addDoor_34 ?_
    exact ek_retv X () ⟨rfl, trivial⟩ rfl dX0_addDoor_35

theorem hin_X0_findPassage_X0 : ∀ x ∈ wsX00, x ∈ wsX0_findPassage := fun x h => List.mem_cons_of_mem _ (List.mem_append_right _ h)
abbrev rm_X0_findPassage : Room := { frames := 2, cells := 0, slots := 0, locals := 34 }
set_option maxHeartbeats 4000000 in
set_option maxRecDepth 100000 in
theorem c_X0_findPassage (l : Launch) (D : va_G) (cI cJ cR : ClassId) (ad : Nat → Nat) (u : CaveT) (hB : cOk u) (a b t n : Nat) (ha : a < 12) (hb : b < 12) (hab : a ≠ b) (hp : cP u < 18) : ek_M (S := Unit) l yX0_findPassage wsX0_findPassage rm_X0_findPassage D (tyW cI cJ cR) nestW [.ref (ad 0), .int (nI a), .int (nI b), .int (nI t), .int (nI n)] (wC ad cI cR u) (fun r9 _ => ∃ v : Int32, r9 = some (.int v) ∧ v = nI (cP u)) (fun _ => wC ad cI cR (cPass u a b t n)) := by
  refine ek_M.of (cc := cX0_findPassage) (maxL := 6) (ret := (some .int)) (by decide) rfl (Nat.le_of_ble_eq_true rfl) ?_
  intro p9 e9 s9 m9 args9 below9 meth9 c9 A X hin
  obtain ⟨⟨hC1, hC2⟩, hPs, hWt, bWal, bHgt, bBat, bSyl, bDel, bDrs, bFrm, bTo, bLen, bNar, bPb⟩ := id hB
  refine ek_castL (lv' := [(0, .ref (ad 0)), (1, .int (nI a)), (2, .int (nI b)), (3, .int (nI t)), (4, .int (nI n))]) rfl ?_
  refine ek_aln X 0 rfl dX0_findPassage_0 ?_
  refine ek_get X hin_X0_findPassage_X0 0 rfl rfl 8 (by decide) (List.mem_of_getElem? (i := 1) rfl) rfl dX0_findPassage_1 ?_
  refine ek_is (lv' := [(5, .int (nI (cP u))), (0, .ref (ad 0)), (1, .int (nI a)), (2, .int (nI b)), (3, .int (nI t)), (4, .int (nI n))]) X (by decide) rfl dX0_findPassage_4 ?_
  refine ek_aln X 1 rfl dX0_findPassage_6 ?_
  refine ek_get X hin_X0_findPassage_X0 0 rfl rfl 9 (by decide) (List.mem_of_getElem? (i := 2) rfl) rfl dX0_findPassage_7 ?_
  refine ek_il X 0 rfl dX0_findPassage_10 ?_
  refine ek_iln X 2 rfl dX0_findPassage_12 ?_
  refine ek_Nast (w' := wC ad cI cR (cC u, cP u, cW u, cWal u, cHgt u, cBat u, cSyl u, cDel u, cDrs u, eN (cFrm u) (cP u) a, cTo u, cLen u, cNar u, cPb u, cFnd u)) X 8 0 rfl rfl (by omega) (by omega) rfl dX0_findPassage_13 ?_
  refine ek_aln X 1 rfl dX0_findPassage_14 ?_
  refine ek_get X hin_X0_findPassage_X0 0 rfl rfl 10 (by decide) (List.mem_of_getElem? (i := 3) rfl) rfl dX0_findPassage_15 ?_
  refine ek_il X 0 rfl dX0_findPassage_18 ?_
  refine ek_iln X 3 rfl dX0_findPassage_20 ?_
  refine ek_Nast (w' := wC ad cI cR (cC u, cP u, cW u, cWal u, cHgt u, cBat u, cSyl u, cDel u, cDrs u, eN (cFrm u) (cP u) a, eN (cTo u) (cP u) b, cLen u, cNar u, cPb u, cFnd u)) X 9 0 rfl rfl (by omega) (by omega) rfl dX0_findPassage_21 ?_
  refine ek_aln X 1 rfl dX0_findPassage_22 ?_
  refine ek_get X hin_X0_findPassage_X0 0 rfl rfl 11 (by decide) (List.mem_of_getElem? (i := 4) rfl) rfl dX0_findPassage_23 ?_
  refine ek_il X 0 rfl dX0_findPassage_26 ?_
  refine ek_iln X 4 rfl dX0_findPassage_28 ?_
  refine ek_Nast (w' := wC ad cI cR (cC u, cP u, cW u, cWal u, cHgt u, cBat u, cSyl u, cDel u, cDrs u, eN (cFrm u) (cP u) a, eN (cTo u) (cP u) b, eN (cLen u) (cP u) t, cNar u, cPb u, cFnd u)) X 10 0 rfl rfl (by omega) (by omega) rfl dX0_findPassage_29 ?_
  refine ek_aln X 1 rfl dX0_findPassage_30 ?_
  refine ek_get X hin_X0_findPassage_X0 0 rfl rfl 12 (by decide) (List.mem_of_getElem? (i := 5) rfl) rfl dX0_findPassage_31 ?_
  refine ek_il X 0 rfl dX0_findPassage_34 ?_
  refine ek_il X 5 rfl dX0_findPassage_36 ?_
  refine ek_Nast (w' := wC ad cI cR (cC u, cP u, cW u, cWal u, cHgt u, cBat u, cSyl u, cDel u, cDrs u, eN (cFrm u) (cP u) a, eN (cTo u) (cP u) b, eN (cLen u) (cP u) t, eN (cNar u) (cP u) n, cPb u, cFnd u)) X 11 0 rfl rfl (by omega) (by omega) rfl dX0_findPassage_38 ?_
  refine ek_aln X 1 rfl dX0_findPassage_39 ?_
  refine ek_iln X 2 rfl dX0_findPassage_40 ?_
  refine ek_il X 0 rfl dX0_findPassage_41 ?_
  refine ek_doWv X (ek_runV (As := [.int (nI a), .int (nI (cP u))]) (rest := []) X (c_X0_addDoor l D cI cJ cR ad ((cC u, cP u, cW u, cWal u, cHgt u, cBat u, cSyl u, cDel u, cDrs u, eN (cFrm u) (cP u) a, eN (cTo u) (cP u) b, eN (cLen u) (cP u) t, eN (cNar u) (cP u) n, cPb u, cFnd u)) a (cP u) ha (Nat.lt_of_le_of_lt (bDrs a) hp)) gX0_findPassage_X0_addDoor rfl hdV_X0_addDoor ⟨Nat.le_of_ble_eq_true rfl, Nat.le_of_ble_eq_true rfl⟩ ⟨Nat.le_of_ble_eq_true rfl, Nat.le_of_ble_eq_true rfl⟩ [0, 1, 2, 3, 4, 5, 6, 7, 8, 9, 10, 11, 12, 13, 14, 15, 16, 17, 18, 19, 20, 21, 22, 23, 24] rfl (by decide) 0 0 rfl rfl (Nat.le_of_ble_eq_true rfl) dX0_findPassage_43) [0, 1, 2, 3, 4, 5, 6, 7, 8, 9, 10, 11, 12, 13, 14, 15, 16, 17, 18, 19, 20, 21, 22, 23, 24] [] rfl rfl (by decide) (by decide) (fun _ => wC ad cI cR (cDoor ((cC u, cP u, cW u, cWal u, cHgt u, cBat u, cSyl u, cDel u, cDrs u, eN (cFrm u) (cP u) a, eN (cTo u) (cP u) b, eN (cLen u) (cP u) t, eN (cNar u) (cP u) n, cPb u, cFnd u)) a (cP u))) [0, 1, 2, 3, 4, 5, 6, 7, 8, 9, 10, 11, 12, 13, 14, 15, 16, 17, 18, 19, 20, 21, 22, 23, 24] (by decide) (fun _ => rfl) (fun u_43 hv_43 => ?_)
  refine ek_aln X 1 rfl dX0_findPassage_46 ?_
  refine ek_iln X 3 rfl dX0_findPassage_47 ?_
  refine ek_il X 0 rfl dX0_findPassage_48 ?_
  refine ek_doWv X (ek_runV (As := [.int (nI b), .int (nI (cP u))]) (rest := []) X (c_X0_addDoor l D cI cJ cR ad ((cDoor ((cC u, cP u, cW u, cWal u, cHgt u, cBat u, cSyl u, cDel u, cDrs u, eN (cFrm u) (cP u) a, eN (cTo u) (cP u) b, eN (cLen u) (cP u) t, eN (cNar u) (cP u) n, cPb u, cFnd u)) a (cP u))) b (cP u) hb (by show eN (cDrs u) a (cDrs u a + 1) b < 18; rw [eN_ne _ _ (Ne.symm hab)]; exact Nat.lt_of_le_of_lt (bDrs b) hp)) gX0_findPassage_X0_addDoor rfl hdV_X0_addDoor ⟨Nat.le_of_ble_eq_true rfl, Nat.le_of_ble_eq_true rfl⟩ ⟨Nat.le_of_ble_eq_true rfl, Nat.le_of_ble_eq_true rfl⟩ [0, 1, 2, 3, 4, 5, 6, 7, 8, 9, 10, 11, 12, 13, 14, 15, 16, 17, 18, 19, 20, 21, 22, 23, 24] rfl (by decide) 0 0 rfl rfl (Nat.le_of_ble_eq_true rfl) dX0_findPassage_50) [0, 1, 2, 3, 4, 5, 6, 7, 8, 9, 10, 11, 12, 13, 14, 15, 16, 17, 18, 19, 20, 21, 22, 23, 24] [] rfl rfl (by decide) (by decide) (fun _ => wC ad cI cR (cDoor ((cDoor ((cC u, cP u, cW u, cWal u, cHgt u, cBat u, cSyl u, cDel u, cDrs u, eN (cFrm u) (cP u) a, eN (cTo u) (cP u) b, eN (cLen u) (cP u) t, eN (cNar u) (cP u) n, cPb u, cFnd u)) a (cP u))) b (cP u))) [0, 1, 2, 3, 4, 5, 6, 7, 8, 9, 10, 11, 12, 13, 14, 15, 16, 17, 18, 19, 20, 21, 22, 23, 24] (by decide) (fun _ => rfl) (fun u_50 hv_50 => ?_)
  refine ek_aln X 1 rfl dX0_findPassage_53 ?_
  refine ek_dup X rfl dX0_findPassage_54 ?_
  refine ek_get X hin_X0_findPassage_X0 0 rfl rfl 8 (by decide) (List.mem_of_getElem? (i := 1) rfl) rfl dX0_findPassage_55 ?_
  refine ek_ic (v := nI 1) X (by decide) dX0_findPassage_58 ?_
  refine ek_Nadd X dX0_findPassage_59 ?_
  refine ek_put (w' := wC ad cI cR (cC (cDoor ((cDoor ((cC u, cP u, cW u, cWal u, cHgt u, cBat u, cSyl u, cDel u, cDrs u, eN (cFrm u) (cP u) a, eN (cTo u) (cP u) b, eN (cLen u) (cP u) t, eN (cNar u) (cP u) n, cPb u, cFnd u)) a (cP u))) b (cP u)), (cP (cDoor ((cDoor ((cC u, cP u, cW u, cWal u, cHgt u, cBat u, cSyl u, cDel u, cDrs u, eN (cFrm u) (cP u) a, eN (cTo u) (cP u) b, eN (cLen u) (cP u) t, eN (cNar u) (cP u) n, cPb u, cFnd u)) a (cP u))) b (cP u))) + 1, cW (cDoor ((cDoor ((cC u, cP u, cW u, cWal u, cHgt u, cBat u, cSyl u, cDel u, cDrs u, eN (cFrm u) (cP u) a, eN (cTo u) (cP u) b, eN (cLen u) (cP u) t, eN (cNar u) (cP u) n, cPb u, cFnd u)) a (cP u))) b (cP u)), cWal (cDoor ((cDoor ((cC u, cP u, cW u, cWal u, cHgt u, cBat u, cSyl u, cDel u, cDrs u, eN (cFrm u) (cP u) a, eN (cTo u) (cP u) b, eN (cLen u) (cP u) t, eN (cNar u) (cP u) n, cPb u, cFnd u)) a (cP u))) b (cP u)), cHgt (cDoor ((cDoor ((cC u, cP u, cW u, cWal u, cHgt u, cBat u, cSyl u, cDel u, cDrs u, eN (cFrm u) (cP u) a, eN (cTo u) (cP u) b, eN (cLen u) (cP u) t, eN (cNar u) (cP u) n, cPb u, cFnd u)) a (cP u))) b (cP u)), cBat (cDoor ((cDoor ((cC u, cP u, cW u, cWal u, cHgt u, cBat u, cSyl u, cDel u, cDrs u, eN (cFrm u) (cP u) a, eN (cTo u) (cP u) b, eN (cLen u) (cP u) t, eN (cNar u) (cP u) n, cPb u, cFnd u)) a (cP u))) b (cP u)), cSyl (cDoor ((cDoor ((cC u, cP u, cW u, cWal u, cHgt u, cBat u, cSyl u, cDel u, cDrs u, eN (cFrm u) (cP u) a, eN (cTo u) (cP u) b, eN (cLen u) (cP u) t, eN (cNar u) (cP u) n, cPb u, cFnd u)) a (cP u))) b (cP u)), cDel (cDoor ((cDoor ((cC u, cP u, cW u, cWal u, cHgt u, cBat u, cSyl u, cDel u, cDrs u, eN (cFrm u) (cP u) a, eN (cTo u) (cP u) b, eN (cLen u) (cP u) t, eN (cNar u) (cP u) n, cPb u, cFnd u)) a (cP u))) b (cP u)), cDrs (cDoor ((cDoor ((cC u, cP u, cW u, cWal u, cHgt u, cBat u, cSyl u, cDel u, cDrs u, eN (cFrm u) (cP u) a, eN (cTo u) (cP u) b, eN (cLen u) (cP u) t, eN (cNar u) (cP u) n, cPb u, cFnd u)) a (cP u))) b (cP u)), cFrm (cDoor ((cDoor ((cC u, cP u, cW u, cWal u, cHgt u, cBat u, cSyl u, cDel u, cDrs u, eN (cFrm u) (cP u) a, eN (cTo u) (cP u) b, eN (cLen u) (cP u) t, eN (cNar u) (cP u) n, cPb u, cFnd u)) a (cP u))) b (cP u)), cTo (cDoor ((cDoor ((cC u, cP u, cW u, cWal u, cHgt u, cBat u, cSyl u, cDel u, cDrs u, eN (cFrm u) (cP u) a, eN (cTo u) (cP u) b, eN (cLen u) (cP u) t, eN (cNar u) (cP u) n, cPb u, cFnd u)) a (cP u))) b (cP u)), cLen (cDoor ((cDoor ((cC u, cP u, cW u, cWal u, cHgt u, cBat u, cSyl u, cDel u, cDrs u, eN (cFrm u) (cP u) a, eN (cTo u) (cP u) b, eN (cLen u) (cP u) t, eN (cNar u) (cP u) n, cPb u, cFnd u)) a (cP u))) b (cP u)), cNar (cDoor ((cDoor ((cC u, cP u, cW u, cWal u, cHgt u, cBat u, cSyl u, cDel u, cDrs u, eN (cFrm u) (cP u) a, eN (cTo u) (cP u) b, eN (cLen u) (cP u) t, eN (cNar u) (cP u) n, cPb u, cFnd u)) a (cP u))) b (cP u)), cPb (cDoor ((cDoor ((cC u, cP u, cW u, cWal u, cHgt u, cBat u, cSyl u, cDel u, cDrs u, eN (cFrm u) (cP u) a, eN (cTo u) (cP u) b, eN (cLen u) (cP u) t, eN (cNar u) (cP u) n, cPb u, cFnd u)) a (cP u))) b (cP u)), cFnd (cDoor ((cDoor ((cC u, cP u, cW u, cWal u, cHgt u, cBat u, cSyl u, cDel u, cDrs u, eN (cFrm u) (cP u) a, eN (cTo u) (cP u) b, eN (cLen u) (cP u) t, eN (cNar u) (cP u) n, cPb u, cFnd u)) a (cP u))) b (cP u)))) X hin_X0_findPassage_X0 tyX0 tyX0_ok nmX0 0 rfl rfl 8 (by decide) (List.mem_of_getElem? (i := 1) rfl) rfl rfl rfl rfl (Nat.le_of_ble_eq_true rfl) rfl dX0_findPassage_60 ?_
  refine ek_il X 0 rfl dX0_findPassage_63 ?_
  exact ek_reti X () ⟨_, rfl, rfl⟩ rfl dX0_findPassage_65

/-! ===== Arrays.fill over an int array ===== -/
abbrev FilT : Type := Nat → Int32
def wF (cI : ClassId) (r n : Nat) (f : FilT) : va_W := [(r, .inl (cI, n, .inl f))]

abbrev rm_J7_fill_53178 : Room := { frames := 1, cells := 0, slots := 0, locals := 12 }
set_option maxHeartbeats 4000000 in
set_option maxRecDepth 100000 in
theorem c_J7_fill_53178 (l : Launch) (D : va_G) (cI cJ cR : ClassId) (r n : Nat) (v : Int32) (f : Nat → Int32) (hn : n < 2147483648) : ek_M (S := Unit) l yJ7_fill_53178 wsJ7_fill_53178 rm_J7_fill_53178 D (tyW cI cJ cR) nestW [.ref r, .int v] (wF cI r n f) (fun r9 _ => r9 = none ∧ True) (fun _ => wF cI r n (eFill n v f)) := by
  refine ek_M.of (cc := cJ7_fill_53178) (maxL := 4) (ret := none) (by decide) rfl (Nat.le_of_ble_eq_true rfl) ?_
  intro p9 e9 s9 m9 args9 below9 meth9 c9 A X hin
  refine ek_castL (lv' := [(0, .ref r), (1, .int v)]) rfl ?_
  refine ek_ic (v := nI 0) X (by decide) dJ7_fill_53178_0 ?_
  refine ek_isn (lv' := [(2, .int (nI 0)), (0, .ref r), (1, .int v)]) X (by decide) rfl dJ7_fill_53178_1 ?_
  refine ek_aln X 1 rfl dJ7_fill_53178_2 ?_
  refine ek_alen X 0 0 rfl rfl dJ7_fill_53178_3 ?_
  refine ek_isn (lv' := [(3, .int (nI n)), (2, .int (nI 0)), (0, .ref r), (1, .int v)]) X (by decide) rfl dJ7_fill_53178_4 ?_
  refine ek_loopAt (σ := Nat × (Nat → Int32)) (fun zz => (fun (i : Nat) (g : Nat → Int32) => i ≤ n ∧ g = eFill i v f) zz.1 zz.2) (fun zz => (fun (i : Nat) (g : Nat → Int32) => n - i) zz.1 zz.2) (fun zz => (fun (i : Nat) (g : Nat → Int32) => wF cI r n g) zz.1 zz.2) (fun zz => (fun (i : Nat) (g : Nat → Int32) => [(0, .ref r), (1, .int v), (2, .int (nI i)), (3, .int (nI n))]) zz.1 zz.2) ?_ (0, f) ⟨Nat.zero_le _, (eFill_0 v f).symm⟩ rfl [2, 3, 1, 0] rfl
  intro zz ha_5 ih_5
  obtain ⟨i, g⟩ := zz
  replace ha_5 : i ≤ n ∧ g = eFill i v f := ha_5
  refine ek_cast (w' := wF cI r n g) rfl ?_
  refine ek_castL (lv' := [(0, .ref r), (1, .int v), (2, .int (nI i)), (3, .int (nI n))]) rfl ?_
  refine ek_iln X 2 rfl dJ7_fill_53178_5 ?_
  refine ek_iln X 3 rfl dJ7_fill_53178_6 ?_
  refine ek_Nge X (by omega) (by omega) 20 (by decide) dJ7_fill_53178_7 (fun c_7 => ?_) (fun c_7 => ?_)
  · skip
    exact ek_retv X () ⟨rfl, trivial⟩ (by rw [ha_5.2, show i = n by omega]) dJ7_fill_53178_20
  · skip
    refine ek_aln X 0 rfl dJ7_fill_53178_10 ?_
    refine ek_iln X 2 rfl dJ7_fill_53178_11 ?_
    refine ek_iln X 1 rfl dJ7_fill_53178_12 ?_
    refine ek_ast (w' := wF cI r n (eN g i v)) X 0 0 rfl rfl (by omega) (by omega) rfl dJ7_fill_53178_13 ?_
    refine ek_Ninc (j := 2) (d := 1) (lv' := [(2, .int (nI (i + 1))), (0, .ref r), (1, .int v), (3, .int (nI n))]) X rfl (by decide) rfl dJ7_fill_53178_14 ?_
    refine ek_goto X 5 (by decide) dJ7_fill_53178_17 ?_
    refine ek_re [1, 2, 0, 3] rfl ?_
    exact ih_5 (i + 1, eN g i v) (show (i + 1) ≤ n ∧ (eN g i v) = eFill (i + 1) v f from ⟨by omega, by rw [ha_5.2]; exact eFill_s i v f⟩) (by show n - (i + 1) < n - i; omega)

/-! ===== ways and heights ===== -/
def eShort (f : Nat → Int32) (h t : Nat) (s : Nat) : Nat → Int32 := if f h < 0 then f else if f t < 0 ∨ f h + nI s < f t then eN f t (f h + nI s) else f
def wayStep (u : CaveT) (f : Nat → Int32) (i : Nat) : Nat → Int32 := if cOpen u i then eShort (eShort f (cFrm u i) (cTo u i) (cLen u i)) (cTo u i) (cFrm u i) (cLen u i) else f
def wayRound (u : CaveT) (f : Nat → Int32) : Nat → Nat → Int32
  | 0 => f
  | n + 1 => wayStep u (wayRound u f n) n
def wayAll (u : CaveT) (f : Nat → Int32) : Nat → Nat → Int32
  | 0 => f
  | r + 1 => wayRound u (wayAll u f r) (cP u)
def wayOf (u : CaveT) (a : Nat) : Nat → Int32 := wayAll u (eN (eFill 12 (-1) (cFnd u)) a (nI 0)) (cC u - 1)
def eRaise (u : CaveT) (f : Nat → Int32) (h t : Nat) : Nat → Int32 := eN f t (emax (f t) (emin (f h) (emin (nI (cHgt u h)) (nI (cHgt u t)))))
def upRound (u : CaveT) (f : Nat → Int32) : Nat → Nat → Int32
  | 0 => f
  | n + 1 => eRaise u (eRaise u (upRound u f n) (cFrm u n) (cTo u n)) (cTo u n) (cFrm u n)
def upAll (u : CaveT) (f : Nat → Int32) : Nat → Nat → Int32
  | 0 => f
  | r + 1 => upRound u (upAll u f r) (cP u)
def upOf (u : CaveT) : Nat → Int32 := upAll u (eN (eFill 12 (-1) (cFnd u)) 0 (nI 30)) (cC u - 1)

theorem hin_X0_shorten_X0 : ∀ x ∈ wsX00, x ∈ wsX0_shorten := fun x h => List.mem_cons_of_mem _ (List.mem_append_right _ h)
abbrev rm_X0_shorten : Room := { frames := 1, cells := 0, slots := 0, locals := 12 }
set_option maxHeartbeats 4000000 in
set_option maxRecDepth 100000 in
theorem c_X0_shorten (l : Launch) (D : va_G) (cI cJ cR : ClassId) (ad : Nat → Nat) (u : CaveT) (h t s : Nat) (hh : h < 12) (ht : t < 12) : ek_M (S := Unit) l yX0_shorten wsX0_shorten rm_X0_shorten D (tyW cI cJ cR) nestW [.ref (ad 0), .int (nI h), .int (nI t), .int (nI s)] (wC ad cI cR u) (fun r9 _ => r9 = none ∧ True) (fun _ => wC ad cI cR (cSetF u (eShort (cFnd u) h t s))) := by
  refine ek_M.of (cc := cX0_shorten) (maxL := 5) (ret := none) (by decide) rfl (Nat.le_of_ble_eq_true rfl) ?_
  intro p9 e9 s9 m9 args9 below9 meth9 c9 A X hin
  refine ek_castL (lv' := [(0, .ref (ad 0)), (1, .int (nI h)), (2, .int (nI t)), (3, .int (nI s))]) rfl ?_
  refine ek_aln X 0 rfl dX0_shorten_0 ?_
  refine ek_get X hin_X0_shorten_X0 0 rfl rfl 14 (by decide) (List.mem_of_getElem? (i := 1) rfl) rfl dX0_shorten_1 ?_
  refine ek_iln X 1 rfl dX0_shorten_4 ?_
  refine ek_ald X 12 0 rfl rfl (by omega) (by omega) dX0_shorten_5 ?_
  refine ek_if_ge X 10 (by decide) dX0_shorten_6 (fun c_6 => ?_) (fun c_6 => ?_)
  · skip
    refine ek_aln X 0 rfl dX0_shorten_10 ?_
    refine ek_get X hin_X0_shorten_X0 0 rfl rfl 14 (by decide) (List.mem_of_getElem? (i := 1) rfl) rfl dX0_shorten_11 ?_
    refine ek_iln X 1 rfl dX0_shorten_14 ?_
    refine ek_ald X 12 0 rfl rfl (by omega) (by omega) dX0_shorten_15 ?_
    refine ek_iln X 3 rfl dX0_shorten_16 ?_
    refine ek_add X dX0_shorten_17 ?_
    refine ek_is (lv' := [(4, .int (((cFnd u) h) + (nI s))), (0, .ref (ad 0)), (1, .int (nI h)), (2, .int (nI t)), (3, .int (nI s))]) X (by decide) rfl dX0_shorten_18 ?_
    refine ek_aln X 1 rfl dX0_shorten_20 ?_
    refine ek_get X hin_X0_shorten_X0 0 rfl rfl 14 (by decide) (List.mem_of_getElem? (i := 1) rfl) rfl dX0_shorten_21 ?_
    refine ek_iln X 3 rfl dX0_shorten_24 ?_
    refine ek_ald X 12 0 rfl rfl (by omega) (by omega) dX0_shorten_25 ?_
    refine ek_if_lt X 40 (by decide) dX0_shorten_26 (fun c_26 => ?_) (fun c_26 => ?_)
    · skip
      refine ek_aln X 1 rfl dX0_shorten_40 ?_
      refine ek_get X hin_X0_shorten_X0 0 rfl rfl 14 (by decide) (List.mem_of_getElem? (i := 1) rfl) rfl dX0_shorten_41 ?_
      refine ek_iln X 3 rfl dX0_shorten_44 ?_
      refine ek_il X 0 rfl dX0_shorten_45 ?_
      refine ek_ast (w' := wC ad cI cR (cC u, cP u, cW u, cWal u, cHgt u, cBat u, cSyl u, cDel u, cDrs u, cFrm u, cTo u, cLen u, cNar u, cPb u, eN (cFnd u) t (((cFnd u) h) + (nI s)))) X 12 0 rfl rfl (by omega) (by omega) rfl dX0_shorten_47 ?_
      exact ek_retv X () ⟨rfl, trivial⟩ (by first | (rw [show eShort (cFnd u) h t s = eN (cFnd u) t (cFnd u h + nI s) from (if_neg (Int32.not_lt.mpr c_6)).trans (if_pos (Or.inl c_26))]; rfl) | (rw [show eShort (cFnd u) h t s = eN (cFnd u) t (cFnd u h + nI s) from (if_neg (Int32.not_lt.mpr c_6)).trans (if_pos (Or.inr (Int32.not_le.mp c_37)))]; rfl) | (rw [show eShort (cFnd u) h t s = cFnd u from (if_neg (Int32.not_lt.mpr c_6)).trans (if_neg (fun q => q.elim c_26 (fun q => Int32.not_lt.mpr c_37 q)))]; rfl)) dX0_shorten_48
    · skip
      refine ek_il X 0 rfl dX0_shorten_29 ?_
      refine ek_aln X 1 rfl dX0_shorten_31 ?_
      refine ek_get X hin_X0_shorten_X0 0 rfl rfl 14 (by decide) (List.mem_of_getElem? (i := 1) rfl) rfl dX0_shorten_32 ?_
      refine ek_iln X 3 rfl dX0_shorten_35 ?_
      refine ek_ald X 12 0 rfl rfl (by omega) (by omega) dX0_shorten_36 ?_
      refine ek_icmp_ge X 48 (by decide) dX0_shorten_37 (fun c_37 => ?_) (fun c_37 => ?_)
      · skip
        exact ek_retv X () ⟨rfl, trivial⟩ (by first | (rw [show eShort (cFnd u) h t s = eN (cFnd u) t (cFnd u h + nI s) from (if_neg (Int32.not_lt.mpr c_6)).trans (if_pos (Or.inl c_26))]; rfl) | (rw [show eShort (cFnd u) h t s = eN (cFnd u) t (cFnd u h + nI s) from (if_neg (Int32.not_lt.mpr c_6)).trans (if_pos (Or.inr (Int32.not_le.mp c_37)))]; rfl) | (rw [show eShort (cFnd u) h t s = cFnd u from (if_neg (Int32.not_lt.mpr c_6)).trans (if_neg (fun q => q.elim c_26 (fun q => Int32.not_lt.mpr c_37 q)))]; rfl)) dX0_shorten_48
      · skip
        refine ek_aln X 1 rfl dX0_shorten_40 ?_
        refine ek_get X hin_X0_shorten_X0 0 rfl rfl 14 (by decide) (List.mem_of_getElem? (i := 1) rfl) rfl dX0_shorten_41 ?_
        refine ek_iln X 3 rfl dX0_shorten_44 ?_
        refine ek_il X 0 rfl dX0_shorten_45 ?_
        refine ek_ast (w' := wC ad cI cR (cC u, cP u, cW u, cWal u, cHgt u, cBat u, cSyl u, cDel u, cDrs u, cFrm u, cTo u, cLen u, cNar u, cPb u, eN (cFnd u) t (((cFnd u) h) + (nI s)))) X 12 0 rfl rfl (by omega) (by omega) rfl dX0_shorten_47 ?_
        exact ek_retv X () ⟨rfl, trivial⟩ (by first | (rw [show eShort (cFnd u) h t s = eN (cFnd u) t (cFnd u h + nI s) from (if_neg (Int32.not_lt.mpr c_6)).trans (if_pos (Or.inl c_26))]; rfl) | (rw [show eShort (cFnd u) h t s = eN (cFnd u) t (cFnd u h + nI s) from (if_neg (Int32.not_lt.mpr c_6)).trans (if_pos (Or.inr (Int32.not_le.mp c_37)))]; rfl) | (rw [show eShort (cFnd u) h t s = cFnd u from (if_neg (Int32.not_lt.mpr c_6)).trans (if_neg (fun q => q.elim c_26 (fun q => Int32.not_lt.mpr c_37 q)))]; rfl)) dX0_shorten_48
  · skip
    exact ek_retv X () ⟨rfl, trivial⟩ (by (rw [show eShort (cFnd u) h t s = cFnd u from if_pos (Int32.not_le.mp c_6)]; rfl)) dX0_shorten_9

theorem hin_X0_raise_X0 : ∀ x ∈ wsX00, x ∈ wsX0_raise := fun x h => List.mem_cons_of_mem _ (List.mem_append_right _ h)
abbrev rm_X0_raise : Room := { frames := 1, cells := 0, slots := 0, locals := 22 }
set_option maxHeartbeats 4000000 in
set_option maxRecDepth 100000 in
theorem c_X0_raise (l : Launch) (D : va_G) (cI cJ cR : ClassId) (ad : Nat → Nat) (u : CaveT) (h t : Nat) (hh : h < 12) (ht : t < 12) : ek_M (S := Unit) l yX0_raise wsX0_raise rm_X0_raise D (tyW cI cJ cR) nestW [.ref (ad 0), .int (nI h), .int (nI t)] (wC ad cI cR u) (fun r9 _ => r9 = none ∧ True) (fun _ => wC ad cI cR (cSetF u (eRaise u (cFnd u) h t))) := by
  refine ek_M.of (cc := cX0_raise) (maxL := 4) (ret := none) (by decide) rfl (Nat.le_of_ble_eq_true rfl) ?_
  intro p9 e9 s9 m9 args9 below9 meth9 c9 A X hin
  refine ek_castL (lv' := [(0, .ref (ad 0)), (1, .int (nI h)), (2, .int (nI t))]) rfl ?_
  refine ek_aln X 0 rfl dX0_raise_0 ?_
  refine ek_get X hin_X0_raise_X0 0 rfl rfl 2 (by decide) (List.mem_of_getElem? (i := 1) rfl) rfl dX0_raise_1 ?_
  refine ek_iln X 1 rfl dX0_raise_4 ?_
  refine ek_ald X 2 0 rfl rfl (by omega) (by omega) dX0_raise_5 ?_
  refine ek_aln X 0 rfl dX0_raise_6 ?_
  refine ek_get X hin_X0_raise_X0 0 rfl rfl 2 (by decide) (List.mem_of_getElem? (i := 1) rfl) rfl dX0_raise_7 ?_
  refine ek_iln X 2 rfl dX0_raise_10 ?_
  refine ek_ald X 2 0 rfl rfl (by omega) (by omega) dX0_raise_11 ?_
  refine ek_mmin X (List.mem_of_getElem? (i := 2) rfl) (List.mem_of_getElem? (i := 3) rfl) (List.mem_of_getElem? (i := 4) rfl) (List.mem_of_getElem? (i := 5) rfl) (by decide) (Nat.le_of_ble_eq_true rfl) (by decide) dX0_raise_12 ?_
  refine ek_isn (lv' := [(3, .int (emin (nI ((cHgt u) h)) (nI ((cHgt u) t)))), (0, .ref (ad 0)), (1, .int (nI h)), (2, .int (nI t))]) X (by decide) rfl dX0_raise_15 ?_
  refine ek_aln X 1 rfl dX0_raise_16 ?_
  refine ek_get X hin_X0_raise_X0 0 rfl rfl 14 (by decide) (List.mem_of_getElem? (i := 6) rfl) rfl dX0_raise_17 ?_
  refine ek_iln X 3 rfl dX0_raise_20 ?_
  refine ek_aln X 1 rfl dX0_raise_21 ?_
  refine ek_get X hin_X0_raise_X0 0 rfl rfl 14 (by decide) (List.mem_of_getElem? (i := 6) rfl) rfl dX0_raise_22 ?_
  refine ek_iln X 3 rfl dX0_raise_25 ?_
  refine ek_ald X 12 0 rfl rfl (by omega) (by omega) dX0_raise_26 ?_
  refine ek_aln X 1 rfl dX0_raise_27 ?_
  refine ek_get X hin_X0_raise_X0 0 rfl rfl 14 (by decide) (List.mem_of_getElem? (i := 6) rfl) rfl dX0_raise_28 ?_
  refine ek_iln X 2 rfl dX0_raise_31 ?_
  refine ek_ald X 12 0 rfl rfl (by omega) (by omega) dX0_raise_32 ?_
  refine ek_iln X 0 rfl dX0_raise_33 ?_
  refine ek_mmin X (List.mem_of_getElem? (i := 2) rfl) (List.mem_of_getElem? (i := 3) rfl) (List.mem_of_getElem? (i := 4) rfl) (List.mem_of_getElem? (i := 5) rfl) (by decide) (Nat.le_of_ble_eq_true rfl) (by decide) dX0_raise_34 ?_
  refine ek_mmax X (List.mem_of_getElem? (i := 7) rfl) (List.mem_of_getElem? (i := 8) rfl) (List.mem_of_getElem? (i := 4) rfl) (List.mem_of_getElem? (i := 9) rfl) (by decide) (Nat.le_of_ble_eq_true rfl) (by decide) dX0_raise_37 ?_
  refine ek_ast (w' := wC ad cI cR (cC u, cP u, cW u, cWal u, cHgt u, cBat u, cSyl u, cDel u, cDrs u, cFrm u, cTo u, cLen u, cNar u, cPb u, eN (cFnd u) t (emax ((cFnd u) t) (emin ((cFnd u) h) (emin (nI ((cHgt u) h)) (nI ((cHgt u) t))))))) X 12 0 rfl rfl (by omega) (by omega) rfl dX0_raise_40 ?_
  exact ek_retv X () ⟨rfl, trivial⟩ rfl dX0_raise_41

theorem hin_X0_shortestWay_X0 : ∀ x ∈ wsX00, x ∈ wsX0_shortestWay := fun x h => List.mem_cons_of_mem _ (List.mem_append_right _ h)
abbrev rm_X0_shortestWay : Room := { frames := 2, cells := 0, slots := 0, locals := 36 }
set_option maxHeartbeats 4000000 in
set_option maxRecDepth 100000 in
theorem c_X0_shortestWay (l : Launch) (D : va_G) (cI cJ cR : ClassId) (ad : Nat → Nat) (u : CaveT) (hB : cOk u) (a b : Nat) (ha : a < 12) (hb : b < 12) : ek_M (S := Unit) l yX0_shortestWay wsX0_shortestWay rm_X0_shortestWay D (tyW cI cJ cR) nestW [.ref (ad 0), .int (nI a), .int (nI b)] (wC ad cI cR u) (fun r9 _ => ∃ v : Int32, r9 = some (.int v) ∧ v = wayOf u a b) (fun _ => wC ad cI cR (cSetF u (wayOf u a))) := by
  refine ek_M.of (cc := cX0_shortestWay) (maxL := 5) (ret := (some .int)) (by decide) rfl (Nat.le_of_ble_eq_true rfl) ?_
  intro p9 e9 s9 m9 args9 below9 meth9 c9 A X hin
  obtain ⟨⟨hC1, hC2⟩, hPs, hWt, bWal, bHgt, bBat, bSyl, bDel, bDrs, bFrm, bTo, bLen, bNar, bPb⟩ := id hB
  refine ek_castL (lv' := [(0, .ref (ad 0)), (1, .int (nI a)), (2, .int (nI b))]) rfl ?_
  refine ek_aln X 0 rfl dX0_shortestWay_0 ?_
  refine ek_get X hin_X0_shortestWay_X0 0 rfl rfl 14 (by decide) (List.mem_of_getElem? (i := 1) rfl) rfl dX0_shortestWay_1 ?_
  refine ek_ic (v := -1) X (by decide) dX0_shortestWay_4 ?_
  refine ek_doWv X (ek_runS (As := [.ref (ad 12), .int (-1)]) (rest := []) X (c_J7_fill_53178 l D cI cJ cR (ad 12) 12 (-1) (cFnd u) (by decide)) gX0_shortestWay_J7_fill_53178 rfl hd_J7_fill_53178 ⟨Nat.le_of_ble_eq_true rfl, Nat.le_of_ble_eq_true rfl⟩ ⟨Nat.le_of_ble_eq_true rfl, Nat.le_of_ble_eq_true rfl⟩ [12] rfl (by decide) (Nat.le_of_ble_eq_true rfl) dX0_shortestWay_5) [12] [0, 1, 2, 3, 4, 5, 6, 7, 8, 9, 10, 11, 13, 14, 15, 16, 17, 18, 19, 20, 21, 22, 23, 24] rfl rfl (by decide) (by decide) (fun _ => wC ad cI cR (cC u, cP u, cW u, cWal u, cHgt u, cBat u, cSyl u, cDel u, cDrs u, cFrm u, cTo u, cLen u, cNar u, cPb u, eFill 12 (-1) (cFnd u))) [0, 1, 2, 3, 4, 5, 6, 7, 8, 9, 10, 11, 24, 12, 13, 14, 15, 16, 17, 18, 19, 20, 21, 22, 23] (by decide) (fun _ => rfl) (fun u_5 hv_5 => ?_)
  refine ek_aln X 0 rfl dX0_shortestWay_8 ?_
  refine ek_get X hin_X0_shortestWay_X0 0 rfl rfl 14 (by decide) (List.mem_of_getElem? (i := 1) rfl) rfl dX0_shortestWay_9 ?_
  refine ek_iln X 1 rfl dX0_shortestWay_12 ?_
  refine ek_ic (v := nI 0) X (by decide) dX0_shortestWay_13 ?_
  refine ek_ast (w' := wC ad cI cR (cC u, cP u, cW u, cWal u, cHgt u, cBat u, cSyl u, cDel u, cDrs u, cFrm u, cTo u, cLen u, cNar u, cPb u, eN (eFill 12 (-1) (cFnd u)) a (nI 0))) X 12 0 rfl rfl (by omega) (by omega) rfl dX0_shortestWay_14 ?_
  refine ek_ic (v := nI 1) X (by decide) dX0_shortestWay_15 ?_
  refine ek_isn (lv' := [(3, .int (nI 1)), (0, .ref (ad 0)), (1, .int (nI a)), (2, .int (nI b))]) X (by decide) rfl dX0_shortestWay_16 ?_
  refine ek_loopAt (σ := Nat × (Nat → Int32)) (fun zz => (fun (r : Nat) (f : Nat → Int32) => 1 ≤ r ∧ r ≤ cC u ∧ f = wayAll u (eN (eFill 12 (-1) (cFnd u)) a (nI 0)) (r - 1)) zz.1 zz.2) (fun zz => (fun (r : Nat) (f : Nat → Int32) => cC u - r) zz.1 zz.2) (fun zz => (fun (r : Nat) (f : Nat → Int32) => wC ad cI cR (cC u, cP u, cW u, cWal u, cHgt u, cBat u, cSyl u, cDel u, cDrs u, cFrm u, cTo u, cLen u, cNar u, cPb u, f)) zz.1 zz.2) (fun zz => (fun (r : Nat) (f : Nat → Int32) => [(0, .ref (ad 0)), (1, .int (nI a)), (2, .int (nI b)), (3, .int (nI r))]) zz.1 zz.2) ?_ (1, eN (eFill 12 (-1) (cFnd u)) a (nI 0)) ⟨by omega, by omega, rfl⟩ rfl [1, 2, 3, 0] rfl
  intro zz ha_17 ih_17
  obtain ⟨r, f⟩ := zz
  replace ha_17 : 1 ≤ r ∧ r ≤ cC u ∧ f = wayAll u (eN (eFill 12 (-1) (cFnd u)) a (nI 0)) (r - 1) := ha_17
  refine ek_cast (w' := wC ad cI cR (cC u, cP u, cW u, cWal u, cHgt u, cBat u, cSyl u, cDel u, cDrs u, cFrm u, cTo u, cLen u, cNar u, cPb u, f)) rfl ?_
  refine ek_castL (lv' := [(0, .ref (ad 0)), (1, .int (nI a)), (2, .int (nI b)), (3, .int (nI r))]) rfl ?_
  refine ek_iln X 3 rfl dX0_shortestWay_17 ?_
  refine ek_aln X 0 rfl dX0_shortestWay_18 ?_
  refine ek_get X hin_X0_shortestWay_X0 0 rfl rfl 0 (by decide) (List.mem_of_getElem? (i := 2) rfl) rfl dX0_shortestWay_19 ?_
  refine ek_top (v' := nI (cC u)) rfl ?_
  refine ek_Nge X (by omega) (by omega) 108 (by decide) dX0_shortestWay_22 (fun c_22 => ?_) (fun c_22 => ?_)
  · skip
    refine ek_aln X 0 rfl dX0_shortestWay_108 ?_
    refine ek_get X hin_X0_shortestWay_X0 0 rfl rfl 14 (by decide) (List.mem_of_getElem? (i := 1) rfl) rfl dX0_shortestWay_109 ?_
    refine ek_iln X 2 rfl dX0_shortestWay_112 ?_
    refine ek_ald X 12 0 rfl rfl (by omega) (by omega) dX0_shortestWay_113 ?_
    refine ek_top (v' := f b) rfl ?_
    exact ek_reti X () ⟨_, rfl, (by obtain ⟨h1, h2, h3⟩ := ha_17; rw [h3, show r - 1 = cC u - 1 by omega]; rfl)⟩ (by obtain ⟨h1, h2, h3⟩ := ha_17; rw [h3, show r - 1 = cC u - 1 by omega]; rfl) dX0_shortestWay_114
  · skip
    refine ek_ic (v := nI 0) X (by decide) dX0_shortestWay_25 ?_
    refine ek_is (lv' := [(4, .int (nI 0)), (0, .ref (ad 0)), (1, .int (nI a)), (2, .int (nI b)), (3, .int (nI r))]) X (by decide) rfl dX0_shortestWay_26 ?_
    refine ek_loopAt (σ := Nat × (Nat → Int32)) (fun zz => (fun (i : Nat) (g : Nat → Int32) => i ≤ cP u ∧ g = wayRound u f i) zz.1 zz.2) (fun zz => (fun (i : Nat) (g : Nat → Int32) => cP u - i) zz.1 zz.2) (fun zz => (fun (i : Nat) (g : Nat → Int32) => wC ad cI cR (cC u, cP u, cW u, cWal u, cHgt u, cBat u, cSyl u, cDel u, cDrs u, cFrm u, cTo u, cLen u, cNar u, cPb u, g)) zz.1 zz.2) (fun zz => (fun (i : Nat) (g : Nat → Int32) => [(0, .ref (ad 0)), (1, .int (nI a)), (2, .int (nI b)), (3, .int (nI r)), (4, .int (nI i))]) zz.1 zz.2) ?_ (0, f) ⟨Nat.zero_le _, rfl⟩ rfl [1, 2, 3, 4, 0] rfl
    intro zz ha_28 ih_28
    obtain ⟨i, g⟩ := zz
    replace ha_28 : i ≤ cP u ∧ g = wayRound u f i := ha_28
    refine ek_cast (w' := wC ad cI cR (cC u, cP u, cW u, cWal u, cHgt u, cBat u, cSyl u, cDel u, cDrs u, cFrm u, cTo u, cLen u, cNar u, cPb u, g)) rfl ?_
    refine ek_castL (lv' := [(0, .ref (ad 0)), (1, .int (nI a)), (2, .int (nI b)), (3, .int (nI r)), (4, .int (nI i))]) rfl ?_
    have bf := bFrm i
    have bt := bTo i
    have bl := bLen i
    refine ek_il X 4 rfl dX0_shortestWay_28 ?_
    refine ek_aln X 0 rfl dX0_shortestWay_30 ?_
    refine ek_get X hin_X0_shortestWay_X0 0 rfl rfl 8 (by decide) (List.mem_of_getElem? (i := 3) rfl) rfl dX0_shortestWay_31 ?_
    refine ek_top (v' := nI (cP u)) rfl ?_
    refine ek_Nge X (by omega) (by omega) 102 (by decide) dX0_shortestWay_34 (fun c_34 => ?_) (fun c_34 => ?_)
    · skip
      refine ek_Ninc (j := 3) (d := 1) (lv' := [(3, .int (nI (r + 1))), (0, .ref (ad 0)), (1, .int (nI a)), (2, .int (nI b)), (4, .int (nI i))]) X rfl (by decide) rfl dX0_shortestWay_102 ?_
      refine ek_goto X 17 (by decide) dX0_shortestWay_105 ?_
      refine ek_re [1, 2, 3, 0] rfl ?_
      exact ih_17 (r + 1, g) (show 1 ≤ (r + 1) ∧ (r + 1) ≤ cC u ∧ g = wayAll u (eN (eFill 12 (-1) (cFnd u)) a (nI 0)) ((r + 1) - 1) from (by obtain ⟨h1, h2, h3⟩ := ha_17; obtain ⟨q1, q2⟩ := ha_28; have e1 : i = cP u := (by omega); have e2 : r + 1 - 1 = (r - 1) + 1 := (by omega); refine ⟨by omega, by omega, ?_⟩; rw [e2, q2, e1, h3]; rfl)) (by show cC u - (r + 1) < cC u - r; omega)
    · skip
      refine ek_aln X 0 rfl dX0_shortestWay_37 ?_
      refine ek_il X 4 rfl dX0_shortestWay_38 ?_
      refine ek_doRi (ek_runV (As := [.int (nI i)]) (rest := []) X (c_X0_isOpen l D cI cJ cR ad ((cC u, cP u, cW u, cWal u, cHgt u, cBat u, cSyl u, cDel u, cDrs u, cFrm u, cTo u, cLen u, cNar u, cPb u, g)) hB i (by omega)) gX0_shortestWay_X0_isOpen rfl hdV_X0_isOpen ⟨Nat.le_of_ble_eq_true rfl, Nat.le_of_ble_eq_true rfl⟩ ⟨Nat.le_of_ble_eq_true rfl, Nat.le_of_ble_eq_true rfl⟩ [0, 1, 2, 3, 4, 5, 6, 7, 8, 9, 10, 11, 12, 13, 14, 15, 16, 17, 18, 19, 20, 21, 22, 23, 24] rfl (by decide) 0 0 rfl rfl (Nat.le_of_ble_eq_true rfl) dX0_shortestWay_40) (fun v_40 hv_40 => ?_)
      subst hv_40
      by_cases c_40 : cOpen u i
      · refine ek_top (v' := nI 1) (congrArg nI (if_pos c_40)) ?_
        refine ek_Zeq X (by omega) 96 (by decide) dX0_shortestWay_43 (fun h => absurd h (by omega)) (fun _ => ?_)
        refine ek_aln X 0 rfl dX0_shortestWay_46 ?_
        refine ek_aln X 0 rfl dX0_shortestWay_47 ?_
        refine ek_get X hin_X0_shortestWay_X0 0 rfl rfl 9 (by decide) (List.mem_of_getElem? (i := 4) rfl) rfl dX0_shortestWay_48 ?_
        refine ek_il X 4 rfl dX0_shortestWay_51 ?_
        refine ek_ald X 8 0 rfl rfl (by omega) (by omega) dX0_shortestWay_53 ?_
        refine ek_top (v' := nI ((cFrm u) i)) rfl ?_
        have b1_53 := bFrm i
        refine ek_aln X 0 rfl dX0_shortestWay_54 ?_
        refine ek_get X hin_X0_shortestWay_X0 0 rfl rfl 10 (by decide) (List.mem_of_getElem? (i := 5) rfl) rfl dX0_shortestWay_55 ?_
        refine ek_il X 4 rfl dX0_shortestWay_58 ?_
        refine ek_ald X 9 0 rfl rfl (by omega) (by omega) dX0_shortestWay_60 ?_
        refine ek_top (v' := nI ((cTo u) i)) rfl ?_
        have b2_60 := bTo i
        refine ek_aln X 0 rfl dX0_shortestWay_61 ?_
        refine ek_get X hin_X0_shortestWay_X0 0 rfl rfl 11 (by decide) (List.mem_of_getElem? (i := 6) rfl) rfl dX0_shortestWay_62 ?_
        refine ek_il X 4 rfl dX0_shortestWay_65 ?_
        refine ek_ald X 10 0 rfl rfl (by omega) (by omega) dX0_shortestWay_67 ?_
        refine ek_top (v' := nI ((cLen u) i)) rfl ?_
        have b3_67 := bLen i
        refine ek_doWv X (ek_runV (As := [.int (nI ((cFrm u) i)), .int (nI ((cTo u) i)), .int (nI ((cLen u) i))]) (rest := []) X (c_X0_shorten l D cI cJ cR ad ((cC u, cP u, cW u, cWal u, cHgt u, cBat u, cSyl u, cDel u, cDrs u, cFrm u, cTo u, cLen u, cNar u, cPb u, g)) ((cFrm u) i) ((cTo u) i) ((cLen u) i) (by omega) (by omega)) gX0_shortestWay_X0_shorten rfl hdV_X0_shorten ⟨Nat.le_of_ble_eq_true rfl, Nat.le_of_ble_eq_true rfl⟩ ⟨Nat.le_of_ble_eq_true rfl, Nat.le_of_ble_eq_true rfl⟩ [0, 1, 2, 3, 4, 5, 6, 7, 8, 9, 10, 11, 12, 13, 14, 15, 16, 17, 18, 19, 20, 21, 22, 23, 24] rfl (by decide) 0 0 rfl rfl (Nat.le_of_ble_eq_true rfl) dX0_shortestWay_68) [0, 1, 2, 3, 4, 5, 6, 7, 8, 9, 10, 11, 12, 13, 14, 15, 16, 17, 18, 19, 20, 21, 22, 23, 24] [] rfl rfl (by decide) (by decide) (fun _ => wC ad cI cR (cC u, cP u, cW u, cWal u, cHgt u, cBat u, cSyl u, cDel u, cDrs u, cFrm u, cTo u, cLen u, cNar u, cPb u, eShort g ((cFrm u) i) ((cTo u) i) ((cLen u) i))) [0, 1, 2, 3, 4, 5, 6, 7, 8, 9, 10, 11, 12, 13, 14, 15, 16, 17, 18, 19, 20, 21, 22, 23, 24] (by decide) (fun _ => rfl) (fun u_68 hv_68 => ?_)
        refine ek_aln X 0 rfl dX0_shortestWay_71 ?_
        refine ek_aln X 0 rfl dX0_shortestWay_72 ?_
        refine ek_get X hin_X0_shortestWay_X0 0 rfl rfl 10 (by decide) (List.mem_of_getElem? (i := 5) rfl) rfl dX0_shortestWay_73 ?_
        refine ek_il X 4 rfl dX0_shortestWay_76 ?_
        refine ek_ald X 9 0 rfl rfl (by omega) (by omega) dX0_shortestWay_78 ?_
        refine ek_top (v' := nI ((cTo u) i)) rfl ?_
        have b4_78 := bTo i
        refine ek_aln X 0 rfl dX0_shortestWay_79 ?_
        refine ek_get X hin_X0_shortestWay_X0 0 rfl rfl 9 (by decide) (List.mem_of_getElem? (i := 4) rfl) rfl dX0_shortestWay_80 ?_
        refine ek_il X 4 rfl dX0_shortestWay_83 ?_
        refine ek_ald X 8 0 rfl rfl (by omega) (by omega) dX0_shortestWay_85 ?_
        refine ek_top (v' := nI ((cFrm u) i)) rfl ?_
        have b5_85 := bFrm i
        refine ek_aln X 0 rfl dX0_shortestWay_86 ?_
        refine ek_get X hin_X0_shortestWay_X0 0 rfl rfl 11 (by decide) (List.mem_of_getElem? (i := 6) rfl) rfl dX0_shortestWay_87 ?_
        refine ek_il X 4 rfl dX0_shortestWay_90 ?_
        refine ek_ald X 10 0 rfl rfl (by omega) (by omega) dX0_shortestWay_92 ?_
        refine ek_top (v' := nI ((cLen u) i)) rfl ?_
        have b6_92 := bLen i
        refine ek_doWv X (ek_runV (As := [.int (nI ((cTo u) i)), .int (nI ((cFrm u) i)), .int (nI ((cLen u) i))]) (rest := []) X (c_X0_shorten l D cI cJ cR ad ((cC u, cP u, cW u, cWal u, cHgt u, cBat u, cSyl u, cDel u, cDrs u, cFrm u, cTo u, cLen u, cNar u, cPb u, eShort g ((cFrm u) i) ((cTo u) i) ((cLen u) i))) ((cTo u) i) ((cFrm u) i) ((cLen u) i) (by omega) (by omega)) gX0_shortestWay_X0_shorten rfl hdV_X0_shorten ⟨Nat.le_of_ble_eq_true rfl, Nat.le_of_ble_eq_true rfl⟩ ⟨Nat.le_of_ble_eq_true rfl, Nat.le_of_ble_eq_true rfl⟩ [0, 1, 2, 3, 4, 5, 6, 7, 8, 9, 10, 11, 12, 13, 14, 15, 16, 17, 18, 19, 20, 21, 22, 23, 24] rfl (by decide) 0 0 rfl rfl (Nat.le_of_ble_eq_true rfl) dX0_shortestWay_93) [0, 1, 2, 3, 4, 5, 6, 7, 8, 9, 10, 11, 12, 13, 14, 15, 16, 17, 18, 19, 20, 21, 22, 23, 24] [] rfl rfl (by decide) (by decide) (fun _ => wC ad cI cR (cC u, cP u, cW u, cWal u, cHgt u, cBat u, cSyl u, cDel u, cDrs u, cFrm u, cTo u, cLen u, cNar u, cPb u, eShort (eShort g ((cFrm u) i) ((cTo u) i) ((cLen u) i)) ((cTo u) i) ((cFrm u) i) ((cLen u) i))) [0, 1, 2, 3, 4, 5, 6, 7, 8, 9, 10, 11, 12, 13, 14, 15, 16, 17, 18, 19, 20, 21, 22, 23, 24] (by decide) (fun _ => rfl) (fun u_93 hv_93 => ?_)
        refine ek_Ninc (j := 4) (d := 1) (lv' := [(4, .int (nI (i + 1))), (0, .ref (ad 0)), (1, .int (nI a)), (2, .int (nI b)), (3, .int (nI r))]) X rfl (by decide) rfl dX0_shortestWay_96 ?_
        refine ek_goto X 28 (by decide) dX0_shortestWay_99 ?_
        refine ek_re [1, 2, 3, 4, 0] rfl ?_
        exact ih_28 (i + 1, eShort (eShort g ((cFrm u) i) ((cTo u) i) ((cLen u) i)) ((cTo u) i) ((cFrm u) i) ((cLen u) i)) (show (i + 1) ≤ cP u ∧ (eShort (eShort g ((cFrm u) i) ((cTo u) i) ((cLen u) i)) ((cTo u) i) ((cFrm u) i) ((cLen u) i)) = wayRound u f (i + 1) from (by obtain ⟨q1, q2⟩ := ha_28; refine ⟨by omega, ?_⟩; rw [q2]; first | exact (if_pos c_40).symm | exact (if_neg c_40).symm)) (by show cP u - (i + 1) < cP u - i; omega)
      · refine ek_top (v' := nI 0) (congrArg nI (if_neg c_40)) ?_
        refine ek_Zeq X (by omega) 96 (by decide) dX0_shortestWay_43 (fun _ => ?_) (fun h => absurd h (by omega))
        refine ek_Ninc (j := 4) (d := 1) (lv' := [(4, .int (nI (i + 1))), (0, .ref (ad 0)), (1, .int (nI a)), (2, .int (nI b)), (3, .int (nI r))]) X rfl (by decide) rfl dX0_shortestWay_96 ?_
        refine ek_goto X 28 (by decide) dX0_shortestWay_99 ?_
        refine ek_re [1, 2, 3, 4, 0] rfl ?_
        exact ih_28 (i + 1, g) (show (i + 1) ≤ cP u ∧ g = wayRound u f (i + 1) from (by obtain ⟨q1, q2⟩ := ha_28; refine ⟨by omega, ?_⟩; rw [q2]; first | exact (if_pos c_40).symm | exact (if_neg c_40).symm)) (by show cP u - (i + 1) < cP u - i; omega)

theorem hin_X0_highestWater_X0 : ∀ x ∈ wsX00, x ∈ wsX0_highestWater := fun x h => List.mem_cons_of_mem _ (List.mem_append_right _ h)
abbrev rm_X0_highestWater : Room := { frames := 2, cells := 0, slots := 0, locals := 45 }
set_option maxHeartbeats 4000000 in
set_option maxRecDepth 100000 in
theorem c_X0_highestWater (l : Launch) (D : va_G) (cI cJ cR : ClassId) (ad : Nat → Nat) (u : CaveT) (hB : cOk u) (b : Nat) (hb : b < 12) : ek_M (S := Unit) l yX0_highestWater wsX0_highestWater rm_X0_highestWater D (tyW cI cJ cR) nestW [.ref (ad 0), .int (nI b)] (wC ad cI cR u) (fun r9 _ => ∃ v : Int32, r9 = some (.int v) ∧ v = upOf u b) (fun _ => wC ad cI cR (cSetF u (upOf u))) := by
  refine ek_M.of (cc := cX0_highestWater) (maxL := 4) (ret := (some .int)) (by decide) rfl (Nat.le_of_ble_eq_true rfl) ?_
  intro p9 e9 s9 m9 args9 below9 meth9 c9 A X hin
  obtain ⟨⟨hC1, hC2⟩, hPs, hWt, bWal, bHgt, bBat, bSyl, bDel, bDrs, bFrm, bTo, bLen, bNar, bPb⟩ := id hB
  refine ek_castL (lv' := [(0, .ref (ad 0)), (1, .int (nI b))]) rfl ?_
  refine ek_aln X 0 rfl dX0_highestWater_0 ?_
  refine ek_get X hin_X0_highestWater_X0 0 rfl rfl 14 (by decide) (List.mem_of_getElem? (i := 1) rfl) rfl dX0_highestWater_1 ?_
  refine ek_ic (v := -1) X (by decide) dX0_highestWater_4 ?_
  refine ek_doWv X (ek_runS (As := [.ref (ad 12), .int (-1)]) (rest := []) X (c_J7_fill_53178 l D cI cJ cR (ad 12) 12 (-1) (cFnd u) (by decide)) gX0_highestWater_J7_fill_53178 rfl hd_J7_fill_53178 ⟨Nat.le_of_ble_eq_true rfl, Nat.le_of_ble_eq_true rfl⟩ ⟨Nat.le_of_ble_eq_true rfl, Nat.le_of_ble_eq_true rfl⟩ [12] rfl (by decide) (Nat.le_of_ble_eq_true rfl) dX0_highestWater_5) [12] [0, 1, 2, 3, 4, 5, 6, 7, 8, 9, 10, 11, 13, 14, 15, 16, 17, 18, 19, 20, 21, 22, 23, 24] rfl rfl (by decide) (by decide) (fun _ => wC ad cI cR (cC u, cP u, cW u, cWal u, cHgt u, cBat u, cSyl u, cDel u, cDrs u, cFrm u, cTo u, cLen u, cNar u, cPb u, eFill 12 (-1) (cFnd u))) [0, 1, 2, 3, 4, 5, 6, 7, 8, 9, 10, 11, 24, 12, 13, 14, 15, 16, 17, 18, 19, 20, 21, 22, 23] (by decide) (fun _ => rfl) (fun u_5 hv_5 => ?_)
  refine ek_aln X 0 rfl dX0_highestWater_8 ?_
  refine ek_get X hin_X0_highestWater_X0 0 rfl rfl 14 (by decide) (List.mem_of_getElem? (i := 1) rfl) rfl dX0_highestWater_9 ?_
  refine ek_ic (v := nI 0) X (by decide) dX0_highestWater_12 ?_
  refine ek_bp (v := nI 30) X (by decide) dX0_highestWater_13 ?_
  refine ek_ast (w' := wC ad cI cR (cC u, cP u, cW u, cWal u, cHgt u, cBat u, cSyl u, cDel u, cDrs u, cFrm u, cTo u, cLen u, cNar u, cPb u, eN (eFill 12 (-1) (cFnd u)) 0 (nI 30))) X 12 0 rfl rfl (by omega) (by omega) rfl dX0_highestWater_15 ?_
  refine ek_ic (v := nI 1) X (by decide) dX0_highestWater_16 ?_
  refine ek_isn (lv' := [(2, .int (nI 1)), (0, .ref (ad 0)), (1, .int (nI b))]) X (by decide) rfl dX0_highestWater_17 ?_
  refine ek_loopAt (σ := Nat × (Nat → Int32)) (fun zz => (fun (r : Nat) (f : Nat → Int32) => 1 ≤ r ∧ r ≤ cC u ∧ f = upAll u (eN (eFill 12 (-1) (cFnd u)) 0 (nI 30)) (r - 1)) zz.1 zz.2) (fun zz => (fun (r : Nat) (f : Nat → Int32) => cC u - r) zz.1 zz.2) (fun zz => (fun (r : Nat) (f : Nat → Int32) => wC ad cI cR (cC u, cP u, cW u, cWal u, cHgt u, cBat u, cSyl u, cDel u, cDrs u, cFrm u, cTo u, cLen u, cNar u, cPb u, f)) zz.1 zz.2) (fun zz => (fun (r : Nat) (f : Nat → Int32) => [(0, .ref (ad 0)), (1, .int (nI b)), (2, .int (nI r))]) zz.1 zz.2) ?_ (1, eN (eFill 12 (-1) (cFnd u)) 0 (nI 30)) ⟨by omega, by omega, rfl⟩ rfl [1, 2, 0] rfl
  intro zz ha_18 ih_18
  obtain ⟨r, f⟩ := zz
  replace ha_18 : 1 ≤ r ∧ r ≤ cC u ∧ f = upAll u (eN (eFill 12 (-1) (cFnd u)) 0 (nI 30)) (r - 1) := ha_18
  refine ek_cast (w' := wC ad cI cR (cC u, cP u, cW u, cWal u, cHgt u, cBat u, cSyl u, cDel u, cDrs u, cFrm u, cTo u, cLen u, cNar u, cPb u, f)) rfl ?_
  refine ek_castL (lv' := [(0, .ref (ad 0)), (1, .int (nI b)), (2, .int (nI r))]) rfl ?_
  refine ek_iln X 2 rfl dX0_highestWater_18 ?_
  refine ek_aln X 0 rfl dX0_highestWater_19 ?_
  refine ek_get X hin_X0_highestWater_X0 0 rfl rfl 0 (by decide) (List.mem_of_getElem? (i := 2) rfl) rfl dX0_highestWater_20 ?_
  refine ek_top (v' := nI (cC u)) rfl ?_
  refine ek_Nge X (by omega) (by omega) 80 (by decide) dX0_highestWater_23 (fun c_23 => ?_) (fun c_23 => ?_)
  · skip
    refine ek_aln X 0 rfl dX0_highestWater_80 ?_
    refine ek_get X hin_X0_highestWater_X0 0 rfl rfl 14 (by decide) (List.mem_of_getElem? (i := 1) rfl) rfl dX0_highestWater_81 ?_
    refine ek_iln X 1 rfl dX0_highestWater_84 ?_
    refine ek_ald X 12 0 rfl rfl (by omega) (by omega) dX0_highestWater_85 ?_
    refine ek_top (v' := f b) rfl ?_
    exact ek_reti X () ⟨_, rfl, (by obtain ⟨h1, h2, h3⟩ := ha_18; rw [h3, show r - 1 = cC u - 1 by omega]; rfl)⟩ (by obtain ⟨h1, h2, h3⟩ := ha_18; rw [h3, show r - 1 = cC u - 1 by omega]; rfl) dX0_highestWater_86
  · skip
    refine ek_ic (v := nI 0) X (by decide) dX0_highestWater_26 ?_
    refine ek_isn (lv' := [(3, .int (nI 0)), (0, .ref (ad 0)), (1, .int (nI b)), (2, .int (nI r))]) X (by decide) rfl dX0_highestWater_27 ?_
    refine ek_loopAt (σ := Nat × (Nat → Int32)) (fun zz => (fun (i : Nat) (g : Nat → Int32) => i ≤ cP u ∧ g = upRound u f i) zz.1 zz.2) (fun zz => (fun (i : Nat) (g : Nat → Int32) => cP u - i) zz.1 zz.2) (fun zz => (fun (i : Nat) (g : Nat → Int32) => wC ad cI cR (cC u, cP u, cW u, cWal u, cHgt u, cBat u, cSyl u, cDel u, cDrs u, cFrm u, cTo u, cLen u, cNar u, cPb u, g)) zz.1 zz.2) (fun zz => (fun (i : Nat) (g : Nat → Int32) => [(0, .ref (ad 0)), (1, .int (nI b)), (2, .int (nI r)), (3, .int (nI i))]) zz.1 zz.2) ?_ (0, f) ⟨Nat.zero_le _, rfl⟩ rfl [1, 2, 3, 0] rfl
    intro zz ha_28 ih_28
    obtain ⟨i, g⟩ := zz
    replace ha_28 : i ≤ cP u ∧ g = upRound u f i := ha_28
    refine ek_cast (w' := wC ad cI cR (cC u, cP u, cW u, cWal u, cHgt u, cBat u, cSyl u, cDel u, cDrs u, cFrm u, cTo u, cLen u, cNar u, cPb u, g)) rfl ?_
    refine ek_castL (lv' := [(0, .ref (ad 0)), (1, .int (nI b)), (2, .int (nI r)), (3, .int (nI i))]) rfl ?_
    have bf := bFrm i
    have bt := bTo i
    refine ek_iln X 3 rfl dX0_highestWater_28 ?_
    refine ek_aln X 0 rfl dX0_highestWater_29 ?_
    refine ek_get X hin_X0_highestWater_X0 0 rfl rfl 8 (by decide) (List.mem_of_getElem? (i := 3) rfl) rfl dX0_highestWater_30 ?_
    refine ek_top (v' := nI (cP u)) rfl ?_
    refine ek_Nge X (by omega) (by omega) 74 (by decide) dX0_highestWater_33 (fun c_33 => ?_) (fun c_33 => ?_)
    · skip
      refine ek_Ninc (j := 2) (d := 1) (lv' := [(2, .int (nI (r + 1))), (0, .ref (ad 0)), (1, .int (nI b)), (3, .int (nI i))]) X rfl (by decide) rfl dX0_highestWater_74 ?_
      refine ek_goto X 18 (by decide) dX0_highestWater_77 ?_
      refine ek_re [1, 2, 0] rfl ?_
      exact ih_18 (r + 1, g) (show 1 ≤ (r + 1) ∧ (r + 1) ≤ cC u ∧ g = upAll u (eN (eFill 12 (-1) (cFnd u)) 0 (nI 30)) ((r + 1) - 1) from (by obtain ⟨h1, h2, h3⟩ := ha_18; obtain ⟨q1, q2⟩ := ha_28; have e1 : i = cP u := (by omega); have e2 : r + 1 - 1 = (r - 1) + 1 := (by omega); refine ⟨by omega, by omega, ?_⟩; rw [e2, q2, e1, h3]; rfl)) (by show cC u - (r + 1) < cC u - r; omega)
    · skip
      refine ek_aln X 0 rfl dX0_highestWater_36 ?_
      refine ek_aln X 0 rfl dX0_highestWater_37 ?_
      refine ek_get X hin_X0_highestWater_X0 0 rfl rfl 9 (by decide) (List.mem_of_getElem? (i := 4) rfl) rfl dX0_highestWater_38 ?_
      refine ek_iln X 3 rfl dX0_highestWater_41 ?_
      refine ek_ald X 8 0 rfl rfl (by omega) (by omega) dX0_highestWater_42 ?_
      refine ek_top (v' := nI ((cFrm u) i)) rfl ?_
      have b1_42 := bFrm i
      refine ek_aln X 0 rfl dX0_highestWater_43 ?_
      refine ek_get X hin_X0_highestWater_X0 0 rfl rfl 10 (by decide) (List.mem_of_getElem? (i := 5) rfl) rfl dX0_highestWater_44 ?_
      refine ek_iln X 3 rfl dX0_highestWater_47 ?_
      refine ek_ald X 9 0 rfl rfl (by omega) (by omega) dX0_highestWater_48 ?_
      refine ek_top (v' := nI ((cTo u) i)) rfl ?_
      have b2_48 := bTo i
      refine ek_doWv X (ek_runV (As := [.int (nI ((cFrm u) i)), .int (nI ((cTo u) i))]) (rest := []) X (c_X0_raise l D cI cJ cR ad ((cC u, cP u, cW u, cWal u, cHgt u, cBat u, cSyl u, cDel u, cDrs u, cFrm u, cTo u, cLen u, cNar u, cPb u, g)) ((cFrm u) i) ((cTo u) i) (by omega) (by omega)) gX0_highestWater_X0_raise rfl hdV_X0_raise ⟨Nat.le_of_ble_eq_true rfl, Nat.le_of_ble_eq_true rfl⟩ ⟨Nat.le_of_ble_eq_true rfl, Nat.le_of_ble_eq_true rfl⟩ [0, 1, 2, 3, 4, 5, 6, 7, 8, 9, 10, 11, 12, 13, 14, 15, 16, 17, 18, 19, 20, 21, 22, 23, 24] rfl (by decide) 0 0 rfl rfl (Nat.le_of_ble_eq_true rfl) dX0_highestWater_49) [0, 1, 2, 3, 4, 5, 6, 7, 8, 9, 10, 11, 12, 13, 14, 15, 16, 17, 18, 19, 20, 21, 22, 23, 24] [] rfl rfl (by decide) (by decide) (fun _ => wC ad cI cR (cC u, cP u, cW u, cWal u, cHgt u, cBat u, cSyl u, cDel u, cDrs u, cFrm u, cTo u, cLen u, cNar u, cPb u, eRaise u g ((cFrm u) i) ((cTo u) i))) [0, 1, 2, 3, 4, 5, 6, 7, 8, 9, 10, 11, 12, 13, 14, 15, 16, 17, 18, 19, 20, 21, 22, 23, 24] (by decide) (fun _ => rfl) (fun u_49 hv_49 => ?_)
      refine ek_aln X 0 rfl dX0_highestWater_52 ?_
      refine ek_aln X 0 rfl dX0_highestWater_53 ?_
      refine ek_get X hin_X0_highestWater_X0 0 rfl rfl 10 (by decide) (List.mem_of_getElem? (i := 5) rfl) rfl dX0_highestWater_54 ?_
      refine ek_iln X 3 rfl dX0_highestWater_57 ?_
      refine ek_ald X 9 0 rfl rfl (by omega) (by omega) dX0_highestWater_58 ?_
      refine ek_top (v' := nI ((cTo u) i)) rfl ?_
      have b3_58 := bTo i
      refine ek_aln X 0 rfl dX0_highestWater_59 ?_
      refine ek_get X hin_X0_highestWater_X0 0 rfl rfl 9 (by decide) (List.mem_of_getElem? (i := 4) rfl) rfl dX0_highestWater_60 ?_
      refine ek_iln X 3 rfl dX0_highestWater_63 ?_
      refine ek_ald X 8 0 rfl rfl (by omega) (by omega) dX0_highestWater_64 ?_
      refine ek_top (v' := nI ((cFrm u) i)) rfl ?_
      have b4_64 := bFrm i
      refine ek_doWv X (ek_runV (As := [.int (nI ((cTo u) i)), .int (nI ((cFrm u) i))]) (rest := []) X (c_X0_raise l D cI cJ cR ad ((cC u, cP u, cW u, cWal u, cHgt u, cBat u, cSyl u, cDel u, cDrs u, cFrm u, cTo u, cLen u, cNar u, cPb u, eRaise u g ((cFrm u) i) ((cTo u) i))) ((cTo u) i) ((cFrm u) i) (by omega) (by omega)) gX0_highestWater_X0_raise rfl hdV_X0_raise ⟨Nat.le_of_ble_eq_true rfl, Nat.le_of_ble_eq_true rfl⟩ ⟨Nat.le_of_ble_eq_true rfl, Nat.le_of_ble_eq_true rfl⟩ [0, 1, 2, 3, 4, 5, 6, 7, 8, 9, 10, 11, 12, 13, 14, 15, 16, 17, 18, 19, 20, 21, 22, 23, 24] rfl (by decide) 0 0 rfl rfl (Nat.le_of_ble_eq_true rfl) dX0_highestWater_65) [0, 1, 2, 3, 4, 5, 6, 7, 8, 9, 10, 11, 12, 13, 14, 15, 16, 17, 18, 19, 20, 21, 22, 23, 24] [] rfl rfl (by decide) (by decide) (fun _ => wC ad cI cR (cC u, cP u, cW u, cWal u, cHgt u, cBat u, cSyl u, cDel u, cDrs u, cFrm u, cTo u, cLen u, cNar u, cPb u, eRaise u (eRaise u g ((cFrm u) i) ((cTo u) i)) ((cTo u) i) ((cFrm u) i))) [0, 1, 2, 3, 4, 5, 6, 7, 8, 9, 10, 11, 12, 13, 14, 15, 16, 17, 18, 19, 20, 21, 22, 23, 24] (by decide) (fun _ => rfl) (fun u_65 hv_65 => ?_)
      refine ek_Ninc (j := 3) (d := 1) (lv' := [(3, .int (nI (i + 1))), (0, .ref (ad 0)), (1, .int (nI b)), (2, .int (nI r))]) X rfl (by decide) rfl dX0_highestWater_68 ?_
      refine ek_goto X 28 (by decide) dX0_highestWater_71 ?_
      refine ek_re [1, 2, 3, 0] rfl ?_
      exact ih_28 (i + 1, eRaise u (eRaise u g ((cFrm u) i) ((cTo u) i)) ((cTo u) i) ((cFrm u) i)) (show (i + 1) ≤ cP u ∧ (eRaise u (eRaise u g ((cFrm u) i) ((cTo u) i)) ((cTo u) i) ((cFrm u) i)) = upRound u f (i + 1) from (by obtain ⟨q1, q2⟩ := ha_28; refine ⟨by omega, ?_⟩; rw [q2]; rfl)) (by show cP u - (i + 1) < cP u - i; omega)
