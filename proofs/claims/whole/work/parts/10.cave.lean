/-! ===== EchoCave.isWithin ===== -/

abbrev rm_X4_isWithin : Room := { frames := 1, cells := 0, slots := 0, locals := 12 }
set_option maxHeartbeats 4000000 in
set_option maxRecDepth 100000 in
/-- lo ≤ x ≤ hi -/
theorem c_X4_isWithin (l : Launch) (D : va_G) (cI cJ cR : ClassId) (x lo hi : Int32) : ek_R l yX4_isWithin wsX4_isWithin rm_X4_isWithin D (tyW cI cJ cR) nestW [.int x, .int lo, .int hi] ([]) (fun r => ∃ v : Int32, r = some (.int v) ∧ v = nI (if lo ≤ x ∧ x ≤ hi then 1 else 0)) := by
  refine ek_R.of (cc := cX4_isWithin) (maxL := 3) (ret := (some .boolean)) (by decide) rfl (by decide) ?_
  intro p e s m args below meth c X
  refine ek_castL (lv' := [(0, .int x), (1, .int lo), (2, .int hi)]) rfl ?_
  refine ek_iln X 1 rfl dX4_isWithin_0 ?_
  refine ek_iln X 0 rfl dX4_isWithin_1 ?_
  refine ek_icmp_gt X 14 (by decide) dX4_isWithin_2 (fun c_2 => ?_) (fun c_2 => ?_)
  · skip
    refine ek_ic (v := nI 0) X (by decide) dX4_isWithin_14 ?_
    exact ek_retzR X (by decide) ⟨_, rfl, (by first | rw [if_pos ⟨Int32.not_lt.mp c_2, Int32.not_lt.mp c_7⟩] | rw [if_neg (fun h => Int32.not_lt.mpr h.1 c_2)] | rw [if_neg (fun h => Int32.not_lt.mpr h.2 c_7)])⟩ dX4_isWithin_15
  · skip
    refine ek_iln X 0 rfl dX4_isWithin_5 ?_
    refine ek_iln X 2 rfl dX4_isWithin_6 ?_
    refine ek_icmp_gt X 14 (by decide) dX4_isWithin_7 (fun c_7 => ?_) (fun c_7 => ?_)
    · skip
      refine ek_ic (v := nI 0) X (by decide) dX4_isWithin_14 ?_
      exact ek_retzR X (by decide) ⟨_, rfl, (by first | rw [if_pos ⟨Int32.not_lt.mp c_2, Int32.not_lt.mp c_7⟩] | rw [if_neg (fun h => Int32.not_lt.mpr h.1 c_2)] | rw [if_neg (fun h => Int32.not_lt.mpr h.2 c_7)])⟩ dX4_isWithin_15
    · skip
      refine ek_ic (v := nI 1) X (by decide) dX4_isWithin_10 ?_
      refine ek_goto X 15 (by decide) dX4_isWithin_11 ?_
      exact ek_retzR X (by decide) ⟨_, rfl, (by first | rw [if_pos ⟨Int32.not_lt.mp c_2, Int32.not_lt.mp c_7⟩] | rw [if_neg (fun h => Int32.not_lt.mpr h.1 c_2)] | rw [if_neg (fun h => Int32.not_lt.mpr h.2 c_7)])⟩ dX4_isWithin_15

/-! ===== EchoCave.Cave ===== -/
abbrev cOpen (u : CaveT) (i : Nat) : Prop := cW u ≤ cHgt u (cFrm u i) ∧ cW u ≤ cHgt u (cTo u i)

theorem hin_X0_hasChamber_X0 : ∀ x ∈ wsX00, x ∈ wsX0_hasChamber := fun x h => List.mem_cons_of_mem _ (List.mem_append_right _ h)
set_option maxRecDepth 20000 in
theorem gn_X0_hasChamber_X4_isWithin : GoodIn wsX0_hasChamber wsX4_isWithin := goodIn_r _ [4] (by decide +kernel) (by decide +kernel)
abbrev rm_X0_hasChamber : Room := { frames := 2, cells := 0, slots := 0, locals := 34 }
set_option maxHeartbeats 4000000 in
set_option maxRecDepth 100000 in
theorem c_X0_hasChamber (l : Launch) (D : va_G) (cI cJ cR : ClassId) (ad : Nat → Nat) (u : CaveT) (hB : cOk u) (x : Int32) : ek_R l yX0_hasChamber wsX0_hasChamber rm_X0_hasChamber D (tyW cI cJ cR) nestW [.ref (ad 0), .int x] (wC ad cI cR u) (fun r => ∃ v : Int32, r = some (.int v) ∧ v = nI (if nI 0 ≤ x ∧ x ≤ nI (cC u - 1) then 1 else 0)) := by
  refine ek_R.of (cc := cX0_hasChamber) (maxL := 2) (ret := (some .boolean)) (by decide) rfl (by decide) ?_
  intro p e s m args below meth c X
  obtain ⟨⟨hC1, hC2⟩, hPs, hWt, bWal, bHgt, bBat, bSyl, bDel, bDrs, bFrm, bTo, bLen, bNar, bPb⟩ := id hB
  refine ek_castL (lv' := [(0, .ref (ad 0)), (1, .int x)]) rfl ?_
  refine ek_iln X 1 rfl dX0_hasChamber_0 ?_
  refine ek_ic (v := nI 0) X (by decide) dX0_hasChamber_1 ?_
  refine ek_aln X 0 rfl dX0_hasChamber_2 ?_
  refine ek_get X hin_X0_hasChamber_X0 0 rfl rfl 0 (by decide) (List.mem_of_getElem? (i := 1) rfl) rfl dX0_hasChamber_3 ?_
  refine ek_ic (v := nI 1) X (by decide) dX0_hasChamber_6 ?_
  refine ek_Nsub X (by omega) dX0_hasChamber_7 ?_
  refine ek_doRi X (ek_runSN (As := [.int x, .int (nI 0), .int (nI ((cC u) - 1))]) (rest := []) X (c_X4_isWithin l D cI cJ cR (x) (nI 0) (nI ((cC u) - 1))) gn_X0_hasChamber_X4_isWithin rfl (List.mem_of_getElem? (i := 32) rfl) (List.mem_of_getElem? (i := 3) rfl) (List.mem_of_getElem? (i := 2) rfl) hd_X4_isWithin ⟨Nat.le_of_ble_eq_true rfl, Nat.le_of_ble_eq_true rfl⟩ ⟨Nat.le_of_ble_eq_true rfl, Nat.le_of_ble_eq_true rfl⟩ [] rfl (by decide) (by decide) dX0_hasChamber_8) (fun v_8 hv_8 => ?_)
  subst hv_8
  by_cases c_8 : nI 0 ≤ x ∧ x ≤ nI ((cC u) - 1)
  · rw [if_pos c_8]
    exact ek_retzR X (by decide) ⟨_, rfl, (by first | rw [if_pos ‹_›] | rw [if_neg ‹_›])⟩ dX0_hasChamber_11
  · rw [if_neg c_8]
    exact ek_retzR X (by decide) ⟨_, rfl, (by first | rw [if_pos ‹_›] | rw [if_neg ‹_›])⟩ dX0_hasChamber_11

theorem hin_X0_hasPassage_X0 : ∀ x ∈ wsX00, x ∈ wsX0_hasPassage := fun x h => List.mem_cons_of_mem _ (List.mem_append_right _ h)
set_option maxRecDepth 20000 in
theorem gn_X0_hasPassage_X4_isWithin : GoodIn wsX0_hasPassage wsX4_isWithin := goodIn_r _ [4] (by decide +kernel) (by decide +kernel)
abbrev rm_X0_hasPassage : Room := { frames := 2, cells := 0, slots := 0, locals := 34 }
set_option maxHeartbeats 4000000 in
set_option maxRecDepth 100000 in
theorem c_X0_hasPassage (l : Launch) (D : va_G) (cI cJ cR : ClassId) (ad : Nat → Nat) (u : CaveT) (hB : cOk u) (hP1 : 1 ≤ cP u) (x : Int32) : ek_R l yX0_hasPassage wsX0_hasPassage rm_X0_hasPassage D (tyW cI cJ cR) nestW [.ref (ad 0), .int x] (wC ad cI cR u) (fun r => ∃ v : Int32, r = some (.int v) ∧ v = nI (if nI 0 ≤ x ∧ x ≤ nI (cP u - 1) then 1 else 0)) := by
  refine ek_R.of (cc := cX0_hasPassage) (maxL := 2) (ret := (some .boolean)) (by decide) rfl (by decide) ?_
  intro p e s m args below meth c X
  obtain ⟨⟨hC1, hC2⟩, hPs, hWt, bWal, bHgt, bBat, bSyl, bDel, bDrs, bFrm, bTo, bLen, bNar, bPb⟩ := id hB
  refine ek_castL (lv' := [(0, .ref (ad 0)), (1, .int x)]) rfl ?_
  refine ek_iln X 1 rfl dX0_hasPassage_0 ?_
  refine ek_ic (v := nI 0) X (by decide) dX0_hasPassage_1 ?_
  refine ek_aln X 0 rfl dX0_hasPassage_2 ?_
  refine ek_get X hin_X0_hasPassage_X0 0 rfl rfl 8 (by decide) (List.mem_of_getElem? (i := 1) rfl) rfl dX0_hasPassage_3 ?_
  refine ek_ic (v := nI 1) X (by decide) dX0_hasPassage_6 ?_
  refine ek_Nsub X (by omega) dX0_hasPassage_7 ?_
  refine ek_doRi X (ek_runSN (As := [.int x, .int (nI 0), .int (nI ((cP u) - 1))]) (rest := []) X (c_X4_isWithin l D cI cJ cR (x) (nI 0) (nI ((cP u) - 1))) gn_X0_hasPassage_X4_isWithin rfl (List.mem_of_getElem? (i := 32) rfl) (List.mem_of_getElem? (i := 3) rfl) (List.mem_of_getElem? (i := 2) rfl) hd_X4_isWithin ⟨Nat.le_of_ble_eq_true rfl, Nat.le_of_ble_eq_true rfl⟩ ⟨Nat.le_of_ble_eq_true rfl, Nat.le_of_ble_eq_true rfl⟩ [] rfl (by decide) (by decide) dX0_hasPassage_8) (fun v_8 hv_8 => ?_)
  subst hv_8
  by_cases c_8 : nI 0 ≤ x ∧ x ≤ nI ((cP u) - 1)
  · rw [if_pos c_8]
    exact ek_retzR X (by decide) ⟨_, rfl, (by first | rw [if_pos ‹_›] | rw [if_neg ‹_›])⟩ dX0_hasPassage_11
  · rw [if_neg c_8]
    exact ek_retzR X (by decide) ⟨_, rfl, (by first | rw [if_pos ‹_›] | rw [if_neg ‹_›])⟩ dX0_hasPassage_11

theorem hin_X0_isOpen_X0 : ∀ x ∈ wsX00, x ∈ wsX0_isOpen := fun x h => List.mem_cons_of_mem _ (List.mem_append_right _ h)
abbrev rm_X0_isOpen : Room := { frames := 1, cells := 0, slots := 0, locals := 12 }
set_option maxHeartbeats 4000000 in
set_option maxRecDepth 100000 in
theorem c_X0_isOpen (l : Launch) (D : va_G) (cI cJ cR : ClassId) (ad : Nat → Nat) (u : CaveT) (hB : cOk u) (i : Nat) (hi : i < 18) : ek_R l yX0_isOpen wsX0_isOpen rm_X0_isOpen D (tyW cI cJ cR) nestW [.ref (ad 0), .int (nI i)] (wC ad cI cR u) (fun r => ∃ v : Int32, r = some (.int v) ∧ v = nI (if cOpen u i then 1 else 0)) := by
  refine ek_R.of (cc := cX0_isOpen) (maxL := 2) (ret := (some .boolean)) (by decide) rfl (by decide) ?_
  intro p e s m args below meth c X
  obtain ⟨⟨hC1, hC2⟩, hPs, hWt, bWal, bHgt, bBat, bSyl, bDel, bDrs, bFrm, bTo, bLen, bNar, bPb⟩ := id hB
  refine ek_castL (lv' := [(0, .ref (ad 0)), (1, .int (nI i))]) rfl ?_
  refine ek_aln X 0 rfl dX0_isOpen_0 ?_
  refine ek_get X hin_X0_isOpen_X0 0 rfl rfl 2 (by decide) (List.mem_of_getElem? (i := 1) rfl) rfl dX0_isOpen_1 ?_
  refine ek_aln X 0 rfl dX0_isOpen_4 ?_
  refine ek_get X hin_X0_isOpen_X0 0 rfl rfl 9 (by decide) (List.mem_of_getElem? (i := 2) rfl) rfl dX0_isOpen_5 ?_
  refine ek_iln X 1 rfl dX0_isOpen_8 ?_
  refine ek_ald X 8 0 rfl rfl (by omega) (by omega) dX0_isOpen_9 ?_
  have b1_9 := bFrm i
  refine ek_ald X 2 0 rfl rfl (by omega) (by omega) dX0_isOpen_10 ?_
  have b2_10 := bHgt ((cFrm u) i)
  refine ek_aln X 0 rfl dX0_isOpen_11 ?_
  refine ek_get X hin_X0_isOpen_X0 0 rfl rfl 13 (by decide) (List.mem_of_getElem? (i := 3) rfl) rfl dX0_isOpen_12 ?_
  refine ek_Nlt X (by omega) (by omega) 40 (by decide) dX0_isOpen_15 (fun c_15 => ?_) (fun c_15 => ?_)
  · skip
    refine ek_ic (v := nI 0) X (by decide) dX0_isOpen_40 ?_
    exact ek_retzR X (by decide) ⟨_, rfl, (by first | rw [if_pos ⟨by omega, by omega⟩] | rw [if_neg (by omega)])⟩ dX0_isOpen_41
  · skip
    refine ek_aln X 0 rfl dX0_isOpen_18 ?_
    refine ek_get X hin_X0_isOpen_X0 0 rfl rfl 2 (by decide) (List.mem_of_getElem? (i := 1) rfl) rfl dX0_isOpen_19 ?_
    refine ek_aln X 0 rfl dX0_isOpen_22 ?_
    refine ek_get X hin_X0_isOpen_X0 0 rfl rfl 10 (by decide) (List.mem_of_getElem? (i := 4) rfl) rfl dX0_isOpen_23 ?_
    refine ek_iln X 1 rfl dX0_isOpen_26 ?_
    refine ek_ald X 9 0 rfl rfl (by omega) (by omega) dX0_isOpen_27 ?_
    have b3_27 := bTo i
    refine ek_ald X 2 0 rfl rfl (by omega) (by omega) dX0_isOpen_28 ?_
    have b4_28 := bHgt ((cTo u) i)
    refine ek_aln X 0 rfl dX0_isOpen_29 ?_
    refine ek_get X hin_X0_isOpen_X0 0 rfl rfl 13 (by decide) (List.mem_of_getElem? (i := 3) rfl) rfl dX0_isOpen_30 ?_
    refine ek_Nlt X (by omega) (by omega) 40 (by decide) dX0_isOpen_33 (fun c_33 => ?_) (fun c_33 => ?_)
    · skip
      refine ek_ic (v := nI 0) X (by decide) dX0_isOpen_40 ?_
      exact ek_retzR X (by decide) ⟨_, rfl, (by first | rw [if_pos ⟨by omega, by omega⟩] | rw [if_neg (by omega)])⟩ dX0_isOpen_41
    · skip
      refine ek_ic (v := nI 1) X (by decide) dX0_isOpen_36 ?_
      refine ek_goto X 41 (by decide) dX0_isOpen_37 ?_
      exact ek_retzR X (by decide) ⟨_, rfl, (by first | rw [if_pos ⟨by omega, by omega⟩] | rw [if_neg (by omega)])⟩ dX0_isOpen_41

theorem hin_X0_otherEnd_X0 : ∀ x ∈ wsX00, x ∈ wsX0_otherEnd := fun x h => List.mem_cons_of_mem _ (List.mem_append_right _ h)
abbrev rm_X0_otherEnd : Room := { frames := 1, cells := 0, slots := 0, locals := 12 }
set_option maxHeartbeats 4000000 in
set_option maxRecDepth 100000 in
theorem c_X0_otherEnd (l : Launch) (D : va_G) (cI cJ cR : ClassId) (ad : Nat → Nat) (u : CaveT) (hB : cOk u) (i c : Nat) (hi : i < 18) (hc : c < 12) : ek_R l yX0_otherEnd wsX0_otherEnd rm_X0_otherEnd D (tyW cI cJ cR) nestW [.ref (ad 0), .int (nI i), .int (nI c)] (wC ad cI cR u) (fun r => ∃ v : Int32, r = some (.int v) ∧ v = nI (if cFrm u i = c then cTo u i else cFrm u i)) := by
  refine ek_R.of (cc := cX0_otherEnd) (maxL := 3) (ret := (some .int)) (by decide) rfl (by decide) ?_
  intro p e s m args below meth c X
  obtain ⟨⟨hC1, hC2⟩, hPs, hWt, bWal, bHgt, bBat, bSyl, bDel, bDrs, bFrm, bTo, bLen, bNar, bPb⟩ := id hB
  refine ek_castL (lv' := [(0, .ref (ad 0)), (1, .int (nI i)), (2, .int (nI c))]) rfl ?_
  refine ek_aln X 0 rfl dX0_otherEnd_0 ?_
  refine ek_get X hin_X0_otherEnd_X0 0 rfl rfl 9 (by decide) (List.mem_of_getElem? (i := 1) rfl) rfl dX0_otherEnd_1 ?_
  refine ek_iln X 1 rfl dX0_otherEnd_4 ?_
  refine ek_ald X 8 0 rfl rfl (by omega) (by omega) dX0_otherEnd_5 ?_
  have b1_5 := bFrm i
  refine ek_iln X 2 rfl dX0_otherEnd_6 ?_
  refine ek_Nne X (by omega) (by omega) 19 (by decide) dX0_otherEnd_7 (fun c_7 => ?_) (fun c_7 => ?_)
  · skip
    refine ek_aln X 0 rfl dX0_otherEnd_19 ?_
    refine ek_get X hin_X0_otherEnd_X0 0 rfl rfl 9 (by decide) (List.mem_of_getElem? (i := 1) rfl) rfl dX0_otherEnd_20 ?_
    refine ek_iln X 1 rfl dX0_otherEnd_23 ?_
    refine ek_ald X 8 0 rfl rfl (by omega) (by omega) dX0_otherEnd_24 ?_
    have b2_24 := bFrm i
    exact ek_retiR X ⟨_, rfl, (by first | rw [if_pos (by omega)] | rw [if_neg (by omega)])⟩ dX0_otherEnd_25
  · skip
    refine ek_aln X 0 rfl dX0_otherEnd_10 ?_
    refine ek_get X hin_X0_otherEnd_X0 0 rfl rfl 10 (by decide) (List.mem_of_getElem? (i := 2) rfl) rfl dX0_otherEnd_11 ?_
    refine ek_iln X 1 rfl dX0_otherEnd_14 ?_
    refine ek_ald X 9 0 rfl rfl (by omega) (by omega) dX0_otherEnd_15 ?_
    have b3_15 := bTo i
    refine ek_goto X 25 (by decide) dX0_otherEnd_16 ?_
    exact ek_retiR X ⟨_, rfl, (by first | rw [if_pos (by omega)] | rw [if_neg (by omega)])⟩ dX0_otherEnd_25

theorem hin_X0_drowns_X0 : ∀ x ∈ wsX00, x ∈ wsX0_drowns := fun x h => List.mem_cons_of_mem _ (List.mem_append_right _ h)
abbrev rm_X0_drowns : Room := { frames := 1, cells := 0, slots := 0, locals := 12 }
set_option maxHeartbeats 4000000 in
set_option maxRecDepth 100000 in
theorem c_X0_drowns (l : Launch) (D : va_G) (cI cJ cR : ClassId) (ad : Nat → Nat) (u : CaveT) (hB : cOk u) (c t : Nat) (hc : c < 12) (ht : t ≤ 100) : ek_R l yX0_drowns wsX0_drowns rm_X0_drowns D (tyW cI cJ cR) nestW [.ref (ad 0), .int (nI c), .int (nI t)] (wC ad cI cR u) (fun r => ∃ v : Int32, r = some (.int v) ∧ v = nI (if t < 2 * cBat u c + 1 then 1 else 0)) := by
  refine ek_R.of (cc := cX0_drowns) (maxL := 3) (ret := (some .boolean)) (by decide) rfl (by decide) ?_
  intro p e s m args below meth c X
  obtain ⟨⟨hC1, hC2⟩, hPs, hWt, bWal, bHgt, bBat, bSyl, bDel, bDrs, bFrm, bTo, bLen, bNar, bPb⟩ := id hB
  refine ek_castL (lv' := [(0, .ref (ad 0)), (1, .int (nI c)), (2, .int (nI t))]) rfl ?_
  refine ek_iln X 2 rfl dX0_drowns_0 ?_
  refine ek_ic (v := nI 2) X (by decide) dX0_drowns_1 ?_
  refine ek_aln X 0 rfl dX0_drowns_2 ?_
  refine ek_get X hin_X0_drowns_X0 0 rfl rfl 3 (by decide) (List.mem_of_getElem? (i := 1) rfl) rfl dX0_drowns_3 ?_
  refine ek_iln X 1 rfl dX0_drowns_6 ?_
  refine ek_ald X 3 0 rfl rfl (by omega) (by omega) dX0_drowns_7 ?_
  have b1_7 := bBat c
  refine ek_Nmul X dX0_drowns_8 ?_
  refine ek_ic (v := nI 1) X (by decide) dX0_drowns_9 ?_
  refine ek_Nadd X dX0_drowns_10 ?_
  refine ek_Nge X (by omega) (by omega) 18 (by decide) dX0_drowns_11 (fun c_11 => ?_) (fun c_11 => ?_)
  · skip
    refine ek_ic (v := nI 0) X (by decide) dX0_drowns_18 ?_
    exact ek_retzR X (by decide) ⟨_, rfl, (by first | rw [if_pos (by omega)] | rw [if_neg (by omega)])⟩ dX0_drowns_19
  · skip
    refine ek_ic (v := nI 1) X (by decide) dX0_drowns_14 ?_
    refine ek_goto X 19 (by decide) dX0_drowns_15 ?_
    exact ek_retzR X (by decide) ⟨_, rfl, (by first | rw [if_pos (by omega)] | rw [if_neg (by omega)])⟩ dX0_drowns_19

theorem hin_X0_strengthBehind_X0 : ∀ x ∈ wsX00, x ∈ wsX0_strengthBehind := fun x h => List.mem_cons_of_mem _ (List.mem_append_right _ h)
abbrev rm_X0_strengthBehind : Room := { frames := 1, cells := 0, slots := 0, locals := 12 }
set_option maxHeartbeats 4000000 in
set_option maxRecDepth 100000 in
theorem c_X0_strengthBehind (l : Launch) (D : va_G) (cI cJ cR : ClassId) (ad : Nat → Nat) (u : CaveT) (hB : cOk u) (i t : Nat) (hi : i < 18) (ht : t ≤ 100) : ek_R l yX0_strengthBehind wsX0_strengthBehind rm_X0_strengthBehind D (tyW cI cJ cR) nestW [.ref (ad 0), .int (nI i), .int (nI t)] (wC ad cI cR u) (fun r => ∃ v : Int32, r = some (.int v) ∧ v = nI (t * (90 - 5 * cNar u i) / 100)) := by
  refine ek_R.of (cc := cX0_strengthBehind) (maxL := 3) (ret := (some .int)) (by decide) rfl (by decide) ?_
  intro p e s m args below meth c X
  obtain ⟨⟨hC1, hC2⟩, hPs, hWt, bWal, bHgt, bBat, bSyl, bDel, bDrs, bFrm, bTo, bLen, bNar, bPb⟩ := id hB
  refine ek_castL (lv' := [(0, .ref (ad 0)), (1, .int (nI i)), (2, .int (nI t))]) rfl ?_
  refine ek_iln X 2 rfl dX0_strengthBehind_0 ?_
  refine ek_bp (v := nI 90) X (by decide) dX0_strengthBehind_1 ?_
  refine ek_ic (v := nI 5) X (by decide) dX0_strengthBehind_3 ?_
  refine ek_aln X 0 rfl dX0_strengthBehind_4 ?_
  refine ek_get X hin_X0_strengthBehind_X0 0 rfl rfl 12 (by decide) (List.mem_of_getElem? (i := 1) rfl) rfl dX0_strengthBehind_5 ?_
  refine ek_iln X 1 rfl dX0_strengthBehind_8 ?_
  refine ek_ald X 11 0 rfl rfl (by omega) (by omega) dX0_strengthBehind_9 ?_
  have b1_9 := bNar i
  refine ek_Nmul X dX0_strengthBehind_10 ?_
  refine ek_Nsub X (by omega) dX0_strengthBehind_11 ?_
  refine ek_Nmul X dX0_strengthBehind_12 ?_
  refine ek_bp (v := nI 100) X (by decide) dX0_strengthBehind_13 ?_
  refine ek_Ndiv X (by have := Nat.mul_le_mul ht (Nat.sub_le 90 (5 * cNar u i)); omega) (by omega) (by omega) dX0_strengthBehind_15 ?_
  exact ek_retiR X ⟨_, rfl, rfl⟩ dX0_strengthBehind_16

theorem hin_X0_strengthFromWall_X0 : ∀ x ∈ wsX00, x ∈ wsX0_strengthFromWall := fun x h => List.mem_cons_of_mem _ (List.mem_append_right _ h)
abbrev rm_X0_strengthFromWall : Room := { frames := 1, cells := 0, slots := 0, locals := 12 }
set_option maxHeartbeats 4000000 in
set_option maxRecDepth 100000 in
theorem c_X0_strengthFromWall (l : Launch) (D : va_G) (cI cJ cR : ClassId) (ad : Nat → Nat) (u : CaveT) (hB : cOk u) (c t : Nat) (hc : c < 12) (ht : t ≤ 100) : ek_R l yX0_strengthFromWall wsX0_strengthFromWall rm_X0_strengthFromWall D (tyW cI cJ cR) nestW [.ref (ad 0), .int (nI c), .int (nI t)] (wC ad cI cR u) (fun r => ∃ v : Int32, r = some (.int v) ∧ v = nI (t * cWal u c / 100)) := by
  refine ek_R.of (cc := cX0_strengthFromWall) (maxL := 3) (ret := (some .int)) (by decide) rfl (by decide) ?_
  intro p e s m args below meth c X
  obtain ⟨⟨hC1, hC2⟩, hPs, hWt, bWal, bHgt, bBat, bSyl, bDel, bDrs, bFrm, bTo, bLen, bNar, bPb⟩ := id hB
  refine ek_castL (lv' := [(0, .ref (ad 0)), (1, .int (nI c)), (2, .int (nI t))]) rfl ?_
  refine ek_iln X 2 rfl dX0_strengthFromWall_0 ?_
  refine ek_aln X 0 rfl dX0_strengthFromWall_1 ?_
  refine ek_get X hin_X0_strengthFromWall_X0 0 rfl rfl 1 (by decide) (List.mem_of_getElem? (i := 1) rfl) rfl dX0_strengthFromWall_2 ?_
  refine ek_iln X 1 rfl dX0_strengthFromWall_5 ?_
  refine ek_ald X 1 0 rfl rfl (by omega) (by omega) dX0_strengthFromWall_6 ?_
  have b1_6 := bWal c
  refine ek_Nmul X dX0_strengthFromWall_7 ?_
  refine ek_bp (v := nI 100) X (by decide) dX0_strengthFromWall_8 ?_
  refine ek_Ndiv X (by have := Nat.mul_le_mul ht (bWal c); omega) (by omega) (by omega) dX0_strengthFromWall_10 ?_
  exact ek_retiR X ⟨_, rfl, rfl⟩ dX0_strengthFromWall_11
