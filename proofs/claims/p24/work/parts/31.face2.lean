/-! ===== EchoCave: wouldComeInOrder, inOrder ===== -/
theorem gThrough_ok {u : CaveT} {g : SndT} {q : QueT} {h : EchT} (hB : cOk u) (hI : sOk g q) (hH : hOk h) {w b x : Nat} (hb : b ≤ 20) (hx : x ≤ 50) : sOk (gThrough u w b x g q h).1 (gThrough u w b x g q h).2.1 ∧ hOk (gThrough u w b x g q h).2.2 := gLoop_ok hB 629 _ (gSay_ok (zero_ok hI) (dgs_le 6 w) hb _ (Nat.le_refl _)) (hBegin_ok hH (dgs_le 6 w) hx)

theorem hin_X4_wouldComeInOrder_X4 : ∀ x ∈ wsX40, x ∈ wsX4_wouldComeInOrder := fun x h => List.mem_cons_of_mem _ (List.mem_append_left _ (List.mem_append_left _ (List.mem_append_left _ (List.mem_append_left _ (List.mem_append_right _ h)))))
abbrev rm_X4_wouldComeInOrder : Room := { frames := 6, cells := 0, slots := 0, locals := 145 }
set_option maxHeartbeats 4000000 in
set_option maxRecDepth 100000 in
theorem c_X4_wouldComeInOrder (l : Launch) (D : va_G) (cI cJ cR : ClassId) (ad : Nat → Nat) (cv : CavT) (g : SndT) (q : QueT) (u : CaveT) (h k : EchT) (hB : cOk u) (hI : sOk g q) (hK : hOk k) (he : vEar cv ≤ 50) (w b : Nat) (hw : w ≤ 999999) (hw1 : 1 ≤ w) (hb : b ≤ 20) : ek_M (S := Unit) l yX4_wouldComeInOrder wsX4_wouldComeInOrder rm_X4_wouldComeInOrder D (tyW cI cJ cR) nestW [.ref (ad 46), .int (nI w), .int (nI b)] (wV ad cI cJ cR cv g q u h k) (fun r9 _ => ∃ v : Int32, r9 = some (.int v) ∧ v = nI (if hIn (gThrough u w b (vEar cv) g q k).2.2 then 1 else 0)) (fun _ => wV ad cI cJ cR cv (gThrough u w b (vEar cv) g q k).1 (gThrough u w b (vEar cv) g q k).2.1 u h (gThrough u w b (vEar cv) g q k).2.2) := by
  refine ek_M.of (cc := cX4_wouldComeInOrder) (maxL := 3) (ret := (some .boolean)) (by decide) rfl (Nat.le_of_ble_eq_true rfl) ?_
  intro p9 e9 s9 m9 args9 below9 meth9 c9 A X hin
  obtain ⟨⟨hC1, hC2⟩, hPs, hWt, bWal, bHgt, bBat, bSyl, bDel, bDrs, bFrm, bTo, bLen, bNar, bPb⟩ := id hB
  refine ek_castL (lv' := [(0, .ref (ad 46)), (1, .int (nI w)), (2, .int (nI b))]) rfl ?_
  refine ek_aln X 0 rfl dX4_wouldComeInOrder_0 ?_
  refine ek_get X hin_X4_wouldComeInOrder_X4 0 rfl rfl 1 (by decide) (List.mem_of_getElem? (i := 1) rfl) rfl dX4_wouldComeInOrder_1 ?_
  refine ek_iln X 1 rfl dX4_wouldComeInOrder_4 ?_
  refine ek_iln X 2 rfl dX4_wouldComeInOrder_5 ?_
  refine ek_aln X 0 rfl dX4_wouldComeInOrder_6 ?_
  refine ek_get X hin_X4_wouldComeInOrder_X4 0 rfl rfl 4 (by decide) (List.mem_of_getElem? (i := 2) rfl) rfl dX4_wouldComeInOrder_7 ?_
  refine ek_aln X 0 rfl dX4_wouldComeInOrder_10 ?_
  refine ek_get X hin_X4_wouldComeInOrder_X4 0 rfl rfl 3 (by decide) (List.mem_of_getElem? (i := 3) rfl) rfl dX4_wouldComeInOrder_11 ?_
  refine ek_doWv X (ek_runV (As := [.int (nI w), .int (nI b), .int (nI (vEar cv)), .ref (ad 43)]) (rest := []) X (c_X3_runThrough l D cI cJ cR ad 43 u k g q hB hI hK w b (vEar cv) (by omega) hw1 hb he) gX4_wouldComeInOrder_X3_runThrough rfl hdV_X3_runThrough ⟨Nat.le_of_ble_eq_true rfl, Nat.le_of_ble_eq_true rfl⟩ ⟨Nat.le_of_ble_eq_true rfl, Nat.le_of_ble_eq_true rfl⟩ [1, 2, 3, 4, 5, 6, 7, 8, 9, 10, 11, 12, 13, 14, 15, 16, 17, 18, 19, 20, 21, 22, 23, 24, 25, 26, 27, 28, 29, 30, 31, 35, 36, 37] rfl (by decide) 0 3 rfl rfl (Nat.le_of_ble_eq_true rfl) dX4_wouldComeInOrder_14) [1, 2, 3, 4, 5, 6, 7, 8, 9, 10, 11, 12, 13, 14, 15, 16, 17, 18, 19, 20, 21, 22, 23, 24, 25, 26, 27, 28, 29, 30, 31, 35, 36, 37] [0, 32, 33, 34] rfl rfl (by decide) (by decide) (fun _ => wV ad cI cJ cR cv (gThrough u w b (vEar cv) g q k).1 (gThrough u w b (vEar cv) g q k).2.1 u h (gThrough u w b (vEar cv) g q k).2.2) [0, 4, 5, 6, 7, 8, 9, 10, 11, 12, 13, 14, 15, 16, 17, 18, 19, 20, 21, 22, 23, 24, 25, 26, 27, 28, 29, 30, 31, 32, 33, 34, 1, 2, 3, 35, 36, 37] (by decide) (fun _ => rfl) (fun u_14 hv_14 => ?_)
  refine ek_aln X 0 rfl dX4_wouldComeInOrder_17 ?_
  refine ek_get X hin_X4_wouldComeInOrder_X4 0 rfl rfl 3 (by decide) (List.mem_of_getElem? (i := 3) rfl) rfl dX4_wouldComeInOrder_18 ?_
  refine ek_doRi (ek_runV (As := []) (rest := []) X (c_X2_cameInOrder l D cI cJ cR ad 43 ((gThrough u w b (vEar cv) g q k).2.2) (gThrough_ok hB hI hK hb he).2) gX4_wouldComeInOrder_X2_cameInOrder rfl hdV_X2_cameInOrder ⟨Nat.le_of_ble_eq_true rfl, Nat.le_of_ble_eq_true rfl⟩ ⟨Nat.le_of_ble_eq_true rfl, Nat.le_of_ble_eq_true rfl⟩ [35, 36, 37] rfl (by decide) 0 2 rfl rfl (Nat.le_of_ble_eq_true rfl) dX4_wouldComeInOrder_21) (fun v_21 hv_21 => ?_)
  subst hv_21
  by_cases c_21 : hIn ((gThrough u w b (vEar cv) g q k).2.2)
  · refine ek_top (v' := nI 1) (congrArg nI (if_pos c_21)) ?_
    exact ek_retz X () (by decide) ⟨_, rfl, (by first | exact (congrArg nI (if_pos (by assumption))).symm | exact (congrArg nI (if_neg (by assumption))).symm)⟩ rfl dX4_wouldComeInOrder_24
  · refine ek_top (v' := nI 0) (congrArg nI (if_neg c_21)) ?_
    exact ek_retz X () (by decide) ⟨_, rfl, (by first | exact (congrArg nI (if_pos (by assumption))).symm | exact (congrArg nI (if_neg (by assumption))).symm)⟩ rfl dX4_wouldComeInOrder_24

theorem hin_X4_inOrder_X4 : ∀ x ∈ wsX40, x ∈ wsX4_inOrder := fun x h => List.mem_cons_of_mem _ (List.mem_append_left _ (List.mem_append_right _ h))
abbrev rm_X4_inOrder : Room := { frames := 2, cells := 0, slots := 0, locals := 32 }
set_option maxHeartbeats 4000000 in
set_option maxRecDepth 100000 in
theorem c_X4_inOrder (l : Launch) (D : va_G) (cI cJ cR : ClassId) (ad : Nat → Nat) (cv : CavT) (g : SndT) (q : QueT) (u : CaveT) (h k : EchT) (hB : cOk u) (hH : hOk h) : ek_R l yX4_inOrder wsX4_inOrder rm_X4_inOrder D (tyW cI cJ cR) nestW [.ref (ad 46)] (wV ad cI cJ cR cv g q u h k) (fun r9 => ∃ v : Int32, r9 = some (.int v) ∧ v = nI (if hIn h then 1 else 0)) := by
  refine ek_R.of (cc := cX4_inOrder) (maxL := 1) (ret := (some .boolean)) (by decide) rfl (Nat.le_of_ble_eq_true rfl) ?_
  intro p9 e9 s9 m9 args9 below9 meth9 c9 X
  obtain ⟨⟨hC1, hC2⟩, hPs, hWt, bWal, bHgt, bBat, bSyl, bDel, bDrs, bFrm, bTo, bLen, bNar, bPb⟩ := id hB
  refine ek_castL (lv' := [(0, .ref (ad 46))]) rfl ?_
  refine ek_aln X 0 rfl dX4_inOrder_0 ?_
  refine ek_get X hin_X4_inOrder_X4 0 rfl rfl 2 (by decide) (List.mem_of_getElem? (i := 1) rfl) rfl dX4_inOrder_1 ?_
  refine ek_doRi (ek_runV (As := []) (rest := []) X (c_X2_cameInOrder l D cI cJ cR ad 40 h hH) gX4_inOrder_X2_cameInOrder rfl hdV_X2_cameInOrder ⟨Nat.le_of_ble_eq_true rfl, Nat.le_of_ble_eq_true rfl⟩ ⟨Nat.le_of_ble_eq_true rfl, Nat.le_of_ble_eq_true rfl⟩ [32, 33, 34] rfl (by decide) 0 2 rfl rfl (Nat.le_of_ble_eq_true rfl) dX4_inOrder_4) (fun v_4 hv_4 => ?_)
  subst hv_4
  by_cases c_4 : hIn h
  · refine ek_top (v' := nI 1) (congrArg nI (if_pos c_4)) ?_
    exact ek_retzR X (by decide) ⟨_, rfl, (by first | exact (congrArg nI (if_pos (by assumption))).symm | exact (congrArg nI (if_neg (by assumption))).symm)⟩ dX4_inOrder_7
  · refine ek_top (v' := nI 0) (congrArg nI (if_neg c_4)) ?_
    exact ek_retzR X (by decide) ⟨_, rfl, (by first | exact (congrArg nI (if_pos (by assumption))).symm | exact (congrArg nI (if_neg (by assumption))).symm)⟩ dX4_inOrder_7
