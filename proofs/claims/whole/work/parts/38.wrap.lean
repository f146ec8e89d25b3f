/-! ===== the law's own callers: what a call answers or throws, as a number ===== -/
def wL (ad : Nat → Nat) (cI cJ cR : ClassId) (cv : CavT) (g : SndT) (q : QueT) (u : CaveT) (h k : EchT) (o : Nat → Int64) : va_W := [
  (ad 46, .inr (4, [.ref (ad 0), .ref (ad 32), .ref (ad 40), .ref (ad 43), .int (nI (vEar cv)), .int (nI (vSaid cv)), .int (nI (vWord cv))])),
  (ad 32, .inr (3, [.ref (ad 0), .ref (ad 30), .ref (ad 33), .ref (ad 34), .ref (ad 35), .int (nI (sR g)), .int (nI (sCl g))])),
  (ad 33, .inl (cI, 17, .inl (fun j => nI (sSy g j)))),
  (ad 34, .inl (cI, 17, .inl (fun j => nI (sPl g j)))),
  (ad 35, .inl (cJ, 17, .inr (.inl (fun j => lN (sU g j))))),
  (ad 30, .inr (1, [.ref (ad 31), .int (nI (qN q))])),
  (ad 31, .inl (cI, 629, .inl (fun j => nI (qH q j)))),
  (ad 0, .inr (0, [.int (nI (cC u)), .ref (ad 1), .ref (ad 2), .ref (ad 3), .ref (ad 4), .ref (ad 5), .ref (ad 6), .ref (ad 7), .int (nI (cP u)), .ref (ad 8), .ref (ad 9), .ref (ad 10), .ref (ad 11), .int (nI (cW u)), .ref (ad 12)])),
  (ad 1, .inl (cI, 12, .inl (fun j => nI (cWal u j)))),
  (ad 2, .inl (cI, 12, .inl (fun j => nI (cHgt u j)))),
  (ad 3, .inl (cI, 12, .inl (fun j => nI (cBat u j)))),
  (ad 4, .inl (cI, 12, .inl (fun j => nI (cSyl u j)))),
  (ad 5, .inl (cI, 12, .inl (fun j => nI (cDel u j)))),
  (ad 6, .inl (cI, 12, .inl (fun j => nI (cDrs u j)))),
  (ad 7, .inl (cR, 12, .inr (.inr (.inr (.inr (fun i => if i < 12 then some (ad (13 + i)) else none)))))),
  (ad 8, .inl (cI, 18, .inl (fun j => nI (cFrm u j)))),
  (ad 9, .inl (cI, 18, .inl (fun j => nI (cTo u j)))),
  (ad 10, .inl (cI, 18, .inl (fun j => nI (cLen u j)))),
  (ad 11, .inl (cI, 18, .inl (fun j => nI (cNar u j)))),
  (ad 12, .inl (cI, 12, .inl (cFnd u))),
  (ad 13, .inl (cI, 18, .inl (fun j => nI (cPb u 0 j)))),
  (ad 14, .inl (cI, 18, .inl (fun j => nI (cPb u 1 j)))),
  (ad 15, .inl (cI, 18, .inl (fun j => nI (cPb u 2 j)))),
  (ad 16, .inl (cI, 18, .inl (fun j => nI (cPb u 3 j)))),
  (ad 17, .inl (cI, 18, .inl (fun j => nI (cPb u 4 j)))),
  (ad 18, .inl (cI, 18, .inl (fun j => nI (cPb u 5 j)))),
  (ad 19, .inl (cI, 18, .inl (fun j => nI (cPb u 6 j)))),
  (ad 20, .inl (cI, 18, .inl (fun j => nI (cPb u 7 j)))),
  (ad 21, .inl (cI, 18, .inl (fun j => nI (cPb u 8 j)))),
  (ad 22, .inl (cI, 18, .inl (fun j => nI (cPb u 9 j)))),
  (ad 23, .inl (cI, 18, .inl (fun j => nI (cPb u 10 j)))),
  (ad 24, .inl (cI, 18, .inl (fun j => nI (cPb u 11 j)))),
  (ad 40, .inr (2, [.ref (ad (40 + 1)), .ref (ad (40 + 2)), .int (nI (hPl h)), .int (nI (hEar h)), .int (nI (hK h)), .int (nI (hCt h)), .int (nI (hOr h)), .int (hLa h)])),
  (ad (40 + 1), .inl (cI, 300, .inl (fun j => nI (hFa h j)))),
  (ad (40 + 2), .inl (cI, 6, .inl (hFi h))),
  (ad 43, .inr (2, [.ref (ad (43 + 1)), .ref (ad (43 + 2)), .int (nI (hPl k)), .int (nI (hEar k)), .int (nI (hK k)), .int (nI (hCt k)), .int (nI (hOr k)), .int (hLa k)])),
  (ad (43 + 1), .inl (cI, 300, .inl (fun j => nI (hFa k j)))),
  (ad (43 + 2), .inl (cI, 6, .inl (hFi k))),
  (ad 90, .inl (cJ, 1, .inr (.inl (o))))]
abbrev rm_L_addChamber : Room := { frames := 8, cells := 4, slots := 24, locals := 125 }
set_option maxHeartbeats 4000000 in
set_option maxRecDepth 100000 in
theorem c_L_addChamber (l : Launch) (hl : l.stackTraces = false) (D : va_G) (cI cJ cR : ClassId) (ad : Nat → Nat) (cv : CavT) (g : SndT) (q : QueT) (u : CaveT) (h k : EchT) (o : Nat → Int64) (hB : cOk u) (a : Nat) (t : Nat) (b : Nat) (ha : a < 4294967296) (ht : t < 4294967296) (hb : b < 4294967296) : ek_MZ (S := Unit) l yL_addChamber wsL_addChamber rm_L_addChamber D (tyW cI cJ cR) nestW [.ref (ad 46), .int (nI a), .int (nI t), .int (nI b), .ref (ad 90)] (wL ad cI cJ cR cv g q u h k o) (fun r9 _ => ∃ v : Int32, r9 = some (.int v) ∧ v = nI (xAddC a t b (cC u))) (fun _ => wL ad cI cJ cR cv g q (if xAddC a t b (cC u) = 0 then (cAdd u a t b) else u) h k (if xAddC a t b (cC u) = 0 then eN o 0 ((nI (cC u)).toInt64) else o)) := by
  refine ek_MZ.of (cc := cL_addChamber) (maxL := 6) (ret := (some .int)) (hh := [(0, 12, 15, 13), (0, 12, 19, 15)]) (by decide) rfl (Nat.le_of_ble_eq_true rfl) ?_
  intro p9 e9 s9 m9 args9 below9 meth9 c9 A X hZ hT
  refine ek_castL (lv' := [(0, .ref (ad 46)), (1, .int (nI a)), (2, .int (nI t)), (3, .int (nI b)), (4, .ref (ad 90))]) rfl ?_
  refine ek_al X 4 rfl dL_addChamber_0 ?_
  refine ek_ic (v := nI 0) X (by decide) dL_addChamber_2 ?_
  refine ek_aln X 0 rfl dL_addChamber_3 ?_
  refine ek_iln X 1 rfl dL_addChamber_4 ?_
  refine ek_iln X 2 rfl dL_addChamber_5 ?_
  refine ek_iln X 3 rfl dL_addChamber_6 ?_
  refine ek_doXi X (ek_runVX (As := [.int (nI a), .int (nI t), .int (nI b)]) (rest := [.int (nI 0), .ref (ad 90)]) X hZ (c_X4_addChamber l hl D cI cJ cR ad cv g q u h k hB  a t b (by omega) (by omega) (by omega)) gL_addChamber_X4_addChamber rfl hdV_X4_addChamber ⟨Nat.le_of_ble_eq_true rfl, Nat.le_of_ble_eq_true rfl⟩ ⟨Nat.le_of_ble_eq_true rfl, Nat.le_of_ble_eq_true rfl⟩ [0, 1, 2, 3, 4, 5, 6, 7, 8, 9, 10, 11, 12, 13, 14, 15, 16, 17, 18, 19, 20, 21, 22, 23, 24, 25, 26, 27, 28, 29, 30, 31, 32, 33, 34, 35, 36, 37] rfl (by decide) 0 4 rfl rfl (Nat.le_of_ble_eq_true rfl) dL_addChamber_7) [0, 1, 2, 3, 4, 5, 6, 7, 8, 9, 10, 11, 12, 13, 14, 15, 16, 17, 18, 19, 20, 21, 22, 23, 24, 25, 26, 27, 28, 29, 30, 31, 32, 33, 34, 35, 36, 37] [38] rfl rfl (by decide) (by decide) (fun _ => wL ad cI cJ cR cv g q (cAdd u a t b) h k o) [1, 2, 3, 4, 5, 6, 7, 8, 9, 10, 11, 12, 13, 14, 15, 16, 17, 18, 19, 20, 21, 22, 23, 24, 25, 26, 27, 28, 29, 30, 31, 32, 33, 34, 35, 36, 37, 38, 0] (by decide) (fun _ => rfl) rfl (fun E9 hE9 => ?_) (fun v_7 u_7 hv_7 => ?_)
  · rcases hE9 with ⟨hx, rfl⟩ | ⟨hx, rfl⟩
    · refine ek_catch (w' := []) X [] (⟨0, 12, 15, 13⟩ : ExceptionTableEntry) [(⟨0, 12, 19, 15⟩ : ExceptionTableEntry)] (hT.trans rfl) (fun z hz => absurd hz List.not_mem_nil) (by decide) (by decide) (List.mem_of_getElem? (i := 1) rfl) hZ.2.1.1.1 (fun q9 => ?_)
      have hnc : ¬ xAddC a t b (cC u) = 0 := by rw [hx]; decide
      refine ek_as (lv' := [(5, .ref q9), (0, .ref (ad 46)), (1, .int (nI a)), (2, .int (nI t)), (3, .int (nI b)), (4, .ref (ad 90))]) X (by decide) rfl dL_addChamber_15 ?_
      refine ek_ic (v := nI 1) X (by decide) dL_addChamber_17 ?_
      refine ek_widen (k' := 4) (n' := 24) (Nat.le_of_ble_eq_true rfl) (Nat.le_of_ble_eq_true rfl) ?_
      exact ek_reti X () ⟨_, rfl, (by first | exact congrArg nI hc_7.symm | exact congrArg nI hx.symm)⟩ (by first | rw [if_pos hc_7, if_pos hc_7] | rw [if_neg hnc, if_neg hnc]) dL_addChamber_18
    · refine ek_catch (w' := []) X [(⟨0, 12, 15, 13⟩ : ExceptionTableEntry)] (⟨0, 12, 19, 15⟩ : ExceptionTableEntry) [] (hT.trans rfl) (fun z hz => by rw [List.mem_singleton.mp hz]; exact Or.inr ⟨by decide, _, (List.mem_of_getElem? (i := 1) rfl), hZ.2.2.2.1⟩) (by decide) (by decide) (List.mem_of_getElem? (i := 2) rfl) hZ.2.1.1.2.2 (fun q9 => ?_)
      have hnc : ¬ xAddC a t b (cC u) = 0 := by rw [hx]; decide
      refine ek_as (lv' := [(5, .ref q9), (0, .ref (ad 46)), (1, .int (nI a)), (2, .int (nI t)), (3, .int (nI b)), (4, .ref (ad 90))]) X (by decide) rfl dL_addChamber_19 ?_
      refine ek_ic (v := nI 2) X (by decide) dL_addChamber_21 ?_
      refine ek_widen (k' := 4) (n' := 24) (Nat.le_of_ble_eq_true rfl) (Nat.le_of_ble_eq_true rfl) ?_
      exact ek_reti X () ⟨_, rfl, (by first | exact congrArg nI hc_7.symm | exact congrArg nI hx.symm)⟩ (by first | rw [if_pos hc_7, if_pos hc_7] | rw [if_neg hnc, if_neg hnc]) dL_addChamber_22
  obtain ⟨hc_7, rfl⟩ := hv_7
  refine ek_i2l (v := (nI (cC u)).toInt64) X rfl dL_addChamber_10 ?_
  refine ek_last (w' := wL ad cI cJ cR cv g q (cAdd u a t b) h k (eN o 0 ((nI (cC u)).toInt64))) X 38 1 rfl rfl (by omega) (by omega) rfl dL_addChamber_11 ?_
  refine ek_goto X 23 (by decide) dL_addChamber_12 ?_
  refine ek_ic (v := nI 0) X (by decide) dL_addChamber_23 ?_
  refine ek_widen (k' := 4) (n' := 24) (Nat.le_of_ble_eq_true rfl) (Nat.le_of_ble_eq_true rfl) ?_
  exact ek_reti X () ⟨_, rfl, (by first | exact congrArg nI hc_7.symm | exact congrArg nI hx.symm)⟩ (by first | rw [if_pos hc_7, if_pos hc_7] | rw [if_neg hnc, if_neg hnc]) dL_addChamber_24

abbrev rm_L_addPassage : Room := { frames := 8, cells := 6, slots := 36, locals := 126 }
set_option maxHeartbeats 4000000 in
set_option maxRecDepth 100000 in
theorem c_L_addPassage (l : Launch) (hl : l.stackTraces = false) (D : va_G) (cI cJ cR : ClassId) (ad : Nat → Nat) (cv : CavT) (g : SndT) (q : QueT) (u : CaveT) (h k : EchT) (o : Nat → Int64) (hB : cOk u) (a : Nat) (b : Nat) (n : Nat) (w : Nat) (ha : a < 4294967296) (hb : b < 4294967296) (hn : n < 4294967296) (hw : w < 4294967296) : ek_MZ (S := Unit) l yL_addPassage wsL_addPassage rm_L_addPassage D (tyW cI cJ cR) nestW [.ref (ad 46), .int (nI a), .int (nI b), .int (nI n), .int (nI w), .ref (ad 90)] (wL ad cI cJ cR cv g q u h k o) (fun r9 _ => ∃ v : Int32, r9 = some (.int v) ∧ v = nI (xAddP a b n w (cC u) (cP u))) (fun _ => wL ad cI cJ cR cv g q (if xAddP a b n w (cC u) (cP u) = 0 then (cPass u a b n w) else u) h k (if xAddP a b n w (cC u) (cP u) = 0 then eN o 0 ((nI (cP u)).toInt64) else o)) := by
  refine ek_MZ.of (cc := cL_addPassage) (maxL := 7) (ret := (some .int)) (hh := [(0, 14, 17, 21), (0, 14, 21, 13), (0, 14, 25, 15)]) (by decide) rfl (Nat.le_of_ble_eq_true rfl) ?_
  intro p9 e9 s9 m9 args9 below9 meth9 c9 A X hZ hT
  refine ek_castL (lv' := [(0, .ref (ad 46)), (1, .int (nI a)), (2, .int (nI b)), (3, .int (nI n)), (4, .int (nI w)), (5, .ref (ad 90))]) rfl ?_
  refine ek_al X 5 rfl dL_addPassage_0 ?_
  refine ek_ic (v := nI 0) X (by decide) dL_addPassage_2 ?_
  refine ek_aln X 0 rfl dL_addPassage_3 ?_
  refine ek_iln X 1 rfl dL_addPassage_4 ?_
  refine ek_iln X 2 rfl dL_addPassage_5 ?_
  refine ek_iln X 3 rfl dL_addPassage_6 ?_
  refine ek_il X 4 rfl dL_addPassage_7 ?_
  refine ek_doXi X (ek_runVX (As := [.int (nI a), .int (nI b), .int (nI n), .int (nI w)]) (rest := [.int (nI 0), .ref (ad 90)]) X hZ (c_X4_addPassage l hl D cI cJ cR ad cv g q u h k hB  a b n w (by omega) (by omega) (by omega) (by omega)) gL_addPassage_X4_addPassage rfl hdV_X4_addPassage ⟨Nat.le_of_ble_eq_true rfl, Nat.le_of_ble_eq_true rfl⟩ ⟨Nat.le_of_ble_eq_true rfl, Nat.le_of_ble_eq_true rfl⟩ [0, 1, 2, 3, 4, 5, 6, 7, 8, 9, 10, 11, 12, 13, 14, 15, 16, 17, 18, 19, 20, 21, 22, 23, 24, 25, 26, 27, 28, 29, 30, 31, 32, 33, 34, 35, 36, 37] rfl (by decide) 0 4 rfl rfl (Nat.le_of_ble_eq_true rfl) dL_addPassage_9) [0, 1, 2, 3, 4, 5, 6, 7, 8, 9, 10, 11, 12, 13, 14, 15, 16, 17, 18, 19, 20, 21, 22, 23, 24, 25, 26, 27, 28, 29, 30, 31, 32, 33, 34, 35, 36, 37] [38] rfl rfl (by decide) (by decide) (fun _ => wL ad cI cJ cR cv g q (cPass u a b n w) h k o) [1, 2, 3, 4, 5, 6, 7, 8, 9, 10, 11, 12, 13, 14, 15, 16, 17, 18, 19, 20, 21, 22, 23, 24, 25, 26, 27, 28, 29, 30, 31, 32, 33, 34, 35, 36, 37, 38, 0] (by decide) (fun _ => rfl) rfl (fun E9 hE9 => ?_) (fun v_9 u_9 hv_9 => ?_)
  · rcases hE9 with ⟨hx, rfl⟩ | ⟨hx, rfl⟩ | ⟨hx, rfl⟩
    · refine ek_catch (w' := []) X [] (⟨0, 14, 17, 21⟩ : ExceptionTableEntry) [(⟨0, 14, 21, 13⟩ : ExceptionTableEntry), (⟨0, 14, 25, 15⟩ : ExceptionTableEntry)] (hT.trans rfl) (fun z hz => absurd hz List.not_mem_nil) (by decide) (by decide) (List.mem_of_getElem? (i := 1) rfl) hZ.2.1.1.2.1 (fun q9 => ?_)
      have hnc : ¬ xAddP a b n w (cC u) (cP u) = 0 := by rw [hx]; decide
      refine ek_as (lv' := [(6, .ref q9), (0, .ref (ad 46)), (1, .int (nI a)), (2, .int (nI b)), (3, .int (nI n)), (4, .int (nI w)), (5, .ref (ad 90))]) X (by decide) rfl dL_addPassage_17 ?_
      refine ek_ic (v := nI 1) X (by decide) dL_addPassage_19 ?_
      refine ek_widen (k' := 6) (n' := 36) (Nat.le_of_ble_eq_true rfl) (Nat.le_of_ble_eq_true rfl) ?_
      exact ek_reti X () ⟨_, rfl, (by first | exact congrArg nI hc_9.symm | exact congrArg nI hx.symm)⟩ (by first | rw [if_pos hc_9, if_pos hc_9] | rw [if_neg hnc, if_neg hnc]) dL_addPassage_20
    · refine ek_catch (w' := []) X [(⟨0, 14, 17, 21⟩ : ExceptionTableEntry)] (⟨0, 14, 21, 13⟩ : ExceptionTableEntry) [(⟨0, 14, 25, 15⟩ : ExceptionTableEntry)] (hT.trans rfl) (fun z hz => by rw [List.mem_singleton.mp hz]; exact Or.inr ⟨by decide, _, (List.mem_of_getElem? (i := 1) rfl), hZ.2.2.2.2.1⟩) (by decide) (by decide) (List.mem_of_getElem? (i := 2) rfl) hZ.2.1.1.1 (fun q9 => ?_)
      have hnc : ¬ xAddP a b n w (cC u) (cP u) = 0 := by rw [hx]; decide
      refine ek_as (lv' := [(6, .ref q9), (0, .ref (ad 46)), (1, .int (nI a)), (2, .int (nI b)), (3, .int (nI n)), (4, .int (nI w)), (5, .ref (ad 90))]) X (by decide) rfl dL_addPassage_21 ?_
      refine ek_ic (v := nI 2) X (by decide) dL_addPassage_23 ?_
      refine ek_widen (k' := 6) (n' := 36) (Nat.le_of_ble_eq_true rfl) (Nat.le_of_ble_eq_true rfl) ?_
      exact ek_reti X () ⟨_, rfl, (by first | exact congrArg nI hc_9.symm | exact congrArg nI hx.symm)⟩ (by first | rw [if_pos hc_9, if_pos hc_9] | rw [if_neg hnc, if_neg hnc]) dL_addPassage_24
    · refine ek_catch (w' := []) X [(⟨0, 14, 17, 21⟩ : ExceptionTableEntry), (⟨0, 14, 21, 13⟩ : ExceptionTableEntry)] (⟨0, 14, 25, 15⟩ : ExceptionTableEntry) [] (hT.trans rfl) (fun z hz => by rcases List.mem_cons.mp hz with rfl | hz; exact Or.inr ⟨by decide, _, (List.mem_of_getElem? (i := 1) rfl), hZ.2.2.2.2.2.1⟩; rw [List.mem_singleton.mp hz]; exact Or.inr ⟨by decide, _, (List.mem_of_getElem? (i := 2) rfl), hZ.2.2.2.1⟩) (by decide) (by decide) (List.mem_of_getElem? (i := 3) rfl) hZ.2.1.1.2.2 (fun q9 => ?_)
      have hnc : ¬ xAddP a b n w (cC u) (cP u) = 0 := by rw [hx]; decide
      refine ek_as (lv' := [(6, .ref q9), (0, .ref (ad 46)), (1, .int (nI a)), (2, .int (nI b)), (3, .int (nI n)), (4, .int (nI w)), (5, .ref (ad 90))]) X (by decide) rfl dL_addPassage_25 ?_
      refine ek_ic (v := nI 3) X (by decide) dL_addPassage_27 ?_
      refine ek_widen (k' := 6) (n' := 36) (Nat.le_of_ble_eq_true rfl) (Nat.le_of_ble_eq_true rfl) ?_
      exact ek_reti X () ⟨_, rfl, (by first | exact congrArg nI hc_9.symm | exact congrArg nI hx.symm)⟩ (by first | rw [if_pos hc_9, if_pos hc_9] | rw [if_neg hnc, if_neg hnc]) dL_addPassage_28
  obtain ⟨hc_9, rfl⟩ := hv_9
  refine ek_i2l (v := (nI (cP u)).toInt64) X rfl dL_addPassage_12 ?_
  refine ek_last (w' := wL ad cI cJ cR cv g q (cPass u a b n w) h k (eN o 0 ((nI (cP u)).toInt64))) X 38 1 rfl rfl (by omega) (by omega) rfl dL_addPassage_13 ?_
  refine ek_goto X 29 (by decide) dL_addPassage_14 ?_
  refine ek_ic (v := nI 0) X (by decide) dL_addPassage_29 ?_
  refine ek_widen (k' := 6) (n' := 36) (Nat.le_of_ble_eq_true rfl) (Nat.le_of_ble_eq_true rfl) ?_
  exact ek_reti X () ⟨_, rfl, (by first | exact congrArg nI hc_9.symm | exact congrArg nI hx.symm)⟩ (by first | rw [if_pos hc_9, if_pos hc_9] | rw [if_neg hnc, if_neg hnc]) dL_addPassage_30

abbrev rm_L_setWater : Room := { frames := 8, cells := 1, slots := 6, locals := 124 }
set_option maxHeartbeats 4000000 in
set_option maxRecDepth 100000 in
theorem c_L_setWater (l : Launch) (hl : l.stackTraces = false) (D : va_G) (cI cJ cR : ClassId) (ad : Nat → Nat) (cv : CavT) (g : SndT) (q : QueT) (u : CaveT) (h k : EchT) (o : Nat → Int64) (hB : cOk u) (k9 : Nat) (hk9 : k9 < 4294967296) : ek_MZ (S := Unit) l yL_setWater wsL_setWater rm_L_setWater D (tyW cI cJ cR) nestW [.ref (ad 46), .int (nI k9), .ref (ad 90)] (wL ad cI cJ cR cv g q u h k o) (fun r9 _ => ∃ v : Int32, r9 = some (.int v) ∧ v = nI (xSetW k9)) (fun _ => wL ad cI cJ cR cv g q (if xSetW k9 = 0 then (cC u, cP u, k9, cWal u, cHgt u, cBat u, cSyl u, cDel u, cDrs u, cFrm u, cTo u, cLen u, cNar u, cPb u, cFnd u) else u) h k (if xSetW k9 = 0 then eN o 0 ((nI (cW u)).toInt64) else o)) := by
  refine ek_MZ.of (cc := cL_setWater) (maxL := 4) (ret := (some .int)) (hh := [(0, 9, 12, 13)]) (by decide) rfl (Nat.le_of_ble_eq_true rfl) ?_
  intro p9 e9 s9 m9 args9 below9 meth9 c9 A X hZ hT
  refine ek_castL (lv' := [(0, .ref (ad 46)), (1, .int (nI k9)), (2, .ref (ad 90))]) rfl ?_
  refine ek_aln X 2 rfl dL_setWater_0 ?_
  refine ek_ic (v := nI 0) X (by decide) dL_setWater_1 ?_
  refine ek_aln X 0 rfl dL_setWater_2 ?_
  refine ek_iln X 1 rfl dL_setWater_3 ?_
  refine ek_doXi X (ek_runVX (As := [.int (nI k9)]) (rest := [.int (nI 0), .ref (ad 90)]) X hZ (c_X4_setWater l hl D cI cJ cR ad cv g q u h k hB  k9 (by omega)) gL_setWater_X4_setWater rfl hdV_X4_setWater ⟨Nat.le_of_ble_eq_true rfl, Nat.le_of_ble_eq_true rfl⟩ ⟨Nat.le_of_ble_eq_true rfl, Nat.le_of_ble_eq_true rfl⟩ [0, 1, 2, 3, 4, 5, 6, 7, 8, 9, 10, 11, 12, 13, 14, 15, 16, 17, 18, 19, 20, 21, 22, 23, 24, 25, 26, 27, 28, 29, 30, 31, 32, 33, 34, 35, 36, 37] rfl (by decide) 0 4 rfl rfl (Nat.le_of_ble_eq_true rfl) dL_setWater_4) [0, 1, 2, 3, 4, 5, 6, 7, 8, 9, 10, 11, 12, 13, 14, 15, 16, 17, 18, 19, 20, 21, 22, 23, 24, 25, 26, 27, 28, 29, 30, 31, 32, 33, 34, 35, 36, 37] [38] rfl rfl (by decide) (by decide) (fun _ => wL ad cI cJ cR cv g q (cC u, cP u, k9, cWal u, cHgt u, cBat u, cSyl u, cDel u, cDrs u, cFrm u, cTo u, cLen u, cNar u, cPb u, cFnd u) h k o) [1, 2, 3, 4, 5, 6, 7, 8, 9, 10, 11, 12, 13, 14, 15, 16, 17, 18, 19, 20, 21, 22, 23, 24, 25, 26, 27, 28, 29, 30, 31, 32, 33, 34, 35, 36, 37, 38, 0] (by decide) (fun _ => rfl) rfl (fun E9 hE9 => ?_) (fun v_4 u_4 hv_4 => ?_)
  · obtain ⟨hx, rfl⟩ := hE9
    refine ek_catch (w' := []) X [] (⟨0, 9, 12, 13⟩ : ExceptionTableEntry) [] (hT.trans rfl) (fun z hz => absurd hz List.not_mem_nil) (by decide) (by decide) (List.mem_of_getElem? (i := 1) rfl) hZ.2.1.1.1 (fun q9 => ?_)
    have hnc : ¬ xSetW k9 = 0 := by rw [hx]; decide
    refine ek_asn (lv' := [(3, .ref q9), (0, .ref (ad 46)), (1, .int (nI k9)), (2, .ref (ad 90))]) X (by decide) rfl dL_setWater_12 ?_
    refine ek_ic (v := nI 1) X (by decide) dL_setWater_13 ?_
    refine ek_widen (k' := 1) (n' := 6) (Nat.le_of_ble_eq_true rfl) (Nat.le_of_ble_eq_true rfl) ?_
    exact ek_reti X () ⟨_, rfl, (by first | exact congrArg nI hc_4.symm | exact congrArg nI hx.symm)⟩ (by first | rw [if_pos hc_4, if_pos hc_4] | rw [if_neg hnc, if_neg hnc]) dL_setWater_14
  obtain ⟨hc_4, rfl⟩ := hv_4
  refine ek_i2l (v := (nI (cW u)).toInt64) X rfl dL_setWater_7 ?_
  refine ek_last (w' := wL ad cI cJ cR cv g q (cC u, cP u, k9, cWal u, cHgt u, cBat u, cSyl u, cDel u, cDrs u, cFrm u, cTo u, cLen u, cNar u, cPb u, cFnd u) h k (eN o 0 ((nI (cW u)).toInt64))) X 38 1 rfl rfl (by omega) (by omega) rfl dL_setWater_8 ?_
  refine ek_goto X 15 (by decide) dL_setWater_9 ?_
  refine ek_ic (v := nI 0) X (by decide) dL_setWater_15 ?_
  refine ek_widen (k' := 1) (n' := 6) (Nat.le_of_ble_eq_true rfl) (Nat.le_of_ble_eq_true rfl) ?_
  exact ek_reti X () ⟨_, rfl, (by first | exact congrArg nI hc_4.symm | exact congrArg nI hx.symm)⟩ (by first | rw [if_pos hc_4, if_pos hc_4] | rw [if_neg hnc, if_neg hnc]) dL_setWater_16

abbrev rm_L_setBats : Room := { frames := 8, cells := 2, slots := 12, locals := 125 }
set_option maxHeartbeats 4000000 in
set_option maxRecDepth 100000 in
theorem c_L_setBats (l : Launch) (hl : l.stackTraces = false) (D : va_G) (cI cJ cR : ClassId) (ad : Nat → Nat) (cv : CavT) (g : SndT) (q : QueT) (u : CaveT) (h k : EchT) (o : Nat → Int64) (hB : cOk u) (c : Nat) (b : Nat) (hc : c < 4294967296) (hb : b < 4294967296) : ek_MZ (S := Unit) l yL_setBats wsL_setBats rm_L_setBats D (tyW cI cJ cR) nestW [.ref (ad 46), .int (nI c), .int (nI b), .ref (ad 90)] (wL ad cI cJ cR cv g q u h k o) (fun r9 _ => ∃ v : Int32, r9 = some (.int v) ∧ v = nI (xSetB c b (cC u))) (fun _ => wL ad cI cJ cR cv g q (if xSetB c b (cC u) = 0 then (cC u, cP u, cW u, cWal u, cHgt u, eN (cBat u) c b, cSyl u, cDel u, cDrs u, cFrm u, cTo u, cLen u, cNar u, cPb u, cFnd u) else u) h k (if xSetB c b (cC u) = 0 then eN o 0 ((nI (cBat u c)).toInt64) else o)) := by
  refine ek_MZ.of (cc := cL_setBats) (maxL := 5) (ret := (some .int)) (hh := [(0, 10, 13, 21), (0, 10, 17, 13)]) (by decide) rfl (Nat.le_of_ble_eq_true rfl) ?_
  intro p9 e9 s9 m9 args9 below9 meth9 c9 A X hZ hT
  refine ek_castL (lv' := [(0, .ref (ad 46)), (1, .int (nI c)), (2, .int (nI b)), (3, .ref (ad 90))]) rfl ?_
  refine ek_aln X 3 rfl dL_setBats_0 ?_
  refine ek_ic (v := nI 0) X (by decide) dL_setBats_1 ?_
  refine ek_aln X 0 rfl dL_setBats_2 ?_
  refine ek_iln X 1 rfl dL_setBats_3 ?_
  refine ek_iln X 2 rfl dL_setBats_4 ?_
  refine ek_doXi X (ek_runVX (As := [.int (nI c), .int (nI b)]) (rest := [.int (nI 0), .ref (ad 90)]) X hZ (c_X4_setBats l hl D cI cJ cR ad cv g q u h k hB  c b (by omega) (by omega)) gL_setBats_X4_setBats rfl hdV_X4_setBats ⟨Nat.le_of_ble_eq_true rfl, Nat.le_of_ble_eq_true rfl⟩ ⟨Nat.le_of_ble_eq_true rfl, Nat.le_of_ble_eq_true rfl⟩ [0, 1, 2, 3, 4, 5, 6, 7, 8, 9, 10, 11, 12, 13, 14, 15, 16, 17, 18, 19, 20, 21, 22, 23, 24, 25, 26, 27, 28, 29, 30, 31, 32, 33, 34, 35, 36, 37] rfl (by decide) 0 4 rfl rfl (Nat.le_of_ble_eq_true rfl) dL_setBats_5) [0, 1, 2, 3, 4, 5, 6, 7, 8, 9, 10, 11, 12, 13, 14, 15, 16, 17, 18, 19, 20, 21, 22, 23, 24, 25, 26, 27, 28, 29, 30, 31, 32, 33, 34, 35, 36, 37] [38] rfl rfl (by decide) (by decide) (fun _ => wL ad cI cJ cR cv g q (cC u, cP u, cW u, cWal u, cHgt u, eN (cBat u) c b, cSyl u, cDel u, cDrs u, cFrm u, cTo u, cLen u, cNar u, cPb u, cFnd u) h k o) [1, 2, 3, 4, 5, 6, 7, 8, 9, 10, 11, 12, 13, 14, 15, 16, 17, 18, 19, 20, 21, 22, 23, 24, 25, 26, 27, 28, 29, 30, 31, 32, 33, 34, 35, 36, 37, 38, 0] (by decide) (fun _ => rfl) rfl (fun E9 hE9 => ?_) (fun v_5 u_5 hv_5 => ?_)
  · rcases hE9 with ⟨hx, rfl⟩ | ⟨hx, rfl⟩
    · refine ek_catch (w' := []) X [] (⟨0, 10, 13, 21⟩ : ExceptionTableEntry) [(⟨0, 10, 17, 13⟩ : ExceptionTableEntry)] (hT.trans rfl) (fun z hz => absurd hz List.not_mem_nil) (by decide) (by decide) (List.mem_of_getElem? (i := 1) rfl) hZ.2.1.1.2.1 (fun q9 => ?_)
      have hnc : ¬ xSetB c b (cC u) = 0 := by rw [hx]; decide
      refine ek_as (lv' := [(4, .ref q9), (0, .ref (ad 46)), (1, .int (nI c)), (2, .int (nI b)), (3, .ref (ad 90))]) X (by decide) rfl dL_setBats_13 ?_
      refine ek_ic (v := nI 1) X (by decide) dL_setBats_15 ?_
      refine ek_widen (k' := 2) (n' := 12) (Nat.le_of_ble_eq_true rfl) (Nat.le_of_ble_eq_true rfl) ?_
      exact ek_reti X () ⟨_, rfl, (by first | exact congrArg nI hc_5.symm | exact congrArg nI hx.symm)⟩ (by first | rw [if_pos hc_5, if_pos hc_5] | rw [if_neg hnc, if_neg hnc]) dL_setBats_16
    · refine ek_catch (w' := []) X [(⟨0, 10, 13, 21⟩ : ExceptionTableEntry)] (⟨0, 10, 17, 13⟩ : ExceptionTableEntry) [] (hT.trans rfl) (fun z hz => by rw [List.mem_singleton.mp hz]; exact Or.inr ⟨by decide, _, (List.mem_of_getElem? (i := 1) rfl), hZ.2.2.2.2.1⟩) (by decide) (by decide) (List.mem_of_getElem? (i := 2) rfl) hZ.2.1.1.1 (fun q9 => ?_)
      have hnc : ¬ xSetB c b (cC u) = 0 := by rw [hx]; decide
      refine ek_as (lv' := [(4, .ref q9), (0, .ref (ad 46)), (1, .int (nI c)), (2, .int (nI b)), (3, .ref (ad 90))]) X (by decide) rfl dL_setBats_17 ?_
      refine ek_ic (v := nI 2) X (by decide) dL_setBats_19 ?_
      refine ek_widen (k' := 2) (n' := 12) (Nat.le_of_ble_eq_true rfl) (Nat.le_of_ble_eq_true rfl) ?_
      exact ek_reti X () ⟨_, rfl, (by first | exact congrArg nI hc_5.symm | exact congrArg nI hx.symm)⟩ (by first | rw [if_pos hc_5, if_pos hc_5] | rw [if_neg hnc, if_neg hnc]) dL_setBats_20
  obtain ⟨hc_5, rfl⟩ := hv_5
  refine ek_i2l (v := (nI (cBat u c)).toInt64) X rfl dL_setBats_8 ?_
  refine ek_last (w' := wL ad cI cJ cR cv g q (cC u, cP u, cW u, cWal u, cHgt u, eN (cBat u) c b, cSyl u, cDel u, cDrs u, cFrm u, cTo u, cLen u, cNar u, cPb u, cFnd u) h k (eN o 0 ((nI (cBat u c)).toInt64))) X 38 1 rfl rfl (by omega) (by omega) rfl dL_setBats_9 ?_
  refine ek_goto X 21 (by decide) dL_setBats_10 ?_
  refine ek_ic (v := nI 0) X (by decide) dL_setBats_21 ?_
  refine ek_widen (k' := 2) (n' := 12) (Nat.le_of_ble_eq_true rfl) (Nat.le_of_ble_eq_true rfl) ?_
  exact ek_reti X () ⟨_, rfl, (by first | exact congrArg nI hc_5.symm | exact congrArg nI hx.symm)⟩ (by first | rw [if_pos hc_5, if_pos hc_5] | rw [if_neg hnc, if_neg hnc]) dL_setBats_22

abbrev rm_L_setClapper : Room := { frames := 8, cells := 4, slots := 24, locals := 126 }
set_option maxHeartbeats 4000000 in
set_option maxRecDepth 100000 in
theorem c_L_setClapper (l : Launch) (hl : l.stackTraces = false) (D : va_G) (cI cJ cR : ClassId) (ad : Nat → Nat) (cv : CavT) (g : SndT) (q : QueT) (u : CaveT) (h k : EchT) (o : Nat → Int64) (hB : cOk u) (c : Nat) (y : Nat) (d : Nat) (hc : c < 4294967296) (hy : y < 4294967296) (hd : d < 4294967296) : ek_MZ (S := Unit) l yL_setClapper wsL_setClapper rm_L_setClapper D (tyW cI cJ cR) nestW [.ref (ad 46), .int (nI c), .int (nI y), .int (nI d), .ref (ad 90)] (wL ad cI cJ cR cv g q u h k o) (fun r9 _ => ∃ v : Int32, r9 = some (.int v) ∧ v = nI (xSetC c y d (cC u))) (fun _ => wL ad cI cJ cR cv g q (if xSetC c y d (cC u) = 0 then (cClap u c y d) else u) h k (if xSetC c y d (cC u) = 0 then eN o 0 ((nI (cSyl u c)).toInt64) else o)) := by
  refine ek_MZ.of (cc := cL_setClapper) (maxL := 6) (ret := (some .int)) (hh := [(0, 12, 15, 21), (0, 12, 19, 13)]) (by decide) rfl (Nat.le_of_ble_eq_true rfl) ?_
  intro p9 e9 s9 m9 args9 below9 meth9 c9 A X hZ hT
  refine ek_castL (lv' := [(0, .ref (ad 46)), (1, .int (nI c)), (2, .int (nI y)), (3, .int (nI d)), (4, .ref (ad 90))]) rfl ?_
  refine ek_al X 4 rfl dL_setClapper_0 ?_
  refine ek_ic (v := nI 0) X (by decide) dL_setClapper_2 ?_
  refine ek_aln X 0 rfl dL_setClapper_3 ?_
  refine ek_iln X 1 rfl dL_setClapper_4 ?_
  refine ek_iln X 2 rfl dL_setClapper_5 ?_
  refine ek_iln X 3 rfl dL_setClapper_6 ?_
  refine ek_doXi X (ek_runVX (As := [.int (nI c), .int (nI y), .int (nI d)]) (rest := [.int (nI 0), .ref (ad 90)]) X hZ (c_X4_setClapper l hl D cI cJ cR ad cv g q u h k hB  c y d (by omega) (by omega) (by omega)) gL_setClapper_X4_setClapper rfl hdV_X4_setClapper ⟨Nat.le_of_ble_eq_true rfl, Nat.le_of_ble_eq_true rfl⟩ ⟨Nat.le_of_ble_eq_true rfl, Nat.le_of_ble_eq_true rfl⟩ [0, 1, 2, 3, 4, 5, 6, 7, 8, 9, 10, 11, 12, 13, 14, 15, 16, 17, 18, 19, 20, 21, 22, 23, 24, 25, 26, 27, 28, 29, 30, 31, 32, 33, 34, 35, 36, 37] rfl (by decide) 0 4 rfl rfl (Nat.le_of_ble_eq_true rfl) dL_setClapper_7) [0, 1, 2, 3, 4, 5, 6, 7, 8, 9, 10, 11, 12, 13, 14, 15, 16, 17, 18, 19, 20, 21, 22, 23, 24, 25, 26, 27, 28, 29, 30, 31, 32, 33, 34, 35, 36, 37] [38] rfl rfl (by decide) (by decide) (fun _ => wL ad cI cJ cR cv g q (cClap u c y d) h k o) [1, 2, 3, 4, 5, 6, 7, 8, 9, 10, 11, 12, 13, 14, 15, 16, 17, 18, 19, 20, 21, 22, 23, 24, 25, 26, 27, 28, 29, 30, 31, 32, 33, 34, 35, 36, 37, 38, 0] (by decide) (fun _ => rfl) rfl (fun E9 hE9 => ?_) (fun v_7 u_7 hv_7 => ?_)
  · rcases hE9 with ⟨hx, rfl⟩ | ⟨hx, rfl⟩
    · refine ek_catch (w' := []) X [] (⟨0, 12, 15, 21⟩ : ExceptionTableEntry) [(⟨0, 12, 19, 13⟩ : ExceptionTableEntry)] (hT.trans rfl) (fun z hz => absurd hz List.not_mem_nil) (by decide) (by decide) (List.mem_of_getElem? (i := 1) rfl) hZ.2.1.1.2.1 (fun q9 => ?_)
      have hnc : ¬ xSetC c y d (cC u) = 0 := by rw [hx]; decide
      refine ek_as (lv' := [(5, .ref q9), (0, .ref (ad 46)), (1, .int (nI c)), (2, .int (nI y)), (3, .int (nI d)), (4, .ref (ad 90))]) X (by decide) rfl dL_setClapper_15 ?_
      refine ek_ic (v := nI 1) X (by decide) dL_setClapper_17 ?_
      refine ek_widen (k' := 4) (n' := 24) (Nat.le_of_ble_eq_true rfl) (Nat.le_of_ble_eq_true rfl) ?_
      exact ek_reti X () ⟨_, rfl, (by first | exact congrArg nI hc_7.symm | exact congrArg nI hx.symm)⟩ (by first | rw [if_pos hc_7, if_pos hc_7] | rw [if_neg hnc, if_neg hnc]) dL_setClapper_18
    · refine ek_catch (w' := []) X [(⟨0, 12, 15, 21⟩ : ExceptionTableEntry)] (⟨0, 12, 19, 13⟩ : ExceptionTableEntry) [] (hT.trans rfl) (fun z hz => by rw [List.mem_singleton.mp hz]; exact Or.inr ⟨by decide, _, (List.mem_of_getElem? (i := 1) rfl), hZ.2.2.2.2.1⟩) (by decide) (by decide) (List.mem_of_getElem? (i := 2) rfl) hZ.2.1.1.1 (fun q9 => ?_)
      have hnc : ¬ xSetC c y d (cC u) = 0 := by rw [hx]; decide
      refine ek_as (lv' := [(5, .ref q9), (0, .ref (ad 46)), (1, .int (nI c)), (2, .int (nI y)), (3, .int (nI d)), (4, .ref (ad 90))]) X (by decide) rfl dL_setClapper_19 ?_
      refine ek_ic (v := nI 2) X (by decide) dL_setClapper_21 ?_
      refine ek_widen (k' := 4) (n' := 24) (Nat.le_of_ble_eq_true rfl) (Nat.le_of_ble_eq_true rfl) ?_
      exact ek_reti X () ⟨_, rfl, (by first | exact congrArg nI hc_7.symm | exact congrArg nI hx.symm)⟩ (by first | rw [if_pos hc_7, if_pos hc_7] | rw [if_neg hnc, if_neg hnc]) dL_setClapper_22
  obtain ⟨hc_7, rfl⟩ := hv_7
  refine ek_i2l (v := (nI (cSyl u c)).toInt64) X rfl dL_setClapper_10 ?_
  refine ek_last (w' := wL ad cI cJ cR cv g q (cClap u c y d) h k (eN o 0 ((nI (cSyl u c)).toInt64))) X 38 1 rfl rfl (by omega) (by omega) rfl dL_setClapper_11 ?_
  refine ek_goto X 23 (by decide) dL_setClapper_12 ?_
  refine ek_ic (v := nI 0) X (by decide) dL_setClapper_23 ?_
  refine ek_widen (k' := 4) (n' := 24) (Nat.le_of_ble_eq_true rfl) (Nat.le_of_ble_eq_true rfl) ?_
  exact ek_reti X () ⟨_, rfl, (by first | exact congrArg nI hc_7.symm | exact congrArg nI hx.symm)⟩ (by first | rw [if_pos hc_7, if_pos hc_7] | rw [if_neg hnc, if_neg hnc]) dL_setClapper_24

abbrev rm_L_setEar : Room := { frames := 8, cells := 1, slots := 6, locals := 124 }
set_option maxHeartbeats 4000000 in
set_option maxRecDepth 100000 in
theorem c_L_setEar (l : Launch) (hl : l.stackTraces = false) (D : va_G) (cI cJ cR : ClassId) (ad : Nat → Nat) (cv : CavT) (g : SndT) (q : QueT) (u : CaveT) (h k : EchT) (o : Nat → Int64) (hB : cOk u) (k9 : Nat) (hk9 : k9 < 4294967296) : ek_MZ (S := Unit) l yL_setEar wsL_setEar rm_L_setEar D (tyW cI cJ cR) nestW [.ref (ad 46), .int (nI k9), .ref (ad 90)] (wL ad cI cJ cR cv g q u h k o) (fun r9 _ => ∃ v : Int32, r9 = some (.int v) ∧ v = nI (xSetE k9)) (fun _ => wL ad cI cJ cR (if xSetE k9 = 0 then (k9, vSaid cv, vWord cv) else cv) g q u h k (if xSetE k9 = 0 then eN o 0 ((nI (vEar cv)).toInt64) else o)) := by
  refine ek_MZ.of (cc := cL_setEar) (maxL := 4) (ret := (some .int)) (hh := [(0, 9, 12, 13)]) (by decide) rfl (Nat.le_of_ble_eq_true rfl) ?_
  intro p9 e9 s9 m9 args9 below9 meth9 c9 A X hZ hT
  refine ek_castL (lv' := [(0, .ref (ad 46)), (1, .int (nI k9)), (2, .ref (ad 90))]) rfl ?_
  refine ek_aln X 2 rfl dL_setEar_0 ?_
  refine ek_ic (v := nI 0) X (by decide) dL_setEar_1 ?_
  refine ek_aln X 0 rfl dL_setEar_2 ?_
  refine ek_iln X 1 rfl dL_setEar_3 ?_
  refine ek_doXi X (ek_runVX (As := [.int (nI k9)]) (rest := [.int (nI 0), .ref (ad 90)]) X hZ (c_X4_setEar l hl D cI cJ cR ad cv g q u h k hB  k9 (by omega)) gL_setEar_X4_setEar rfl hdV_X4_setEar ⟨Nat.le_of_ble_eq_true rfl, Nat.le_of_ble_eq_true rfl⟩ ⟨Nat.le_of_ble_eq_true rfl, Nat.le_of_ble_eq_true rfl⟩ [0, 1, 2, 3, 4, 5, 6, 7, 8, 9, 10, 11, 12, 13, 14, 15, 16, 17, 18, 19, 20, 21, 22, 23, 24, 25, 26, 27, 28, 29, 30, 31, 32, 33, 34, 35, 36, 37] rfl (by decide) 0 4 rfl rfl (Nat.le_of_ble_eq_true rfl) dL_setEar_4) [0, 1, 2, 3, 4, 5, 6, 7, 8, 9, 10, 11, 12, 13, 14, 15, 16, 17, 18, 19, 20, 21, 22, 23, 24, 25, 26, 27, 28, 29, 30, 31, 32, 33, 34, 35, 36, 37] [38] rfl rfl (by decide) (by decide) (fun _ => wL ad cI cJ cR (k9, vSaid cv, vWord cv) g q u h k o) [1, 2, 3, 4, 5, 6, 7, 8, 9, 10, 11, 12, 13, 14, 15, 16, 17, 18, 19, 20, 21, 22, 23, 24, 25, 26, 27, 28, 29, 30, 31, 32, 33, 34, 35, 36, 37, 38, 0] (by decide) (fun _ => rfl) rfl (fun E9 hE9 => ?_) (fun v_4 u_4 hv_4 => ?_)
  · obtain ⟨hx, rfl⟩ := hE9
    refine ek_catch (w' := []) X [] (⟨0, 9, 12, 13⟩ : ExceptionTableEntry) [] (hT.trans rfl) (fun z hz => absurd hz List.not_mem_nil) (by decide) (by decide) (List.mem_of_getElem? (i := 1) rfl) hZ.2.1.1.1 (fun q9 => ?_)
    have hnc : ¬ xSetE k9 = 0 := by rw [hx]; decide
    refine ek_asn (lv' := [(3, .ref q9), (0, .ref (ad 46)), (1, .int (nI k9)), (2, .ref (ad 90))]) X (by decide) rfl dL_setEar_12 ?_
    refine ek_ic (v := nI 1) X (by decide) dL_setEar_13 ?_
    refine ek_widen (k' := 1) (n' := 6) (Nat.le_of_ble_eq_true rfl) (Nat.le_of_ble_eq_true rfl) ?_
    exact ek_reti X () ⟨_, rfl, (by first | exact congrArg nI hc_4.symm | exact congrArg nI hx.symm)⟩ (by first | rw [if_pos hc_4, if_pos hc_4] | rw [if_neg hnc, if_neg hnc]) dL_setEar_14
  obtain ⟨hc_4, rfl⟩ := hv_4
  refine ek_i2l (v := (nI (vEar cv)).toInt64) X rfl dL_setEar_7 ?_
  refine ek_last (w' := wL ad cI cJ cR (k9, vSaid cv, vWord cv) g q u h k (eN o 0 ((nI (vEar cv)).toInt64))) X 38 1 rfl rfl (by omega) (by omega) rfl dL_setEar_8 ?_
  refine ek_goto X 15 (by decide) dL_setEar_9 ?_
  refine ek_ic (v := nI 0) X (by decide) dL_setEar_15 ?_
  refine ek_widen (k' := 1) (n' := 6) (Nat.le_of_ble_eq_true rfl) (Nat.le_of_ble_eq_true rfl) ?_
  exact ek_reti X () ⟨_, rfl, (by first | exact congrArg nI hc_4.symm | exact congrArg nI hx.symm)⟩ (by first | rw [if_pos hc_4, if_pos hc_4] | rw [if_neg hnc, if_neg hnc]) dL_setEar_16

abbrev rm_L_chamber : Room := { frames := 8, cells := 2, slots := 12, locals := 124 }
set_option maxHeartbeats 4000000 in
set_option maxRecDepth 100000 in
theorem c_L_chamber (l : Launch) (hl : l.stackTraces = false) (D : va_G) (cI cJ cR : ClassId) (ad : Nat → Nat) (cv : CavT) (g : SndT) (q : QueT) (u : CaveT) (h k : EchT) (o : Nat → Int64) (hB : cOk u) (c : Nat) (w : Nat) (hc : c < 4294967296) (hw : w < 4294967296) : ek_MZ (S := Unit) l yL_chamber wsL_chamber rm_L_chamber D (tyW cI cJ cR) nestW [.ref (ad 46), .int (nI c), .int (nI w), .ref (ad 90)] (wL ad cI cJ cR cv g q u h k o) (fun r9 _ => ∃ v : Int32, r9 = some (.int v) ∧ v = nI (xTwo c (cC u) w 6)) (fun _ => wL ad cI cJ cR cv g q u h k (if xTwo c (cC u) w 6 = 0 then eN o 0 ((nI (cFact u c w)).toInt64) else o)) := by
  refine ek_MZ.of (cc := cL_chamber) (maxL := 5) (ret := (some .int)) (hh := [(0, 10, 13, 21)]) (by decide) rfl (Nat.le_of_ble_eq_true rfl) ?_
  intro p9 e9 s9 m9 args9 below9 meth9 c9 A X hZ hT
  refine ek_castL (lv' := [(0, .ref (ad 46)), (1, .int (nI c)), (2, .int (nI w)), (3, .ref (ad 90))]) rfl ?_
  refine ek_aln X 3 rfl dL_chamber_0 ?_
  refine ek_ic (v := nI 0) X (by decide) dL_chamber_1 ?_
  refine ek_aln X 0 rfl dL_chamber_2 ?_
  refine ek_iln X 1 rfl dL_chamber_3 ?_
  refine ek_iln X 2 rfl dL_chamber_4 ?_
  refine ek_doXi X (ek_runVX (As := [.int (nI c), .int (nI w)]) (rest := [.int (nI 0), .ref (ad 90)]) X hZ (c_X4_chamber l hl D cI cJ cR ad cv g q u h k hB  c w (by omega) (by omega)) gL_chamber_X4_chamber rfl hdV_X4_chamber ⟨Nat.le_of_ble_eq_true rfl, Nat.le_of_ble_eq_true rfl⟩ ⟨Nat.le_of_ble_eq_true rfl, Nat.le_of_ble_eq_true rfl⟩ [0, 1, 2, 3, 4, 5, 6, 7, 8, 9, 10, 11, 12, 13, 14, 15, 16, 17, 18, 19, 20, 21, 22, 23, 24, 25, 26, 27, 28, 29, 30, 31, 32, 33, 34, 35, 36, 37] rfl (by decide) 0 4 rfl rfl (Nat.le_of_ble_eq_true rfl) dL_chamber_5) [0, 1, 2, 3, 4, 5, 6, 7, 8, 9, 10, 11, 12, 13, 14, 15, 16, 17, 18, 19, 20, 21, 22, 23, 24, 25, 26, 27, 28, 29, 30, 31, 32, 33, 34, 35, 36, 37] [38] rfl rfl (by decide) (by decide) (fun _ => wL ad cI cJ cR cv g q u h k o) [1, 2, 3, 4, 5, 6, 7, 8, 9, 10, 11, 12, 13, 14, 15, 16, 17, 18, 19, 20, 21, 22, 23, 24, 25, 26, 27, 28, 29, 30, 31, 32, 33, 34, 35, 36, 37, 38, 0] (by decide) (fun _ => rfl) rfl (fun E9 hE9 => ?_) (fun v_5 u_5 hv_5 => ?_)
  · obtain ⟨hx, rfl⟩ := hE9
    refine ek_catch (w' := []) X [] (⟨0, 10, 13, 21⟩ : ExceptionTableEntry) [] (hT.trans rfl) (fun z hz => absurd hz List.not_mem_nil) (by decide) (by decide) (List.mem_of_getElem? (i := 1) rfl) hZ.2.1.1.2.1 (fun q9 => ?_)
    have hnc : ¬ xTwo c (cC u) w 6 = 0 := by rw [hx]; decide
    refine ek_as (lv' := [(4, .ref q9), (0, .ref (ad 46)), (1, .int (nI c)), (2, .int (nI w)), (3, .ref (ad 90))]) X (by decide) rfl dL_chamber_13 ?_
    refine ek_ic (v := nI 1) X (by decide) dL_chamber_15 ?_
    refine ek_widen (k' := 2) (n' := 12) (Nat.le_of_ble_eq_true rfl) (Nat.le_of_ble_eq_true rfl) ?_
    exact ek_reti X () ⟨_, rfl, (by first | exact congrArg nI hc_5.symm | exact congrArg nI hx.symm)⟩ (by first | rw [if_pos hc_5] | rw [if_neg hnc]) dL_chamber_16
  obtain ⟨hc_5, rfl⟩ := hv_5
  refine ek_i2l (v := (nI (cFact u c w)).toInt64) X rfl dL_chamber_8 ?_
  refine ek_last (w' := wL ad cI cJ cR cv g q u h k (eN o 0 ((nI (cFact u c w)).toInt64))) X 38 1 rfl rfl (by omega) (by omega) rfl dL_chamber_9 ?_
  refine ek_goto X 17 (by decide) dL_chamber_10 ?_
  refine ek_ic (v := nI 0) X (by decide) dL_chamber_17 ?_
  refine ek_widen (k' := 2) (n' := 12) (Nat.le_of_ble_eq_true rfl) (Nat.le_of_ble_eq_true rfl) ?_
  exact ek_reti X () ⟨_, rfl, (by first | exact congrArg nI hc_5.symm | exact congrArg nI hx.symm)⟩ (by first | rw [if_pos hc_5] | rw [if_neg hnc]) dL_chamber_18

abbrev rm_L_passage : Room := { frames := 8, cells := 2, slots := 12, locals := 124 }
set_option maxHeartbeats 4000000 in
set_option maxRecDepth 100000 in
theorem c_L_passage (l : Launch) (hl : l.stackTraces = false) (D : va_G) (cI cJ cR : ClassId) (ad : Nat → Nat) (cv : CavT) (g : SndT) (q : QueT) (u : CaveT) (h k : EchT) (o : Nat → Int64) (hB : cOk u) (p : Nat) (w : Nat) (hp : p < 4294967296) (hw : w < 4294967296) : ek_MZ (S := Unit) l yL_passage wsL_passage rm_L_passage D (tyW cI cJ cR) nestW [.ref (ad 46), .int (nI p), .int (nI w), .ref (ad 90)] (wL ad cI cJ cR cv g q u h k o) (fun r9 _ => ∃ v : Int32, r9 = some (.int v) ∧ v = nI (xTwo p (cP u) w 4)) (fun _ => wL ad cI cJ cR cv g q u h k (if xTwo p (cP u) w 4 = 0 then eN o 0 ((nI (pFact u p w)).toInt64) else o)) := by
  refine ek_MZ.of (cc := cL_passage) (maxL := 5) (ret := (some .int)) (hh := [(0, 10, 13, 21)]) (by decide) rfl (Nat.le_of_ble_eq_true rfl) ?_
  intro p9 e9 s9 m9 args9 below9 meth9 c9 A X hZ hT
  refine ek_castL (lv' := [(0, .ref (ad 46)), (1, .int (nI p)), (2, .int (nI w)), (3, .ref (ad 90))]) rfl ?_
  refine ek_aln X 3 rfl dL_passage_0 ?_
  refine ek_ic (v := nI 0) X (by decide) dL_passage_1 ?_
  refine ek_aln X 0 rfl dL_passage_2 ?_
  refine ek_iln X 1 rfl dL_passage_3 ?_
  refine ek_iln X 2 rfl dL_passage_4 ?_
  refine ek_doXi X (ek_runVX (As := [.int (nI p), .int (nI w)]) (rest := [.int (nI 0), .ref (ad 90)]) X hZ (c_X4_passage l hl D cI cJ cR ad cv g q u h k hB  p w (by omega) (by omega)) gL_passage_X4_passage rfl hdV_X4_passage ⟨Nat.le_of_ble_eq_true rfl, Nat.le_of_ble_eq_true rfl⟩ ⟨Nat.le_of_ble_eq_true rfl, Nat.le_of_ble_eq_true rfl⟩ [0, 1, 2, 3, 4, 5, 6, 7, 8, 9, 10, 11, 12, 13, 14, 15, 16, 17, 18, 19, 20, 21, 22, 23, 24, 25, 26, 27, 28, 29, 30, 31, 32, 33, 34, 35, 36, 37] rfl (by decide) 0 4 rfl rfl (Nat.le_of_ble_eq_true rfl) dL_passage_5) [0, 1, 2, 3, 4, 5, 6, 7, 8, 9, 10, 11, 12, 13, 14, 15, 16, 17, 18, 19, 20, 21, 22, 23, 24, 25, 26, 27, 28, 29, 30, 31, 32, 33, 34, 35, 36, 37] [38] rfl rfl (by decide) (by decide) (fun _ => wL ad cI cJ cR cv g q u h k o) [1, 2, 3, 4, 5, 6, 7, 8, 9, 10, 11, 12, 13, 14, 15, 16, 17, 18, 19, 20, 21, 22, 23, 24, 25, 26, 27, 28, 29, 30, 31, 32, 33, 34, 35, 36, 37, 38, 0] (by decide) (fun _ => rfl) rfl (fun E9 hE9 => ?_) (fun v_5 u_5 hv_5 => ?_)
  · obtain ⟨hx, rfl⟩ := hE9
    refine ek_catch (w' := []) X [] (⟨0, 10, 13, 21⟩ : ExceptionTableEntry) [] (hT.trans rfl) (fun z hz => absurd hz List.not_mem_nil) (by decide) (by decide) (List.mem_of_getElem? (i := 1) rfl) hZ.2.1.1.2.1 (fun q9 => ?_)
    have hnc : ¬ xTwo p (cP u) w 4 = 0 := by rw [hx]; decide
    refine ek_as (lv' := [(4, .ref q9), (0, .ref (ad 46)), (1, .int (nI p)), (2, .int (nI w)), (3, .ref (ad 90))]) X (by decide) rfl dL_passage_13 ?_
    refine ek_ic (v := nI 1) X (by decide) dL_passage_15 ?_
    refine ek_widen (k' := 2) (n' := 12) (Nat.le_of_ble_eq_true rfl) (Nat.le_of_ble_eq_true rfl) ?_
    exact ek_reti X () ⟨_, rfl, (by first | exact congrArg nI hc_5.symm | exact congrArg nI hx.symm)⟩ (by first | rw [if_pos hc_5] | rw [if_neg hnc]) dL_passage_16
  obtain ⟨hc_5, rfl⟩ := hv_5
  refine ek_i2l (v := (nI (pFact u p w)).toInt64) X rfl dL_passage_8 ?_
  refine ek_last (w' := wL ad cI cJ cR cv g q u h k (eN o 0 ((nI (pFact u p w)).toInt64))) X 38 1 rfl rfl (by omega) (by omega) rfl dL_passage_9 ?_
  refine ek_goto X 17 (by decide) dL_passage_10 ?_
  refine ek_ic (v := nI 0) X (by decide) dL_passage_17 ?_
  refine ek_widen (k' := 2) (n' := 12) (Nat.le_of_ble_eq_true rfl) (Nat.le_of_ble_eq_true rfl) ?_
  exact ek_reti X () ⟨_, rfl, (by first | exact congrArg nI hc_5.symm | exact congrArg nI hx.symm)⟩ (by first | rw [if_pos hc_5] | rw [if_neg hnc]) dL_passage_18

abbrev rm_L_say : Room := { frames := 9, cells := 2, slots := 12, locals := 167 }
set_option maxHeartbeats 4000000 in
set_option maxRecDepth 100000 in
theorem c_L_say (l : Launch) (hl : l.stackTraces = false) (D : va_G) (cI cJ cR : ClassId) (ad : Nat → Nat) (cv : CavT) (g : SndT) (q : QueT) (u : CaveT) (h k : EchT) (o : Nat → Int64) (hB : cOk u) (hI : sOk g q) (hH : hOk h) (he : vEar cv ≤ 50) (w : Nat) (b : Nat) (hw : w < 4294967296) (hb : b < 4294967296) : ek_MZ (S := Unit) l yL_say wsL_say rm_L_say D (tyW cI cJ cR) nestW [.ref (ad 46), .int (nI w), .int (nI b), .ref (ad 90)] (wL ad cI cJ cR cv g q u h k o) (fun r9 _ => ∃ v : Int32, r9 = some (.int v) ∧ v = nI (xSay w b)) (fun _ => wL ad cI cJ cR (if xSay w b = 0 then (vEar cv, vSaid cv + 1, w) else cv) (if xSay w b = 0 then (gThrough u w b (vEar cv) g q h).1 else g) (if xSay w b = 0 then (gThrough u w b (vEar cv) g q h).2.1 else q) u (if xSay w b = 0 then (gThrough u w b (vEar cv) g q h).2.2 else h) k (if xSay w b = 0 then eN o 0 ((nI (hCt (gThrough u w b (vEar cv) g q h).2.2)).toInt64) else o)) := by
  refine ek_MZ.of (cc := cL_say) (maxL := 5) (ret := (some .int)) (hh := [(0, 10, 13, 13)]) (by decide) rfl (Nat.le_of_ble_eq_true rfl) ?_
  intro p9 e9 s9 m9 args9 below9 meth9 c9 A X hZ hT
  refine ek_castL (lv' := [(0, .ref (ad 46)), (1, .int (nI w)), (2, .int (nI b)), (3, .ref (ad 90))]) rfl ?_
  refine ek_aln X 3 rfl dL_say_0 ?_
  refine ek_ic (v := nI 0) X (by decide) dL_say_1 ?_
  refine ek_aln X 0 rfl dL_say_2 ?_
  refine ek_iln X 1 rfl dL_say_3 ?_
  refine ek_iln X 2 rfl dL_say_4 ?_
  refine ek_doXi X (ek_runVX (As := [.int (nI w), .int (nI b)]) (rest := [.int (nI 0), .ref (ad 90)]) X hZ (c_X4_say l hl D cI cJ cR ad cv g q u h k hB hI hH he w b (by omega) (by omega)) gL_say_X4_say rfl hdV_X4_say ⟨Nat.le_of_ble_eq_true rfl, Nat.le_of_ble_eq_true rfl⟩ ⟨Nat.le_of_ble_eq_true rfl, Nat.le_of_ble_eq_true rfl⟩ [0, 1, 2, 3, 4, 5, 6, 7, 8, 9, 10, 11, 12, 13, 14, 15, 16, 17, 18, 19, 20, 21, 22, 23, 24, 25, 26, 27, 28, 29, 30, 31, 32, 33, 34, 35, 36, 37] rfl (by decide) 0 4 rfl rfl (Nat.le_of_ble_eq_true rfl) dL_say_5) [0, 1, 2, 3, 4, 5, 6, 7, 8, 9, 10, 11, 12, 13, 14, 15, 16, 17, 18, 19, 20, 21, 22, 23, 24, 25, 26, 27, 28, 29, 30, 31, 32, 33, 34, 35, 36, 37] [38] rfl rfl (by decide) (by decide) (fun _ => wL ad cI cJ cR (vEar cv, vSaid cv + 1, w) (gThrough u w b (vEar cv) g q h).1 (gThrough u w b (vEar cv) g q h).2.1 u (gThrough u w b (vEar cv) g q h).2.2 k o) [1, 2, 3, 4, 5, 6, 7, 8, 9, 10, 11, 12, 13, 14, 15, 16, 17, 18, 19, 20, 21, 22, 23, 24, 25, 26, 27, 28, 29, 30, 31, 32, 33, 34, 35, 36, 37, 38, 0] (by decide) (fun _ => rfl) rfl (fun E9 hE9 => ?_) (fun v_5 u_5 hv_5 => ?_)
  · obtain ⟨hx, rfl⟩ := hE9
    refine ek_catch (w' := []) X [] (⟨0, 10, 13, 13⟩ : ExceptionTableEntry) [] (hT.trans rfl) (fun z hz => absurd hz List.not_mem_nil) (by decide) (by decide) (List.mem_of_getElem? (i := 1) rfl) hZ.2.1.1.1 (fun q9 => ?_)
    have hnc : ¬ xSay w b = 0 := by rw [hx]; decide
    refine ek_as (lv' := [(4, .ref q9), (0, .ref (ad 46)), (1, .int (nI w)), (2, .int (nI b)), (3, .ref (ad 90))]) X (by decide) rfl dL_say_13 ?_
    refine ek_ic (v := nI 1) X (by decide) dL_say_15 ?_
    refine ek_widen (k' := 2) (n' := 12) (Nat.le_of_ble_eq_true rfl) (Nat.le_of_ble_eq_true rfl) ?_
    exact ek_reti X () ⟨_, rfl, (by first | exact congrArg nI hc_5.symm | exact congrArg nI hx.symm)⟩ (by first | rw [if_pos hc_5, if_pos hc_5, if_pos hc_5, if_pos hc_5, if_pos hc_5] | rw [if_neg hnc, if_neg hnc, if_neg hnc, if_neg hnc, if_neg hnc]) dL_say_16
  obtain ⟨hc_5, rfl⟩ := hv_5
  refine ek_i2l (v := (nI (hCt (gThrough u w b (vEar cv) g q h).2.2)).toInt64) X rfl dL_say_8 ?_
  refine ek_last (w' := wL ad cI cJ cR (vEar cv, vSaid cv + 1, w) (gThrough u w b (vEar cv) g q h).1 (gThrough u w b (vEar cv) g q h).2.1 u (gThrough u w b (vEar cv) g q h).2.2 k (eN o 0 ((nI (hCt (gThrough u w b (vEar cv) g q h).2.2)).toInt64))) X 38 1 rfl rfl (by omega) (by omega) rfl dL_say_9 ?_
  refine ek_goto X 17 (by decide) dL_say_10 ?_
  refine ek_ic (v := nI 0) X (by decide) dL_say_17 ?_
  refine ek_widen (k' := 2) (n' := 12) (Nat.le_of_ble_eq_true rfl) (Nat.le_of_ble_eq_true rfl) ?_
  exact ek_reti X () ⟨_, rfl, (by first | exact congrArg nI hc_5.symm | exact congrArg nI hx.symm)⟩ (by first | rw [if_pos hc_5, if_pos hc_5, if_pos hc_5, if_pos hc_5, if_pos hc_5] | rw [if_neg hnc, if_neg hnc, if_neg hnc, if_neg hnc, if_neg hnc]) dL_say_18

abbrev rm_L_heard : Room := { frames := 8, cells := 2, slots := 12, locals := 124 }
set_option maxHeartbeats 4000000 in
set_option maxRecDepth 100000 in
theorem c_L_heard (l : Launch) (hl : l.stackTraces = false) (D : va_G) (cI cJ cR : ClassId) (ad : Nat → Nat) (cv : CavT) (g : SndT) (q : QueT) (u : CaveT) (h k : EchT) (o : Nat → Int64) (hB : cOk u) (hH : hOk h) (i : Nat) (w : Nat) (hi : i < 4294967296) (hw : w < 4294967296) : ek_MZ (S := Unit) l yL_heard wsL_heard rm_L_heard D (tyW cI cJ cR) nestW [.ref (ad 46), .int (nI i), .int (nI w), .ref (ad 90)] (wL ad cI cJ cR cv g q u h k o) (fun r9 _ => ∃ v : Int32, r9 = some (.int v) ∧ v = nI (xTwo i (hK h) w 4)) (fun _ => wL ad cI cJ cR cv g q u h k (if xTwo i (hK h) w 4 = 0 then eN o 0 ((nI (hFa h (i * 5 + w))).toInt64) else o)) := by
  refine ek_MZ.of (cc := cL_heard) (maxL := 5) (ret := (some .int)) (hh := [(0, 10, 13, 21)]) (by decide) rfl (Nat.le_of_ble_eq_true rfl) ?_
  intro p9 e9 s9 m9 args9 below9 meth9 c9 A X hZ hT
  refine ek_castL (lv' := [(0, .ref (ad 46)), (1, .int (nI i)), (2, .int (nI w)), (3, .ref (ad 90))]) rfl ?_
  refine ek_aln X 3 rfl dL_heard_0 ?_
  refine ek_ic (v := nI 0) X (by decide) dL_heard_1 ?_
  refine ek_aln X 0 rfl dL_heard_2 ?_
  refine ek_iln X 1 rfl dL_heard_3 ?_
  refine ek_iln X 2 rfl dL_heard_4 ?_
  refine ek_doXi X (ek_runVX (As := [.int (nI i), .int (nI w)]) (rest := [.int (nI 0), .ref (ad 90)]) X hZ (c_X4_heard l hl D cI cJ cR ad cv g q u h k hB hH i w (by omega) (by omega)) gL_heard_X4_heard rfl hdV_X4_heard ⟨Nat.le_of_ble_eq_true rfl, Nat.le_of_ble_eq_true rfl⟩ ⟨Nat.le_of_ble_eq_true rfl, Nat.le_of_ble_eq_true rfl⟩ [0, 1, 2, 3, 4, 5, 6, 7, 8, 9, 10, 11, 12, 13, 14, 15, 16, 17, 18, 19, 20, 21, 22, 23, 24, 25, 26, 27, 28, 29, 30, 31, 32, 33, 34, 35, 36, 37] rfl (by decide) 0 4 rfl rfl (Nat.le_of_ble_eq_true rfl) dL_heard_5) [0, 1, 2, 3, 4, 5, 6, 7, 8, 9, 10, 11, 12, 13, 14, 15, 16, 17, 18, 19, 20, 21, 22, 23, 24, 25, 26, 27, 28, 29, 30, 31, 32, 33, 34, 35, 36, 37] [38] rfl rfl (by decide) (by decide) (fun _ => wL ad cI cJ cR cv g q u h k o) [1, 2, 3, 4, 5, 6, 7, 8, 9, 10, 11, 12, 13, 14, 15, 16, 17, 18, 19, 20, 21, 22, 23, 24, 25, 26, 27, 28, 29, 30, 31, 32, 33, 34, 35, 36, 37, 38, 0] (by decide) (fun _ => rfl) rfl (fun E9 hE9 => ?_) (fun v_5 u_5 hv_5 => ?_)
  · obtain ⟨hx, rfl⟩ := hE9
    refine ek_catch (w' := []) X [] (⟨0, 10, 13, 21⟩ : ExceptionTableEntry) [] (hT.trans rfl) (fun z hz => absurd hz List.not_mem_nil) (by decide) (by decide) (List.mem_of_getElem? (i := 1) rfl) hZ.2.1.1.2.1 (fun q9 => ?_)
    have hnc : ¬ xTwo i (hK h) w 4 = 0 := by rw [hx]; decide
    refine ek_as (lv' := [(4, .ref q9), (0, .ref (ad 46)), (1, .int (nI i)), (2, .int (nI w)), (3, .ref (ad 90))]) X (by decide) rfl dL_heard_13 ?_
    refine ek_ic (v := nI 1) X (by decide) dL_heard_15 ?_
    refine ek_widen (k' := 2) (n' := 12) (Nat.le_of_ble_eq_true rfl) (Nat.le_of_ble_eq_true rfl) ?_
    exact ek_reti X () ⟨_, rfl, (by first | exact congrArg nI hc_5.symm | exact congrArg nI hx.symm)⟩ (by first | rw [if_pos hc_5] | rw [if_neg hnc]) dL_heard_16
  obtain ⟨hc_5, rfl⟩ := hv_5
  refine ek_i2l (v := (nI (hFa h (i * 5 + w))).toInt64) X rfl dL_heard_8 ?_
  refine ek_last (w' := wL ad cI cJ cR cv g q u h k (eN o 0 ((nI (hFa h (i * 5 + w))).toInt64))) X 38 1 rfl rfl (by omega) (by omega) rfl dL_heard_9 ?_
  refine ek_goto X 17 (by decide) dL_heard_10 ?_
  refine ek_ic (v := nI 0) X (by decide) dL_heard_17 ?_
  refine ek_widen (k' := 2) (n' := 12) (Nat.le_of_ble_eq_true rfl) (Nat.le_of_ble_eq_true rfl) ?_
  exact ek_reti X () ⟨_, rfl, (by first | exact congrArg nI hc_5.symm | exact congrArg nI hx.symm)⟩ (by first | rw [if_pos hc_5] | rw [if_neg hnc]) dL_heard_18

abbrev rm_L_first : Room := { frames := 8, cells := 1, slots := 6, locals := 123 }
set_option maxHeartbeats 4000000 in
set_option maxRecDepth 100000 in
theorem c_L_first (l : Launch) (hl : l.stackTraces = false) (D : va_G) (cI cJ cR : ClassId) (ad : Nat → Nat) (cv : CavT) (g : SndT) (q : QueT) (u : CaveT) (h k : EchT) (o : Nat → Int64) (hB : cOk u) (hH : hOk h) (i : Nat) (hi : i < 4294967296) : ek_MZ (S := Unit) l yL_first wsL_first rm_L_first D (tyW cI cJ cR) nestW [.ref (ad 46), .int (nI i), .ref (ad 90)] (wL ad cI cJ cR cv g q u h k o) (fun r9 _ => ∃ v : Int32, r9 = some (.int v) ∧ v = nI (xLt i (hPl h))) (fun _ => wL ad cI cJ cR cv g q u h k (if xLt i (hPl h) = 0 then eN o 0 ((hFi h i).toInt64) else o)) := by
  refine ek_MZ.of (cc := cL_first) (maxL := 4) (ret := (some .int)) (hh := [(0, 9, 12, 21)]) (by decide) rfl (Nat.le_of_ble_eq_true rfl) ?_
  intro p9 e9 s9 m9 args9 below9 meth9 c9 A X hZ hT
  refine ek_castL (lv' := [(0, .ref (ad 46)), (1, .int (nI i)), (2, .ref (ad 90))]) rfl ?_
  refine ek_aln X 2 rfl dL_first_0 ?_
  refine ek_ic (v := nI 0) X (by decide) dL_first_1 ?_
  refine ek_aln X 0 rfl dL_first_2 ?_
  refine ek_iln X 1 rfl dL_first_3 ?_
  refine ek_doXi X (ek_runVX (As := [.int (nI i)]) (rest := [.int (nI 0), .ref (ad 90)]) X hZ (c_X4_first l hl D cI cJ cR ad cv g q u h k hB hH i (by omega)) gL_first_X4_first rfl hdV_X4_first ⟨Nat.le_of_ble_eq_true rfl, Nat.le_of_ble_eq_true rfl⟩ ⟨Nat.le_of_ble_eq_true rfl, Nat.le_of_ble_eq_true rfl⟩ [0, 1, 2, 3, 4, 5, 6, 7, 8, 9, 10, 11, 12, 13, 14, 15, 16, 17, 18, 19, 20, 21, 22, 23, 24, 25, 26, 27, 28, 29, 30, 31, 32, 33, 34, 35, 36, 37] rfl (by decide) 0 4 rfl rfl (Nat.le_of_ble_eq_true rfl) dL_first_4) [0, 1, 2, 3, 4, 5, 6, 7, 8, 9, 10, 11, 12, 13, 14, 15, 16, 17, 18, 19, 20, 21, 22, 23, 24, 25, 26, 27, 28, 29, 30, 31, 32, 33, 34, 35, 36, 37] [38] rfl rfl (by decide) (by decide) (fun _ => wL ad cI cJ cR cv g q u h k o) [1, 2, 3, 4, 5, 6, 7, 8, 9, 10, 11, 12, 13, 14, 15, 16, 17, 18, 19, 20, 21, 22, 23, 24, 25, 26, 27, 28, 29, 30, 31, 32, 33, 34, 35, 36, 37, 38, 0] (by decide) (fun _ => rfl) rfl (fun E9 hE9 => ?_) (fun v_4 u_4 hv_4 => ?_)
  · obtain ⟨hx, rfl⟩ := hE9
    refine ek_catch (w' := []) X [] (⟨0, 9, 12, 21⟩ : ExceptionTableEntry) [] (hT.trans rfl) (fun z hz => absurd hz List.not_mem_nil) (by decide) (by decide) (List.mem_of_getElem? (i := 1) rfl) hZ.2.1.1.2.1 (fun q9 => ?_)
    have hnc : ¬ xLt i (hPl h) = 0 := by rw [hx]; decide
    refine ek_asn (lv' := [(3, .ref q9), (0, .ref (ad 46)), (1, .int (nI i)), (2, .ref (ad 90))]) X (by decide) rfl dL_first_12 ?_
    refine ek_ic (v := nI 1) X (by decide) dL_first_13 ?_
    refine ek_widen (k' := 1) (n' := 6) (Nat.le_of_ble_eq_true rfl) (Nat.le_of_ble_eq_true rfl) ?_
    exact ek_reti X () ⟨_, rfl, (by first | exact congrArg nI hc_4.symm | exact congrArg nI hx.symm)⟩ (by first | rw [if_pos hc_4] | rw [if_neg hnc]) dL_first_14
  obtain ⟨hc_4, rfl⟩ := hv_4
  refine ek_i2l (v := (hFi h i).toInt64) X rfl dL_first_7 ?_
  refine ek_last (w' := wL ad cI cJ cR cv g q u h k (eN o 0 ((hFi h i).toInt64))) X 38 1 rfl rfl (by omega) (by omega) rfl dL_first_8 ?_
  refine ek_goto X 15 (by decide) dL_first_9 ?_
  refine ek_ic (v := nI 0) X (by decide) dL_first_15 ?_
  refine ek_widen (k' := 1) (n' := 6) (Nat.le_of_ble_eq_true rfl) (Nat.le_of_ble_eq_true rfl) ?_
  exact ek_reti X () ⟨_, rfl, (by first | exact congrArg nI hc_4.symm | exact congrArg nI hx.symm)⟩ (by first | rw [if_pos hc_4] | rw [if_neg hnc]) dL_first_16

abbrev rm_L_count : Room := { frames := 8, cells := 1, slots := 6, locals := 123 }
set_option maxHeartbeats 4000000 in
set_option maxRecDepth 100000 in
theorem c_L_count (l : Launch) (hl : l.stackTraces = false) (D : va_G) (cI cJ cR : ClassId) (ad : Nat → Nat) (cv : CavT) (g : SndT) (q : QueT) (u : CaveT) (h k : EchT) (o : Nat → Int64) (hB : cOk u) (w : Nat) (hw : w < 4294967296) : ek_MZ (S := Unit) l yL_count wsL_count rm_L_count D (tyW cI cJ cR) nestW [.ref (ad 46), .int (nI w), .ref (ad 90)] (wL ad cI cJ cR cv g q u h k o) (fun r9 _ => ∃ v : Int32, r9 = some (.int v) ∧ v = nI (xLe w 9)) (fun _ => wL ad cI cJ cR cv g q u h k (if xLe w 9 = 0 then eN o 0 ((nI (vCtd cv u h w)).toInt64) else o)) := by
  refine ek_MZ.of (cc := cL_count) (maxL := 4) (ret := (some .int)) (hh := [(0, 9, 12, 21)]) (by decide) rfl (Nat.le_of_ble_eq_true rfl) ?_
  intro p9 e9 s9 m9 args9 below9 meth9 c9 A X hZ hT
  refine ek_castL (lv' := [(0, .ref (ad 46)), (1, .int (nI w)), (2, .ref (ad 90))]) rfl ?_
  refine ek_aln X 2 rfl dL_count_0 ?_
  refine ek_ic (v := nI 0) X (by decide) dL_count_1 ?_
  refine ek_aln X 0 rfl dL_count_2 ?_
  refine ek_iln X 1 rfl dL_count_3 ?_
  refine ek_doXi X (ek_runVX (As := [.int (nI w)]) (rest := [.int (nI 0), .ref (ad 90)]) X hZ (c_X4_count l hl D cI cJ cR ad cv g q u h k hB  w (by omega)) gL_count_X4_count rfl hdV_X4_count ⟨Nat.le_of_ble_eq_true rfl, Nat.le_of_ble_eq_true rfl⟩ ⟨Nat.le_of_ble_eq_true rfl, Nat.le_of_ble_eq_true rfl⟩ [0, 1, 2, 3, 4, 5, 6, 7, 8, 9, 10, 11, 12, 13, 14, 15, 16, 17, 18, 19, 20, 21, 22, 23, 24, 25, 26, 27, 28, 29, 30, 31, 32, 33, 34, 35, 36, 37] rfl (by decide) 0 4 rfl rfl (Nat.le_of_ble_eq_true rfl) dL_count_4) [0, 1, 2, 3, 4, 5, 6, 7, 8, 9, 10, 11, 12, 13, 14, 15, 16, 17, 18, 19, 20, 21, 22, 23, 24, 25, 26, 27, 28, 29, 30, 31, 32, 33, 34, 35, 36, 37] [38] rfl rfl (by decide) (by decide) (fun _ => wL ad cI cJ cR cv g q u h k o) [1, 2, 3, 4, 5, 6, 7, 8, 9, 10, 11, 12, 13, 14, 15, 16, 17, 18, 19, 20, 21, 22, 23, 24, 25, 26, 27, 28, 29, 30, 31, 32, 33, 34, 35, 36, 37, 38, 0] (by decide) (fun _ => rfl) rfl (fun E9 hE9 => ?_) (fun v_4 u_4 hv_4 => ?_)
  · obtain ⟨hx, rfl⟩ := hE9
    refine ek_catch (w' := []) X [] (⟨0, 9, 12, 21⟩ : ExceptionTableEntry) [] (hT.trans rfl) (fun z hz => absurd hz List.not_mem_nil) (by decide) (by decide) (List.mem_of_getElem? (i := 1) rfl) hZ.2.1.1.2.1 (fun q9 => ?_)
    have hnc : ¬ xLe w 9 = 0 := by rw [hx]; decide
    refine ek_asn (lv' := [(3, .ref q9), (0, .ref (ad 46)), (1, .int (nI w)), (2, .ref (ad 90))]) X (by decide) rfl dL_count_12 ?_
    refine ek_ic (v := nI 1) X (by decide) dL_count_13 ?_
    refine ek_widen (k' := 1) (n' := 6) (Nat.le_of_ble_eq_true rfl) (Nat.le_of_ble_eq_true rfl) ?_
    exact ek_reti X () ⟨_, rfl, (by first | exact congrArg nI hc_4.symm | exact congrArg nI hx.symm)⟩ (by first | rw [if_pos hc_4] | rw [if_neg hnc]) dL_count_14
  obtain ⟨hc_4, rfl⟩ := hv_4
  refine ek_i2l (v := (nI (vCtd cv u h w)).toInt64) X rfl dL_count_7 ?_
  refine ek_last (w' := wL ad cI cJ cR cv g q u h k (eN o 0 ((nI (vCtd cv u h w)).toInt64))) X 38 1 rfl rfl (by omega) (by omega) rfl dL_count_8 ?_
  refine ek_goto X 15 (by decide) dL_count_9 ?_
  refine ek_ic (v := nI 0) X (by decide) dL_count_15 ?_
  refine ek_widen (k' := 1) (n' := 6) (Nat.le_of_ble_eq_true rfl) (Nat.le_of_ble_eq_true rfl) ?_
  exact ek_reti X () ⟨_, rfl, (by first | exact congrArg nI hc_4.symm | exact congrArg nI hx.symm)⟩ (by first | rw [if_pos hc_4] | rw [if_neg hnc]) dL_count_16

abbrev rm_L_would : Room := { frames := 9, cells := 3, slots := 18, locals := 168 }
set_option maxHeartbeats 4000000 in
set_option maxRecDepth 100000 in
theorem c_L_would (l : Launch) (hl : l.stackTraces = false) (D : va_G) (cI cJ cR : ClassId) (ad : Nat → Nat) (cv : CavT) (g : SndT) (q : QueT) (u : CaveT) (h k : EchT) (o : Nat → Int64) (hB : cOk u) (hI : sOk g q) (hK : hOk k) (he : vEar cv ≤ 50) (w : Nat) (b : Nat) (x : Nat) (hw : w < 4294967296) (hb : b < 4294967296) (hx : x < 4294967296) : ek_MZ (S := Unit) l yL_would wsL_would rm_L_would D (tyW cI cJ cR) nestW [.ref (ad 46), .int (nI w), .int (nI b), .int (nI x), .ref (ad 90)] (wL ad cI cJ cR cv g q u h k o) (fun r9 _ => ∃ v : Int32, r9 = some (.int v) ∧ v = nI (xWould w b x)) (fun _ => wL ad cI cJ cR cv (if xWould w b x = 0 then (gThrough u w b (vEar cv) g q k).1 else g) (if xWould w b x = 0 then (gThrough u w b (vEar cv) g q k).2.1 else q) u h (if xWould w b x = 0 then (gThrough u w b (vEar cv) g q k).2.2 else k) (if xWould w b x = 0 then eN o 0 ((vWould (gThrough u w b (vEar cv) g q k).1 (gThrough u w b (vEar cv) g q k).2.2 x).toInt64) else o)) := by
  refine ek_MZ.of (cc := cL_would) (maxL := 6) (ret := (some .int)) (hh := [(0, 12, 15, 13), (0, 12, 19, 21)]) (by decide) rfl (Nat.le_of_ble_eq_true rfl) ?_
  intro p9 e9 s9 m9 args9 below9 meth9 c9 A X hZ hT
  refine ek_castL (lv' := [(0, .ref (ad 46)), (1, .int (nI w)), (2, .int (nI b)), (3, .int (nI x)), (4, .ref (ad 90))]) rfl ?_
  refine ek_al X 4 rfl dL_would_0 ?_
  refine ek_ic (v := nI 0) X (by decide) dL_would_2 ?_
  refine ek_aln X 0 rfl dL_would_3 ?_
  refine ek_iln X 1 rfl dL_would_4 ?_
  refine ek_iln X 2 rfl dL_would_5 ?_
  refine ek_iln X 3 rfl dL_would_6 ?_
  refine ek_doXi X (ek_runVX (As := [.int (nI w), .int (nI b), .int (nI x)]) (rest := [.int (nI 0), .ref (ad 90)]) X hZ (c_X4_would l hl D cI cJ cR ad cv g q u h k hB hI hK he w b x (by omega) (by omega) (by omega)) gL_would_X4_would rfl hdV_X4_would ⟨Nat.le_of_ble_eq_true rfl, Nat.le_of_ble_eq_true rfl⟩ ⟨Nat.le_of_ble_eq_true rfl, Nat.le_of_ble_eq_true rfl⟩ [0, 1, 2, 3, 4, 5, 6, 7, 8, 9, 10, 11, 12, 13, 14, 15, 16, 17, 18, 19, 20, 21, 22, 23, 24, 25, 26, 27, 28, 29, 30, 31, 32, 33, 34, 35, 36, 37] rfl (by decide) 0 4 rfl rfl (Nat.le_of_ble_eq_true rfl) dL_would_7) [0, 1, 2, 3, 4, 5, 6, 7, 8, 9, 10, 11, 12, 13, 14, 15, 16, 17, 18, 19, 20, 21, 22, 23, 24, 25, 26, 27, 28, 29, 30, 31, 32, 33, 34, 35, 36, 37] [38] rfl rfl (by decide) (by decide) (fun _ => wL ad cI cJ cR cv (gThrough u w b (vEar cv) g q k).1 (gThrough u w b (vEar cv) g q k).2.1 u h (gThrough u w b (vEar cv) g q k).2.2 o) [1, 2, 3, 4, 5, 6, 7, 8, 9, 10, 11, 12, 13, 14, 15, 16, 17, 18, 19, 20, 21, 22, 23, 24, 25, 26, 27, 28, 29, 30, 31, 32, 33, 34, 35, 36, 37, 38, 0] (by decide) (fun _ => rfl) rfl (fun E9 hE9 => ?_) (fun v_7 u_7 hv_7 => ?_)
  · rcases hE9 with ⟨hx, rfl⟩ | ⟨hx, rfl⟩
    · refine ek_catch (w' := []) X [] (⟨0, 12, 15, 13⟩ : ExceptionTableEntry) [(⟨0, 12, 19, 21⟩ : ExceptionTableEntry)] (hT.trans rfl) (fun z hz => absurd hz List.not_mem_nil) (by decide) (by decide) (List.mem_of_getElem? (i := 1) rfl) hZ.2.1.1.1 (fun q9 => ?_)
      have hnc : ¬ xWould w b x = 0 := by rw [hx]; decide
      refine ek_as (lv' := [(5, .ref q9), (0, .ref (ad 46)), (1, .int (nI w)), (2, .int (nI b)), (3, .int (nI x)), (4, .ref (ad 90))]) X (by decide) rfl dL_would_15 ?_
      refine ek_ic (v := nI 1) X (by decide) dL_would_17 ?_
      refine ek_widen (k' := 3) (n' := 18) (Nat.le_of_ble_eq_true rfl) (Nat.le_of_ble_eq_true rfl) ?_
      exact ek_reti X () ⟨_, rfl, (by first | exact congrArg nI hc_7.symm | exact congrArg nI hx.symm)⟩ (by first | rw [if_pos hc_7, if_pos hc_7, if_pos hc_7, if_pos hc_7] | rw [if_neg hnc, if_neg hnc, if_neg hnc, if_neg hnc]) dL_would_18
    · refine ek_catch (w' := []) X [(⟨0, 12, 15, 13⟩ : ExceptionTableEntry)] (⟨0, 12, 19, 21⟩ : ExceptionTableEntry) [] (hT.trans rfl) (fun z hz => by rw [List.mem_singleton.mp hz]; exact Or.inr ⟨by decide, _, (List.mem_of_getElem? (i := 1) rfl), hZ.2.2.2.2.2.2⟩) (by decide) (by decide) (List.mem_of_getElem? (i := 2) rfl) hZ.2.1.1.2.1 (fun q9 => ?_)
      have hnc : ¬ xWould w b x = 0 := by rw [hx]; decide
      refine ek_as (lv' := [(5, .ref q9), (0, .ref (ad 46)), (1, .int (nI w)), (2, .int (nI b)), (3, .int (nI x)), (4, .ref (ad 90))]) X (by decide) rfl dL_would_19 ?_
      refine ek_ic (v := nI 2) X (by decide) dL_would_21 ?_
      refine ek_widen (k' := 3) (n' := 18) (Nat.le_of_ble_eq_true rfl) (Nat.le_of_ble_eq_true rfl) ?_
      exact ek_reti X () ⟨_, rfl, (by first | exact congrArg nI hc_7.symm | exact congrArg nI hx.symm)⟩ (by first | rw [if_pos hc_7, if_pos hc_7, if_pos hc_7, if_pos hc_7] | rw [if_neg hnc, if_neg hnc, if_neg hnc, if_neg hnc]) dL_would_22
  obtain ⟨hc_7, rfl⟩ := hv_7
  refine ek_i2l (v := (vWould (gThrough u w b (vEar cv) g q k).1 (gThrough u w b (vEar cv) g q k).2.2 x).toInt64) X rfl dL_would_10 ?_
  refine ek_last (w' := wL ad cI cJ cR cv (gThrough u w b (vEar cv) g q k).1 (gThrough u w b (vEar cv) g q k).2.1 u h (gThrough u w b (vEar cv) g q k).2.2 (eN o 0 ((vWould (gThrough u w b (vEar cv) g q k).1 (gThrough u w b (vEar cv) g q k).2.2 x).toInt64))) X 38 1 rfl rfl (by omega) (by omega) rfl dL_would_11 ?_
  refine ek_goto X 23 (by decide) dL_would_12 ?_
  refine ek_ic (v := nI 0) X (by decide) dL_would_23 ?_
  refine ek_widen (k' := 3) (n' := 18) (Nat.le_of_ble_eq_true rfl) (Nat.le_of_ble_eq_true rfl) ?_
  exact ek_reti X () ⟨_, rfl, (by first | exact congrArg nI hc_7.symm | exact congrArg nI hx.symm)⟩ (by first | rw [if_pos hc_7, if_pos hc_7, if_pos hc_7, if_pos hc_7] | rw [if_neg hnc, if_neg hnc, if_neg hnc, if_neg hnc]) dL_would_24

abbrev rm_L_advise : Room := { frames := 9, cells := 4, slots := 24, locals := 195 }
set_option maxHeartbeats 4000000 in
set_option maxRecDepth 100000 in
theorem c_L_advise (l : Launch) (hl : l.stackTraces = false) (D : va_G) (cI cJ cR : ClassId) (ad : Nat → Nat) (cv : CavT) (g : SndT) (q : QueT) (u : CaveT) (h k : EchT) (o : Nat → Int64) (hB : cOk u) (hI : sOk g q) (hK : hOk k) (he : vEar cv ≤ 50) (w : Nat) (b : Nat) (y : Nat) (d : Nat) (hw : w < 4294967296) (hb : b < 4294967296) (hy : y < 4294967296) (hd : d < 4294967296) : ek_MZ (S := Unit) l yL_advise wsL_advise rm_L_advise D (tyW cI cJ cR) nestW [.ref (ad 46), .int (nI w), .int (nI b), .int (nI y), .int (nI d), .ref (ad 90)] (wL ad cI cJ cR cv g q u h k o) (fun r9 _ => ∃ v : Int32, r9 = some (.int v) ∧ v = nI (xAdv w b y d)) (fun _ => wL ad cI cJ cR cv (if xAdv w b y d = 0 then (vAdv (vEar cv) w b y d (cC u - 1) 1 (u, g, q, k)).2.2.1 else g) (if xAdv w b y d = 0 then (vAdv (vEar cv) w b y d (cC u - 1) 1 (u, g, q, k)).2.2.2.1 else q) (if xAdv w b y d = 0 then (vAdv (vEar cv) w b y d (cC u - 1) 1 (u, g, q, k)).2.1 else u) h (if xAdv w b y d = 0 then (vAdv (vEar cv) w b y d (cC u - 1) 1 (u, g, q, k)).2.2.2.2 else k) (if xAdv w b y d = 0 then eN o 0 (((vAdv (vEar cv) w b y d (cC u - 1) 1 (u, g, q, k)).1).toInt64) else o)) := by
  refine ek_MZ.of (cc := cL_advise) (maxL := 7) (ret := (some .int)) (hh := [(0, 14, 17, 13)]) (by decide) rfl (Nat.le_of_ble_eq_true rfl) ?_
  intro p9 e9 s9 m9 args9 below9 meth9 c9 A X hZ hT
  refine ek_castL (lv' := [(0, .ref (ad 46)), (1, .int (nI w)), (2, .int (nI b)), (3, .int (nI y)), (4, .int (nI d)), (5, .ref (ad 90))]) rfl ?_
  refine ek_al X 5 rfl dL_advise_0 ?_
  refine ek_ic (v := nI 0) X (by decide) dL_advise_2 ?_
  refine ek_aln X 0 rfl dL_advise_3 ?_
  refine ek_iln X 1 rfl dL_advise_4 ?_
  refine ek_iln X 2 rfl dL_advise_5 ?_
  refine ek_iln X 3 rfl dL_advise_6 ?_
  refine ek_il X 4 rfl dL_advise_7 ?_
  refine ek_doXi X (ek_runVX (As := [.int (nI w), .int (nI b), .int (nI y), .int (nI d)]) (rest := [.int (nI 0), .ref (ad 90)]) X hZ (c_X4_advise l hl D cI cJ cR ad cv g q u h k hB hI hK he w b y d (by omega) (by omega) (by omega) (by omega)) gL_advise_X4_advise rfl hdV_X4_advise ⟨Nat.le_of_ble_eq_true rfl, Nat.le_of_ble_eq_true rfl⟩ ⟨Nat.le_of_ble_eq_true rfl, Nat.le_of_ble_eq_true rfl⟩ [0, 1, 2, 3, 4, 5, 6, 7, 8, 9, 10, 11, 12, 13, 14, 15, 16, 17, 18, 19, 20, 21, 22, 23, 24, 25, 26, 27, 28, 29, 30, 31, 32, 33, 34, 35, 36, 37] rfl (by decide) 0 4 rfl rfl (Nat.le_of_ble_eq_true rfl) dL_advise_9) [0, 1, 2, 3, 4, 5, 6, 7, 8, 9, 10, 11, 12, 13, 14, 15, 16, 17, 18, 19, 20, 21, 22, 23, 24, 25, 26, 27, 28, 29, 30, 31, 32, 33, 34, 35, 36, 37] [38] rfl rfl (by decide) (by decide) (fun _ => wL ad cI cJ cR cv (vAdv (vEar cv) w b y d (cC u - 1) 1 (u, g, q, k)).2.2.1 (vAdv (vEar cv) w b y d (cC u - 1) 1 (u, g, q, k)).2.2.2.1 (vAdv (vEar cv) w b y d (cC u - 1) 1 (u, g, q, k)).2.1 h (vAdv (vEar cv) w b y d (cC u - 1) 1 (u, g, q, k)).2.2.2.2 o) [1, 2, 3, 4, 5, 6, 7, 8, 9, 10, 11, 12, 13, 14, 15, 16, 17, 18, 19, 20, 21, 22, 23, 24, 25, 26, 27, 28, 29, 30, 31, 32, 33, 34, 35, 36, 37, 38, 0] (by decide) (fun _ => rfl) rfl (fun E9 hE9 => ?_) (fun v_9 u_9 hv_9 => ?_)
  · obtain ⟨hx, rfl⟩ := hE9
    refine ek_catch (w' := []) X [] (⟨0, 14, 17, 13⟩ : ExceptionTableEntry) [] (hT.trans rfl) (fun z hz => absurd hz List.not_mem_nil) (by decide) (by decide) (List.mem_of_getElem? (i := 1) rfl) hZ.2.1.1.1 (fun q9 => ?_)
    have hnc : ¬ xAdv w b y d = 0 := by rw [hx]; decide
    refine ek_as (lv' := [(6, .ref q9), (0, .ref (ad 46)), (1, .int (nI w)), (2, .int (nI b)), (3, .int (nI y)), (4, .int (nI d)), (5, .ref (ad 90))]) X (by decide) rfl dL_advise_17 ?_
    refine ek_ic (v := nI 1) X (by decide) dL_advise_19 ?_
    refine ek_widen (k' := 4) (n' := 24) (Nat.le_of_ble_eq_true rfl) (Nat.le_of_ble_eq_true rfl) ?_
    exact ek_reti X () ⟨_, rfl, (by first | exact congrArg nI hc_9.symm | exact congrArg nI hx.symm)⟩ (by first | rw [if_pos hc_9, if_pos hc_9, if_pos hc_9, if_pos hc_9, if_pos hc_9] | rw [if_neg hnc, if_neg hnc, if_neg hnc, if_neg hnc, if_neg hnc]) dL_advise_20
  obtain ⟨hc_9, rfl⟩ := hv_9
  refine ek_i2l (v := ((vAdv (vEar cv) w b y d (cC u - 1) 1 (u, g, q, k)).1).toInt64) X rfl dL_advise_12 ?_
  refine ek_last (w' := wL ad cI cJ cR cv (vAdv (vEar cv) w b y d (cC u - 1) 1 (u, g, q, k)).2.2.1 (vAdv (vEar cv) w b y d (cC u - 1) 1 (u, g, q, k)).2.2.2.1 (vAdv (vEar cv) w b y d (cC u - 1) 1 (u, g, q, k)).2.1 h (vAdv (vEar cv) w b y d (cC u - 1) 1 (u, g, q, k)).2.2.2.2 (eN o 0 (((vAdv (vEar cv) w b y d (cC u - 1) 1 (u, g, q, k)).1).toInt64))) X 38 1 rfl rfl (by omega) (by omega) rfl dL_advise_13 ?_
  refine ek_goto X 21 (by decide) dL_advise_14 ?_
  refine ek_ic (v := nI 0) X (by decide) dL_advise_21 ?_
  refine ek_widen (k' := 4) (n' := 24) (Nat.le_of_ble_eq_true rfl) (Nat.le_of_ble_eq_true rfl) ?_
  exact ek_reti X () ⟨_, rfl, (by first | exact congrArg nI hc_9.symm | exact congrArg nI hx.symm)⟩ (by first | rw [if_pos hc_9, if_pos hc_9, if_pos hc_9, if_pos hc_9, if_pos hc_9] | rw [if_neg hnc, if_neg hnc, if_neg hnc, if_neg hnc, if_neg hnc]) dL_advise_22

abbrev rm_L_longest : Room := { frames := 8, cells := 2, slots := 12, locals := 192 }
set_option maxHeartbeats 4000000 in
set_option maxRecDepth 100000 in
theorem c_L_longest (l : Launch) (hl : l.stackTraces = false) (D : va_G) (cI cJ cR : ClassId) (ad : Nat → Nat) (cv : CavT) (g : SndT) (q : QueT) (u : CaveT) (h k : EchT) (o : Nat → Int64) (hB : cOk u) (hI : sOk g q) (hK : hOk k) (he : vEar cv ≤ 50) (y : Nat) (b : Nat) (hy : y < 4294967296) (hb : b < 4294967296) : ek_MZ (S := Unit) l yL_longest wsL_longest rm_L_longest D (tyW cI cJ cR) nestW [.ref (ad 46), .int (nI y), .int (nI b), .ref (ad 90)] (wL ad cI cJ cR cv g q u h k o) (fun r9 _ => ∃ v : Int32, r9 = some (.int v) ∧ v = nI (xLong y b)) (fun _ => wL ad cI cJ cR cv (if xLong y b = 0 then (vLong u (vEar cv) y b 6 1 0 (g, q, k)).2.1 else g) (if xLong y b = 0 then (vLong u (vEar cv) y b 6 1 0 (g, q, k)).2.2.1 else q) u h (if xLong y b = 0 then (vLong u (vEar cv) y b 6 1 0 (g, q, k)).2.2.2 else k) (if xLong y b = 0 then eN o 0 ((nI (vLong u (vEar cv) y b 6 1 0 (g, q, k)).1).toInt64) else o)) := by
  refine ek_MZ.of (cc := cL_longest) (maxL := 5) (ret := (some .int)) (hh := [(0, 10, 13, 13)]) (by decide) rfl (Nat.le_of_ble_eq_true rfl) ?_
  intro p9 e9 s9 m9 args9 below9 meth9 c9 A X hZ hT
  refine ek_castL (lv' := [(0, .ref (ad 46)), (1, .int (nI y)), (2, .int (nI b)), (3, .ref (ad 90))]) rfl ?_
  refine ek_aln X 3 rfl dL_longest_0 ?_
  refine ek_ic (v := nI 0) X (by decide) dL_longest_1 ?_
  refine ek_aln X 0 rfl dL_longest_2 ?_
  refine ek_iln X 1 rfl dL_longest_3 ?_
  refine ek_iln X 2 rfl dL_longest_4 ?_
  refine ek_doXi X (ek_runVX (As := [.int (nI y), .int (nI b)]) (rest := [.int (nI 0), .ref (ad 90)]) X hZ (c_X4_longest l hl D cI cJ cR ad cv g q u h k hB hI hK he y b (by omega) (by omega)) gL_longest_X4_longest rfl hdV_X4_longest ⟨Nat.le_of_ble_eq_true rfl, Nat.le_of_ble_eq_true rfl⟩ ⟨Nat.le_of_ble_eq_true rfl, Nat.le_of_ble_eq_true rfl⟩ [0, 1, 2, 3, 4, 5, 6, 7, 8, 9, 10, 11, 12, 13, 14, 15, 16, 17, 18, 19, 20, 21, 22, 23, 24, 25, 26, 27, 28, 29, 30, 31, 32, 33, 34, 35, 36, 37] rfl (by decide) 0 4 rfl rfl (Nat.le_of_ble_eq_true rfl) dL_longest_5) [0, 1, 2, 3, 4, 5, 6, 7, 8, 9, 10, 11, 12, 13, 14, 15, 16, 17, 18, 19, 20, 21, 22, 23, 24, 25, 26, 27, 28, 29, 30, 31, 32, 33, 34, 35, 36, 37] [38] rfl rfl (by decide) (by decide) (fun _ => wL ad cI cJ cR cv (vLong u (vEar cv) y b 6 1 0 (g, q, k)).2.1 (vLong u (vEar cv) y b 6 1 0 (g, q, k)).2.2.1 u h (vLong u (vEar cv) y b 6 1 0 (g, q, k)).2.2.2 o) [1, 2, 3, 4, 5, 6, 7, 8, 9, 10, 11, 12, 13, 14, 15, 16, 17, 18, 19, 20, 21, 22, 23, 24, 25, 26, 27, 28, 29, 30, 31, 32, 33, 34, 35, 36, 37, 38, 0] (by decide) (fun _ => rfl) rfl (fun E9 hE9 => ?_) (fun v_5 u_5 hv_5 => ?_)
  · obtain ⟨hx, rfl⟩ := hE9
    refine ek_catch (w' := []) X [] (⟨0, 10, 13, 13⟩ : ExceptionTableEntry) [] (hT.trans rfl) (fun z hz => absurd hz List.not_mem_nil) (by decide) (by decide) (List.mem_of_getElem? (i := 1) rfl) hZ.2.1.1.1 (fun q9 => ?_)
    have hnc : ¬ xLong y b = 0 := by rw [hx]; decide
    refine ek_as (lv' := [(4, .ref q9), (0, .ref (ad 46)), (1, .int (nI y)), (2, .int (nI b)), (3, .ref (ad 90))]) X (by decide) rfl dL_longest_13 ?_
    refine ek_ic (v := nI 1) X (by decide) dL_longest_15 ?_
    refine ek_widen (k' := 2) (n' := 12) (Nat.le_of_ble_eq_true rfl) (Nat.le_of_ble_eq_true rfl) ?_
    exact ek_reti X () ⟨_, rfl, (by first | exact congrArg nI hc_5.symm | exact congrArg nI hx.symm)⟩ (by first | rw [if_pos hc_5, if_pos hc_5, if_pos hc_5, if_pos hc_5] | rw [if_neg hnc, if_neg hnc, if_neg hnc, if_neg hnc]) dL_longest_16
  obtain ⟨hc_5, rfl⟩ := hv_5
  refine ek_i2l (v := (nI (vLong u (vEar cv) y b 6 1 0 (g, q, k)).1).toInt64) X rfl dL_longest_8 ?_
  refine ek_last (w' := wL ad cI cJ cR cv (vLong u (vEar cv) y b 6 1 0 (g, q, k)).2.1 (vLong u (vEar cv) y b 6 1 0 (g, q, k)).2.2.1 u h (vLong u (vEar cv) y b 6 1 0 (g, q, k)).2.2.2 (eN o 0 ((nI (vLong u (vEar cv) y b 6 1 0 (g, q, k)).1).toInt64))) X 38 1 rfl rfl (by omega) (by omega) rfl dL_longest_9 ?_
  refine ek_goto X 17 (by decide) dL_longest_10 ?_
  refine ek_ic (v := nI 0) X (by decide) dL_longest_17 ?_
  refine ek_widen (k' := 2) (n' := 12) (Nat.le_of_ble_eq_true rfl) (Nat.le_of_ble_eq_true rfl) ?_
  exact ek_reti X () ⟨_, rfl, (by first | exact congrArg nI hc_5.symm | exact congrArg nI hx.symm)⟩ (by first | rw [if_pos hc_5, if_pos hc_5, if_pos hc_5, if_pos hc_5] | rw [if_neg hnc, if_neg hnc, if_neg hnc, if_neg hnc]) dL_longest_18

abbrev rm_L_quickest : Room := { frames := 8, cells := 1, slots := 6, locals := 189 }
set_option maxHeartbeats 4000000 in
set_option maxRecDepth 100000 in
theorem c_L_quickest (l : Launch) (hl : l.stackTraces = false) (D : va_G) (cI cJ cR : ClassId) (ad : Nat → Nat) (cv : CavT) (g : SndT) (q : QueT) (u : CaveT) (h k : EchT) (o : Nat → Int64) (hB : cOk u) (hI : sOk g q) (hK : hOk k) (he : vEar cv ≤ 50) (w : Nat) (hw : w < 4294967296) : ek_MZ (S := Unit) l yL_quickest wsL_quickest rm_L_quickest D (tyW cI cJ cR) nestW [.ref (ad 46), .int (nI w), .ref (ad 90)] (wL ad cI cJ cR cv g q u h k o) (fun r9 _ => ∃ v : Int32, r9 = some (.int v) ∧ v = nI (xQuick w)) (fun _ => wL ad cI cJ cR cv (if xQuick w = 0 then (vQuick u (vEar cv) w 20 1 (g, q, k)).2.1 else g) (if xQuick w = 0 then (vQuick u (vEar cv) w 20 1 (g, q, k)).2.2.1 else q) u h (if xQuick w = 0 then (vQuick u (vEar cv) w 20 1 (g, q, k)).2.2.2 else k) (if xQuick w = 0 then eN o 0 (((vQuick u (vEar cv) w 20 1 (g, q, k)).1).toInt64) else o)) := by
  refine ek_MZ.of (cc := cL_quickest) (maxL := 4) (ret := (some .int)) (hh := [(0, 9, 12, 13)]) (by decide) rfl (Nat.le_of_ble_eq_true rfl) ?_
  intro p9 e9 s9 m9 args9 below9 meth9 c9 A X hZ hT
  refine ek_castL (lv' := [(0, .ref (ad 46)), (1, .int (nI w)), (2, .ref (ad 90))]) rfl ?_
  refine ek_aln X 2 rfl dL_quickest_0 ?_
  refine ek_ic (v := nI 0) X (by decide) dL_quickest_1 ?_
  refine ek_aln X 0 rfl dL_quickest_2 ?_
  refine ek_iln X 1 rfl dL_quickest_3 ?_
  refine ek_doXi X (ek_runVX (As := [.int (nI w)]) (rest := [.int (nI 0), .ref (ad 90)]) X hZ (c_X4_quickest l hl D cI cJ cR ad cv g q u h k hB hI hK he w (by omega)) gL_quickest_X4_quickest rfl hdV_X4_quickest ⟨Nat.le_of_ble_eq_true rfl, Nat.le_of_ble_eq_true rfl⟩ ⟨Nat.le_of_ble_eq_true rfl, Nat.le_of_ble_eq_true rfl⟩ [0, 1, 2, 3, 4, 5, 6, 7, 8, 9, 10, 11, 12, 13, 14, 15, 16, 17, 18, 19, 20, 21, 22, 23, 24, 25, 26, 27, 28, 29, 30, 31, 32, 33, 34, 35, 36, 37] rfl (by decide) 0 4 rfl rfl (Nat.le_of_ble_eq_true rfl) dL_quickest_4) [0, 1, 2, 3, 4, 5, 6, 7, 8, 9, 10, 11, 12, 13, 14, 15, 16, 17, 18, 19, 20, 21, 22, 23, 24, 25, 26, 27, 28, 29, 30, 31, 32, 33, 34, 35, 36, 37] [38] rfl rfl (by decide) (by decide) (fun _ => wL ad cI cJ cR cv (vQuick u (vEar cv) w 20 1 (g, q, k)).2.1 (vQuick u (vEar cv) w 20 1 (g, q, k)).2.2.1 u h (vQuick u (vEar cv) w 20 1 (g, q, k)).2.2.2 o) [1, 2, 3, 4, 5, 6, 7, 8, 9, 10, 11, 12, 13, 14, 15, 16, 17, 18, 19, 20, 21, 22, 23, 24, 25, 26, 27, 28, 29, 30, 31, 32, 33, 34, 35, 36, 37, 38, 0] (by decide) (fun _ => rfl) rfl (fun E9 hE9 => ?_) (fun v_4 u_4 hv_4 => ?_)
  · obtain ⟨hx, rfl⟩ := hE9
    refine ek_catch (w' := []) X [] (⟨0, 9, 12, 13⟩ : ExceptionTableEntry) [] (hT.trans rfl) (fun z hz => absurd hz List.not_mem_nil) (by decide) (by decide) (List.mem_of_getElem? (i := 1) rfl) hZ.2.1.1.1 (fun q9 => ?_)
    have hnc : ¬ xQuick w = 0 := by rw [hx]; decide
    refine ek_asn (lv' := [(3, .ref q9), (0, .ref (ad 46)), (1, .int (nI w)), (2, .ref (ad 90))]) X (by decide) rfl dL_quickest_12 ?_
    refine ek_ic (v := nI 1) X (by decide) dL_quickest_13 ?_
    refine ek_widen (k' := 1) (n' := 6) (Nat.le_of_ble_eq_true rfl) (Nat.le_of_ble_eq_true rfl) ?_
    exact ek_reti X () ⟨_, rfl, (by first | exact congrArg nI hc_4.symm | exact congrArg nI hx.symm)⟩ (by first | rw [if_pos hc_4, if_pos hc_4, if_pos hc_4, if_pos hc_4] | rw [if_neg hnc, if_neg hnc, if_neg hnc, if_neg hnc]) dL_quickest_14
  obtain ⟨hc_4, rfl⟩ := hv_4
  refine ek_i2l (v := ((vQuick u (vEar cv) w 20 1 (g, q, k)).1).toInt64) X rfl dL_quickest_7 ?_
  refine ek_last (w' := wL ad cI cJ cR cv (vQuick u (vEar cv) w 20 1 (g, q, k)).2.1 (vQuick u (vEar cv) w 20 1 (g, q, k)).2.2.1 u h (vQuick u (vEar cv) w 20 1 (g, q, k)).2.2.2 (eN o 0 (((vQuick u (vEar cv) w 20 1 (g, q, k)).1).toInt64))) X 38 1 rfl rfl (by omega) (by omega) rfl dL_quickest_8 ?_
  refine ek_goto X 15 (by decide) dL_quickest_9 ?_
  refine ek_ic (v := nI 0) X (by decide) dL_quickest_15 ?_
  refine ek_widen (k' := 1) (n' := 6) (Nat.le_of_ble_eq_true rfl) (Nat.le_of_ble_eq_true rfl) ?_
  exact ek_reti X () ⟨_, rfl, (by first | exact congrArg nI hc_4.symm | exact congrArg nI hx.symm)⟩ (by first | rw [if_pos hc_4, if_pos hc_4, if_pos hc_4, if_pos hc_4] | rw [if_neg hnc, if_neg hnc, if_neg hnc, if_neg hnc]) dL_quickest_16

abbrev rm_L_way : Room := { frames := 8, cells := 2, slots := 12, locals := 124 }
set_option maxHeartbeats 4000000 in
set_option maxRecDepth 100000 in
theorem c_L_way (l : Launch) (hl : l.stackTraces = false) (D : va_G) (cI cJ cR : ClassId) (ad : Nat → Nat) (cv : CavT) (g : SndT) (q : QueT) (u : CaveT) (h k : EchT) (o : Nat → Int64) (hB : cOk u) (a : Nat) (b : Nat) (ha : a < 4294967296) (hb : b < 4294967296) : ek_MZ (S := Unit) l yL_way wsL_way rm_L_way D (tyW cI cJ cR) nestW [.ref (ad 46), .int (nI a), .int (nI b), .ref (ad 90)] (wL ad cI cJ cR cv g q u h k o) (fun r9 _ => ∃ v : Int32, r9 = some (.int v) ∧ v = nI (xWay a b (cC u))) (fun _ => wL ad cI cJ cR cv g q (if xWay a b (cC u) = 0 then (cSetF u (wayOf u a)) else u) h k (if xWay a b (cC u) = 0 then eN o 0 ((wayOf u a b).toInt64) else o)) := by
  refine ek_MZ.of (cc := cL_way) (maxL := 5) (ret := (some .int)) (hh := [(0, 10, 13, 21)]) (by decide) rfl (Nat.le_of_ble_eq_true rfl) ?_
  intro p9 e9 s9 m9 args9 below9 meth9 c9 A X hZ hT
  refine ek_castL (lv' := [(0, .ref (ad 46)), (1, .int (nI a)), (2, .int (nI b)), (3, .ref (ad 90))]) rfl ?_
  refine ek_aln X 3 rfl dL_way_0 ?_
  refine ek_ic (v := nI 0) X (by decide) dL_way_1 ?_
  refine ek_aln X 0 rfl dL_way_2 ?_
  refine ek_iln X 1 rfl dL_way_3 ?_
  refine ek_iln X 2 rfl dL_way_4 ?_
  refine ek_doXi X (ek_runVX (As := [.int (nI a), .int (nI b)]) (rest := [.int (nI 0), .ref (ad 90)]) X hZ (c_X4_way l hl D cI cJ cR ad cv g q u h k hB  a b (by omega) (by omega)) gL_way_X4_way rfl hdV_X4_way ⟨Nat.le_of_ble_eq_true rfl, Nat.le_of_ble_eq_true rfl⟩ ⟨Nat.le_of_ble_eq_true rfl, Nat.le_of_ble_eq_true rfl⟩ [0, 1, 2, 3, 4, 5, 6, 7, 8, 9, 10, 11, 12, 13, 14, 15, 16, 17, 18, 19, 20, 21, 22, 23, 24, 25, 26, 27, 28, 29, 30, 31, 32, 33, 34, 35, 36, 37] rfl (by decide) 0 4 rfl rfl (Nat.le_of_ble_eq_true rfl) dL_way_5) [0, 1, 2, 3, 4, 5, 6, 7, 8, 9, 10, 11, 12, 13, 14, 15, 16, 17, 18, 19, 20, 21, 22, 23, 24, 25, 26, 27, 28, 29, 30, 31, 32, 33, 34, 35, 36, 37] [38] rfl rfl (by decide) (by decide) (fun _ => wL ad cI cJ cR cv g q (cSetF u (wayOf u a)) h k o) [1, 2, 3, 4, 5, 6, 7, 8, 9, 10, 11, 12, 13, 14, 15, 16, 17, 18, 19, 20, 21, 22, 23, 24, 25, 26, 27, 28, 29, 30, 31, 32, 33, 34, 35, 36, 37, 38, 0] (by decide) (fun _ => rfl) rfl (fun E9 hE9 => ?_) (fun v_5 u_5 hv_5 => ?_)
  · obtain ⟨hx, rfl⟩ := hE9
    refine ek_catch (w' := []) X [] (⟨0, 10, 13, 21⟩ : ExceptionTableEntry) [] (hT.trans rfl) (fun z hz => absurd hz List.not_mem_nil) (by decide) (by decide) (List.mem_of_getElem? (i := 1) rfl) hZ.2.1.1.2.1 (fun q9 => ?_)
    have hnc : ¬ xWay a b (cC u) = 0 := by rw [hx]; decide
    refine ek_as (lv' := [(4, .ref q9), (0, .ref (ad 46)), (1, .int (nI a)), (2, .int (nI b)), (3, .ref (ad 90))]) X (by decide) rfl dL_way_13 ?_
    refine ek_ic (v := nI 1) X (by decide) dL_way_15 ?_
    refine ek_widen (k' := 2) (n' := 12) (Nat.le_of_ble_eq_true rfl) (Nat.le_of_ble_eq_true rfl) ?_
    exact ek_reti X () ⟨_, rfl, (by first | exact congrArg nI hc_5.symm | exact congrArg nI hx.symm)⟩ (by first | rw [if_pos hc_5, if_pos hc_5] | rw [if_neg hnc, if_neg hnc]) dL_way_16
  obtain ⟨hc_5, rfl⟩ := hv_5
  refine ek_i2l (v := (wayOf u a b).toInt64) X rfl dL_way_8 ?_
  refine ek_last (w' := wL ad cI cJ cR cv g q (cSetF u (wayOf u a)) h k (eN o 0 ((wayOf u a b).toInt64))) X 38 1 rfl rfl (by omega) (by omega) rfl dL_way_9 ?_
  refine ek_goto X 17 (by decide) dL_way_10 ?_
  refine ek_ic (v := nI 0) X (by decide) dL_way_17 ?_
  refine ek_widen (k' := 2) (n' := 12) (Nat.le_of_ble_eq_true rfl) (Nat.le_of_ble_eq_true rfl) ?_
  exact ek_reti X () ⟨_, rfl, (by first | exact congrArg nI hc_5.symm | exact congrArg nI hx.symm)⟩ (by first | rw [if_pos hc_5, if_pos hc_5] | rw [if_neg hnc, if_neg hnc]) dL_way_18

abbrev rm_L_highest : Room := { frames := 8, cells := 1, slots := 6, locals := 123 }
set_option maxHeartbeats 4000000 in
set_option maxRecDepth 100000 in
theorem c_L_highest (l : Launch) (hl : l.stackTraces = false) (D : va_G) (cI cJ cR : ClassId) (ad : Nat → Nat) (cv : CavT) (g : SndT) (q : QueT) (u : CaveT) (h k : EchT) (o : Nat → Int64) (hB : cOk u) (c : Nat) (hc : c < 4294967296) : ek_MZ (S := Unit) l yL_highest wsL_highest rm_L_highest D (tyW cI cJ cR) nestW [.ref (ad 46), .int (nI c), .ref (ad 90)] (wL ad cI cJ cR cv g q u h k o) (fun r9 _ => ∃ v : Int32, r9 = some (.int v) ∧ v = nI (xLt c (cC u))) (fun _ => wL ad cI cJ cR cv g q (if xLt c (cC u) = 0 then (cSetF u (upOf u)) else u) h k (if xLt c (cC u) = 0 then eN o 0 ((upOf u c).toInt64) else o)) := by
  refine ek_MZ.of (cc := cL_highest) (maxL := 4) (ret := (some .int)) (hh := [(0, 9, 12, 21)]) (by decide) rfl (Nat.le_of_ble_eq_true rfl) ?_
  intro p9 e9 s9 m9 args9 below9 meth9 c9 A X hZ hT
  refine ek_castL (lv' := [(0, .ref (ad 46)), (1, .int (nI c)), (2, .ref (ad 90))]) rfl ?_
  refine ek_aln X 2 rfl dL_highest_0 ?_
  refine ek_ic (v := nI 0) X (by decide) dL_highest_1 ?_
  refine ek_aln X 0 rfl dL_highest_2 ?_
  refine ek_iln X 1 rfl dL_highest_3 ?_
  refine ek_doXi X (ek_runVX (As := [.int (nI c)]) (rest := [.int (nI 0), .ref (ad 90)]) X hZ (c_X4_highest l hl D cI cJ cR ad cv g q u h k hB  c (by omega)) gL_highest_X4_highest rfl hdV_X4_highest ⟨Nat.le_of_ble_eq_true rfl, Nat.le_of_ble_eq_true rfl⟩ ⟨Nat.le_of_ble_eq_true rfl, Nat.le_of_ble_eq_true rfl⟩ [0, 1, 2, 3, 4, 5, 6, 7, 8, 9, 10, 11, 12, 13, 14, 15, 16, 17, 18, 19, 20, 21, 22, 23, 24, 25, 26, 27, 28, 29, 30, 31, 32, 33, 34, 35, 36, 37] rfl (by decide) 0 4 rfl rfl (Nat.le_of_ble_eq_true rfl) dL_highest_4) [0, 1, 2, 3, 4, 5, 6, 7, 8, 9, 10, 11, 12, 13, 14, 15, 16, 17, 18, 19, 20, 21, 22, 23, 24, 25, 26, 27, 28, 29, 30, 31, 32, 33, 34, 35, 36, 37] [38] rfl rfl (by decide) (by decide) (fun _ => wL ad cI cJ cR cv g q (cSetF u (upOf u)) h k o) [1, 2, 3, 4, 5, 6, 7, 8, 9, 10, 11, 12, 13, 14, 15, 16, 17, 18, 19, 20, 21, 22, 23, 24, 25, 26, 27, 28, 29, 30, 31, 32, 33, 34, 35, 36, 37, 38, 0] (by decide) (fun _ => rfl) rfl (fun E9 hE9 => ?_) (fun v_4 u_4 hv_4 => ?_)
  · obtain ⟨hx, rfl⟩ := hE9
    refine ek_catch (w' := []) X [] (⟨0, 9, 12, 21⟩ : ExceptionTableEntry) [] (hT.trans rfl) (fun z hz => absurd hz List.not_mem_nil) (by decide) (by decide) (List.mem_of_getElem? (i := 1) rfl) hZ.2.1.1.2.1 (fun q9 => ?_)
    have hnc : ¬ xLt c (cC u) = 0 := by rw [hx]; decide
    refine ek_asn (lv' := [(3, .ref q9), (0, .ref (ad 46)), (1, .int (nI c)), (2, .ref (ad 90))]) X (by decide) rfl dL_highest_12 ?_
    refine ek_ic (v := nI 1) X (by decide) dL_highest_13 ?_
    refine ek_widen (k' := 1) (n' := 6) (Nat.le_of_ble_eq_true rfl) (Nat.le_of_ble_eq_true rfl) ?_
    exact ek_reti X () ⟨_, rfl, (by first | exact congrArg nI hc_4.symm | exact congrArg nI hx.symm)⟩ (by first | rw [if_pos hc_4, if_pos hc_4] | rw [if_neg hnc, if_neg hnc]) dL_highest_14
  obtain ⟨hc_4, rfl⟩ := hv_4
  refine ek_i2l (v := (upOf u c).toInt64) X rfl dL_highest_7 ?_
  refine ek_last (w' := wL ad cI cJ cR cv g q (cSetF u (upOf u)) h k (eN o 0 ((upOf u c).toInt64))) X 38 1 rfl rfl (by omega) (by omega) rfl dL_highest_8 ?_
  refine ek_goto X 15 (by decide) dL_highest_9 ?_
  refine ek_ic (v := nI 0) X (by decide) dL_highest_15 ?_
  refine ek_widen (k' := 1) (n' := 6) (Nat.le_of_ble_eq_true rfl) (Nat.le_of_ble_eq_true rfl) ?_
  exact ek_reti X () ⟨_, rfl, (by first | exact congrArg nI hc_4.symm | exact congrArg nI hx.symm)⟩ (by first | rw [if_pos hc_4, if_pos hc_4] | rw [if_neg hnc, if_neg hnc]) dL_highest_16
