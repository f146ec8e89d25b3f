/-! ===== requireIndex, requireArgument; means ===== -/
abbrev rm_X4_requireIndex : Room := { frames := 6, cells := 1, slots := 6, locals := 82 }
set_option maxHeartbeats 4000000 in
set_option maxRecDepth 100000 in
theorem c_X4_requireIndex (l : Launch) (hl : l.stackTraces = false) (D : va_G) (cI cJ cR : ClassId) (v : Nat) (hv : v ≤ 1) : ek_MX (S := Unit) l yX4_requireIndex wsX4_requireIndex rm_X4_requireIndex D (tyW cI cJ cR) nestW [.int (nI v)] ([]) (fun r9 _ => r9 = none ∧ v = 1) (fun _ => []) (fun E9 => v = 0 ∧ E9 = eIX) := by
  refine ek_MX.of (cc := cX4_requireIndex) (maxL := 1) (ret := none) (by decide) rfl (Nat.le_of_ble_eq_true rfl) ?_
  intro p9 e9 s9 m9 args9 below9 meth9 c9 A X hZ hT
  refine ek_castL (lv' := [(0, .int (nI v))]) rfl ?_
  refine ek_iln X 0 rfl dX4_requireIndex_0 ?_
  refine ek_Zne X (by omega) 14 (by decide) dX4_requireIndex_1 (fun c_1 => ?_) (fun c_1 => ?_)
  · skip
    refine ek_ret ?_
    refine ek_widen (k' := 1) (n' := 6) (Nat.le_of_ble_eq_true rfl) (Nat.le_of_ble_eq_true rfl) ?_
    exact ek_retv X () ⟨rfl, by omega⟩ rfl dX4_requireIndex_14
  · skip
    exact ek_throwS (names := ["java/lang/RuntimeException", "java/lang/Exception"]) X hl hZ hT (by decide) (by decide) (List.mem_of_getElem? (i := 1) rfl) (List.mem_of_getElem? (i := 2) rfl) hZ.2.2.1.1 (vx_hat (fun w hw => X.1.2.2.2.2 _ (List.mem_cons_of_mem _ (List.mem_append_right _ hw))) (by decide +kernel) (vx_c (va_Nw.use rfl hZ.2.1.1.2.1) (vx_c (va_Nw.use rfl hZ.2.1.2.1) (vx_c (va_Nw.use rfl hZ.2.1.2.2.1) (vx_c (va_Nw.use rfl hZ.2.1.2.2.2) vx_n))))) (by decide +kernel) dX4_requireIndex_4 dX4_requireIndex_7 dX4_requireIndex_8 dX4_requireIndex_10 dX4_requireIndex_13 (Nat.le_of_ble_eq_true rfl) (Nat.le_of_ble_eq_true rfl) ⟨Nat.le_of_ble_eq_true rfl, Nat.le_of_ble_eq_true rfl⟩ ⟨by omega, rfl⟩ ⟨Nat.le_of_ble_eq_true rfl, Nat.le_of_ble_eq_true rfl⟩

abbrev rm_X4_requireArgument : Room := { frames := 6, cells := 1, slots := 6, locals := 82 }
set_option maxHeartbeats 4000000 in
set_option maxRecDepth 100000 in
theorem c_X4_requireArgument (l : Launch) (hl : l.stackTraces = false) (D : va_G) (cI cJ cR : ClassId) (v : Nat) (hv : v ≤ 1) : ek_MX (S := Unit) l yX4_requireArgument wsX4_requireArgument rm_X4_requireArgument D (tyW cI cJ cR) nestW [.int (nI v)] ([]) (fun r9 _ => r9 = none ∧ v = 1) (fun _ => []) (fun E9 => v = 0 ∧ E9 = eIA) := by
  refine ek_MX.of (cc := cX4_requireArgument) (maxL := 1) (ret := none) (by decide) rfl (Nat.le_of_ble_eq_true rfl) ?_
  intro p9 e9 s9 m9 args9 below9 meth9 c9 A X hZ hT
  refine ek_castL (lv' := [(0, .int (nI v))]) rfl ?_
  refine ek_iln X 0 rfl dX4_requireArgument_0 ?_
  refine ek_Zne X (by omega) 14 (by decide) dX4_requireArgument_1 (fun c_1 => ?_) (fun c_1 => ?_)
  · skip
    refine ek_ret ?_
    refine ek_widen (k' := 1) (n' := 6) (Nat.le_of_ble_eq_true rfl) (Nat.le_of_ble_eq_true rfl) ?_
    exact ek_retv X () ⟨rfl, by omega⟩ rfl dX4_requireArgument_14
  · skip
    exact ek_throwS (names := ["java/lang/RuntimeException", "java/lang/Exception"]) X hl hZ hT (by decide) (by decide) (List.mem_of_getElem? (i := 1) rfl) (List.mem_of_getElem? (i := 2) rfl) hZ.2.2.1.2.1 (vx_hat (fun w hw => X.1.2.2.2.2 _ (List.mem_cons_of_mem _ (List.mem_append_right _ hw))) (by decide +kernel) (vx_c (va_Nw.use rfl hZ.2.1.1.1) (vx_c (va_Nw.use rfl hZ.2.1.2.1) (vx_c (va_Nw.use rfl hZ.2.1.2.2.1) (vx_c (va_Nw.use rfl hZ.2.1.2.2.2) vx_n))))) (by decide +kernel) dX4_requireArgument_4 dX4_requireArgument_7 dX4_requireArgument_8 dX4_requireArgument_10 dX4_requireArgument_13 (Nat.le_of_ble_eq_true rfl) (Nat.le_of_ble_eq_true rfl) ⟨Nat.le_of_ble_eq_true rfl, Nat.le_of_ble_eq_true rfl⟩ ⟨by omega, rfl⟩ ⟨Nat.le_of_ble_eq_true rfl, Nat.le_of_ble_eq_true rfl⟩

abbrev rm_X4_requireWordAndBeat : Room := { frames := 7, cells := 2, slots := 12, locals := 102 }
set_option maxHeartbeats 4000000 in
set_option maxRecDepth 100000 in
theorem c_X4_requireWordAndBeat (l : Launch) (hl : l.stackTraces = false) (D : va_G) (cI cJ cR : ClassId) (w b : Nat) (hw : w < 4294967296) (hb : b < 4294967296) : ek_MX (S := Unit) l yX4_requireWordAndBeat wsX4_requireWordAndBeat rm_X4_requireWordAndBeat D (tyW cI cJ cR) nestW [.int (nI w), .int (nI b)] ([]) (fun r9 _ => r9 = none ∧ wbOk w b) (fun _ => []) (fun E9 => ¬ wbOk w b ∧ E9 = eIA) := by
  refine ek_MX.of (cc := cX4_requireWordAndBeat) (maxL := 2) (ret := none) (by decide) rfl (Nat.le_of_ble_eq_true rfl) ?_
  intro p9 e9 s9 m9 args9 below9 meth9 c9 A X hZ hT
  refine ek_castL (lv' := [(0, .int (nI w)), (1, .int (nI b))]) rfl ?_
  refine ek_iln X 0 rfl dX4_requireWordAndBeat_0 ?_
  refine ek_doRi (ek_runS (As := [.int (nI w)]) (rest := []) X (c_X4_isWord l D cI cJ cR w (by omega)) gX4_requireWordAndBeat_X4_isWord rfl hd_X4_isWord ⟨Nat.le_of_ble_eq_true rfl, Nat.le_of_ble_eq_true rfl⟩ ⟨Nat.le_of_ble_eq_true rfl, Nat.le_of_ble_eq_true rfl⟩ [] rfl (by decide) (Nat.le_of_ble_eq_true rfl) dX4_requireWordAndBeat_1) (fun v_1 hv_1 => ?_)
  subst hv_1
  by_cases c_1 : wdOk w
  · refine ek_top (v' := nI 1) (congrArg nI (if_pos c_1)) ?_
    refine ek_doXv X (ek_runSX (As := [.int (nI 1)]) (rest := []) X hZ (c_X4_requireArgument l hl D cI cJ cR 1 (by omega)) gX4_requireWordAndBeat_X4_requireArgument rfl hd_X4_requireArgument ⟨Nat.le_of_ble_eq_true rfl, Nat.le_of_ble_eq_true rfl⟩ ⟨Nat.le_of_ble_eq_true rfl, Nat.le_of_ble_eq_true rfl⟩ [] rfl (by decide) (Nat.le_of_ble_eq_true rfl) dX4_requireWordAndBeat_4) [] rfl (by decide) (fun E hE => absurd hE.1 (by decide)) (fun _ => ?_)
    refine ek_iln X 1 rfl dX4_requireWordAndBeat_7 ?_
    refine ek_ic (v := nI 1) X (by decide) dX4_requireWordAndBeat_8 ?_
    refine ek_bp (v := nI 20) X (by decide) dX4_requireWordAndBeat_9 ?_
    refine ek_doRi (ek_runS (As := [.int (nI b), .int (nI 1), .int (nI 20)]) (rest := []) X (c_X4_isWithinN l D cI cJ cR b 1 20 (by omega) (by omega) (by omega)) gX4_requireWordAndBeat_X4_isWithin rfl hd_X4_isWithin ⟨Nat.le_of_ble_eq_true rfl, Nat.le_of_ble_eq_true rfl⟩ ⟨Nat.le_of_ble_eq_true rfl, Nat.le_of_ble_eq_true rfl⟩ [] rfl (by decide) (Nat.le_of_ble_eq_true rfl) dX4_requireWordAndBeat_11) (fun v_11 hv_11 => ?_)
    subst hv_11
    by_cases c_11 : 1 ≤ b ∧ b ≤ 20
    · refine ek_top (v' := nI 1) (congrArg nI (if_pos c_11)) ?_
      refine ek_doXv X (ek_runSX (As := [.int (nI 1)]) (rest := []) X hZ (c_X4_requireArgument l hl D cI cJ cR 1 (by omega)) gX4_requireWordAndBeat_X4_requireArgument rfl hd_X4_requireArgument ⟨Nat.le_of_ble_eq_true rfl, Nat.le_of_ble_eq_true rfl⟩ ⟨Nat.le_of_ble_eq_true rfl, Nat.le_of_ble_eq_true rfl⟩ [] rfl (by decide) (Nat.le_of_ble_eq_true rfl) dX4_requireWordAndBeat_14) [] rfl (by decide) (fun E hE => absurd hE.1 (by decide)) (fun _ => ?_)
      refine ek_ret ?_
      refine ek_widen (k' := 2) (n' := 12) (Nat.le_of_ble_eq_true rfl) (Nat.le_of_ble_eq_true rfl) ?_
      exact ek_retv X () ⟨rfl, c_1, c_11⟩ rfl dX4_requireWordAndBeat_17
    · refine ek_top (v' := nI 0) (congrArg nI (if_neg c_11)) ?_
      exact ek_doXv X (ek_runSX (As := [.int (nI 0)]) (rest := []) X hZ (c_X4_requireArgument l hl D cI cJ cR 0 (by omega)) gX4_requireWordAndBeat_X4_requireArgument rfl hd_X4_requireArgument ⟨Nat.le_of_ble_eq_true rfl, Nat.le_of_ble_eq_true rfl⟩ ⟨Nat.le_of_ble_eq_true rfl, Nat.le_of_ble_eq_true rfl⟩ [] rfl (by decide) (Nat.le_of_ble_eq_true rfl) dX4_requireWordAndBeat_14) [] rfl (by decide) (fun E hE => ek_xout X hT ⟨fun h => c_11 h.2, hE.2⟩ ⟨Nat.le_of_ble_eq_true rfl, Nat.le_of_ble_eq_true rfl⟩) (fun hv => absurd hv (by decide))
  · refine ek_top (v' := nI 0) (congrArg nI (if_neg c_1)) ?_
    exact ek_doXv X (ek_runSX (As := [.int (nI 0)]) (rest := []) X hZ (c_X4_requireArgument l hl D cI cJ cR 0 (by omega)) gX4_requireWordAndBeat_X4_requireArgument rfl hd_X4_requireArgument ⟨Nat.le_of_ble_eq_true rfl, Nat.le_of_ble_eq_true rfl⟩ ⟨Nat.le_of_ble_eq_true rfl, Nat.le_of_ble_eq_true rfl⟩ [] rfl (by decide) (Nat.le_of_ble_eq_true rfl) dX4_requireWordAndBeat_4) [] rfl (by decide) (fun E hE => ek_xout X hT ⟨fun h => c_1 h.1, hE.2⟩ ⟨Nat.le_of_ble_eq_true rfl, Nat.le_of_ble_eq_true rfl⟩) (fun hv => absurd hv (by decide))

abbrev rm_X0_hasChamberB : Room := { frames := 2, cells := 0, slots := 0, locals := 34 }
set_option maxHeartbeats 4000000 in
set_option maxRecDepth 100000 in
theorem c_X0_hasChamberB (l : Launch) (D : va_G) (cI cJ cR : ClassId) (ad : Nat → Nat) (u : CaveT) (hB : cOk u) (x : Nat) (hx : x < 4294967296) : ek_R l yX0_hasChamber wsX0_hasChamber rm_X0_hasChamberB D (tyW cI cJ cR) nestW [.ref (ad 0), .int (nI x)] (wC ad cI cR u) (fun r9 => ∃ v : Int32, r9 = some (.int v) ∧ v = nI (if x < cC u then 1 else 0)) := by
  refine ek_R.of (cc := cX0_hasChamber) (maxL := 2) (ret := (some .boolean)) (by decide) rfl (Nat.le_of_ble_eq_true rfl) ?_
  intro p9 e9 s9 m9 args9 below9 meth9 c9 X
  obtain ⟨⟨hC1, hC2⟩, hPs, hWt, bWal, bHgt, bBat, bSyl, bDel, bDrs, bFrm, bTo, bLen, bNar, bPb⟩ := id hB
  refine ek_castL (lv' := [(0, .ref (ad 0)), (1, .int (nI x))]) rfl ?_
  refine ek_iln X 1 rfl dX0_hasChamber_0 ?_
  refine ek_ic (v := nI 0) X (by decide) dX0_hasChamber_1 ?_
  refine ek_aln X 0 rfl dX0_hasChamber_2 ?_
  refine ek_get X hin_X0_hasChamber_X0 0 rfl rfl 0 (by decide) (List.mem_of_getElem? (i := 1) rfl) rfl dX0_hasChamber_3 ?_
  refine ek_ic (v := nI 1) X (by decide) dX0_hasChamber_6 ?_
  refine ek_sub X dX0_hasChamber_7 ?_
  refine ek_doRi (ek_runSN (As := [.int (nI x), .int (nI 0), .int ((nI (cC u)) - (nI 1))]) (rest := []) X (c_X4_isWithinB l D cI cJ cR x (cC u) (by omega) (by omega)) gn_X0_hasChamber_X4_isWithin rfl (List.mem_of_getElem? (i := 19) rfl) (List.mem_of_getElem? (i := 3) rfl) (List.mem_of_getElem? (i := 2) rfl) hd_X4_isWithin ⟨Nat.le_of_ble_eq_true rfl, Nat.le_of_ble_eq_true rfl⟩ ⟨Nat.le_of_ble_eq_true rfl, Nat.le_of_ble_eq_true rfl⟩ [] rfl (by decide) (Nat.le_of_ble_eq_true rfl) dX0_hasChamber_8) (fun v_8 hv_8 => ?_)
  subst hv_8
  by_cases c_8 : x < cC u
  · refine ek_top (v' := nI 1) (congrArg nI (if_pos c_8)) ?_
    exact ek_retzR X (by decide) ⟨_, rfl, (by first | exact (congrArg nI (if_pos (by assumption))).symm | exact (congrArg nI (if_neg (by assumption))).symm)⟩ dX0_hasChamber_11
  · refine ek_top (v' := nI 0) (congrArg nI (if_neg c_8)) ?_
    exact ek_retzR X (by decide) ⟨_, rfl, (by first | exact (congrArg nI (if_pos (by assumption))).symm | exact (congrArg nI (if_neg (by assumption))).symm)⟩ dX0_hasChamber_11

abbrev rm_X0_hasPassageB : Room := { frames := 2, cells := 0, slots := 0, locals := 34 }
set_option maxHeartbeats 4000000 in
set_option maxRecDepth 100000 in
theorem c_X0_hasPassageB (l : Launch) (D : va_G) (cI cJ cR : ClassId) (ad : Nat → Nat) (u : CaveT) (hB : cOk u) (x : Nat) (hx : x < 4294967296) : ek_R l yX0_hasPassage wsX0_hasPassage rm_X0_hasPassageB D (tyW cI cJ cR) nestW [.ref (ad 0), .int (nI x)] (wC ad cI cR u) (fun r9 => ∃ v : Int32, r9 = some (.int v) ∧ v = nI (if x < cP u then 1 else 0)) := by
  refine ek_R.of (cc := cX0_hasPassage) (maxL := 2) (ret := (some .boolean)) (by decide) rfl (Nat.le_of_ble_eq_true rfl) ?_
  intro p9 e9 s9 m9 args9 below9 meth9 c9 X
  obtain ⟨⟨hC1, hC2⟩, hPs, hWt, bWal, bHgt, bBat, bSyl, bDel, bDrs, bFrm, bTo, bLen, bNar, bPb⟩ := id hB
  refine ek_castL (lv' := [(0, .ref (ad 0)), (1, .int (nI x))]) rfl ?_
  refine ek_iln X 1 rfl dX0_hasPassage_0 ?_
  refine ek_ic (v := nI 0) X (by decide) dX0_hasPassage_1 ?_
  refine ek_aln X 0 rfl dX0_hasPassage_2 ?_
  refine ek_get X hin_X0_hasPassage_X0 0 rfl rfl 8 (by decide) (List.mem_of_getElem? (i := 1) rfl) rfl dX0_hasPassage_3 ?_
  refine ek_ic (v := nI 1) X (by decide) dX0_hasPassage_6 ?_
  refine ek_sub X dX0_hasPassage_7 ?_
  refine ek_doRi (ek_runSN (As := [.int (nI x), .int (nI 0), .int ((nI (cP u)) - (nI 1))]) (rest := []) X (c_X4_isWithinB l D cI cJ cR x (cP u) (by omega) (by omega)) gn_X0_hasPassage_X4_isWithin rfl (List.mem_of_getElem? (i := 19) rfl) (List.mem_of_getElem? (i := 3) rfl) (List.mem_of_getElem? (i := 2) rfl) hd_X4_isWithin ⟨Nat.le_of_ble_eq_true rfl, Nat.le_of_ble_eq_true rfl⟩ ⟨Nat.le_of_ble_eq_true rfl, Nat.le_of_ble_eq_true rfl⟩ [] rfl (by decide) (Nat.le_of_ble_eq_true rfl) dX0_hasPassage_8) (fun v_8 hv_8 => ?_)
  subst hv_8
  by_cases c_8 : x < cP u
  · refine ek_top (v' := nI 1) (congrArg nI (if_pos c_8)) ?_
    exact ek_retzR X (by decide) ⟨_, rfl, (by first | exact (congrArg nI (if_pos (by assumption))).symm | exact (congrArg nI (if_neg (by assumption))).symm)⟩ dX0_hasPassage_11
  · refine ek_top (v' := nI 0) (congrArg nI (if_neg c_8)) ?_
    exact ek_retzR X (by decide) ⟨_, rfl, (by first | exact (congrArg nI (if_pos (by assumption))).symm | exact (congrArg nI (if_neg (by assumption))).symm)⟩ dX0_hasPassage_11

def hSum (h : EchT) : Nat → Nat
  | 0 => 0
  | i + 1 => hSum h i + hFa h (i * 5 + 3)
def hMean (h : EchT) : UInt64 := if hK h = 0 then FP.dconst0 else FP.ddiv (FP.i2d (nI (hSum h (hK h)))) (FP.i2d (nI (hK h)))

theorem hin_X2_meanStrength_X2 : ∀ x ∈ wsX20, x ∈ wsX2_meanStrength := fun x h => List.mem_cons_of_mem _ (List.mem_append_right _ h)
abbrev rm_X2_meanStrength : Room := { frames := 2, cells := 0, slots := 0, locals := 34 }
set_option maxHeartbeats 4000000 in
set_option maxRecDepth 100000 in
theorem c_X2_meanStrength (l : Launch) (D : va_G) (cI cJ cR : ClassId) (ad : Nat → Nat) (e : Nat) (h : EchT) (hH : hOk h) : ek_R l yX2_meanStrength wsX2_meanStrength rm_X2_meanStrength D (tyW cI cJ cR) nestW [.ref (ad e)] (wE ad e cI h) (fun r9 => ∃ v : UInt64, r9 = some (.double v) ∧ v = hMean h) := by
  refine ek_R.of (cc := cX2_meanStrength) (maxL := 3) (ret := (some .double)) (by decide) rfl (Nat.le_of_ble_eq_true rfl) ?_
  intro p9 e9 s9 m9 args9 below9 meth9 c9 X
  have hk60 := hH.2.2.1
  refine ek_castL (lv' := [(0, .ref (ad e))]) rfl ?_
  refine ek_aln X 0 rfl dX2_meanStrength_0 ?_
  refine ek_get X hin_X2_meanStrength_X2 0 rfl rfl 4 (by decide) (List.mem_of_getElem? (i := 1) rfl) rfl dX2_meanStrength_1 ?_
  refine ek_Zne X (by omega) 9 (by decide) dX2_meanStrength_4 (fun c_4 => ?_) (fun c_4 => ?_)
  · skip
    refine ek_ic (v := nI 0) X (by decide) dX2_meanStrength_9 ?_
    refine ek_isn (lv' := [(1, .int (nI 0)), (0, .ref (ad e))]) X (by decide) rfl dX2_meanStrength_10 ?_
    refine ek_ic (v := nI 0) X (by decide) dX2_meanStrength_11 ?_
    refine ek_isn (lv' := [(2, .int (nI 0)), (1, .int (nI 0)), (0, .ref (ad e))]) X (by decide) rfl dX2_meanStrength_12 ?_
    refine ek_loopAt (σ := Nat × Nat) (fun zz => (fun (sum : Nat) (i : Nat) => i ≤ hK h ∧ sum = hSum h i) zz.1 zz.2) (fun zz => (fun (sum : Nat) (i : Nat) => hK h - i) zz.1 zz.2) (fun zz => (fun (sum : Nat) (i : Nat) => wE ad e cI h) zz.1 zz.2) (fun zz => (fun (sum : Nat) (i : Nat) => [(0, .ref (ad e)), (1, .int (nI sum)), (2, .int (nI i))]) zz.1 zz.2) ?_ (0, 0) ⟨Nat.zero_le _, rfl⟩ rfl [2, 1, 0] rfl
    intro zz ha_13 ih_13
    obtain ⟨sum, i⟩ := zz
    replace ha_13 : i ≤ hK h ∧ sum = hSum h i := ha_13
    refine ek_cast (w' := wE ad e cI h) rfl ?_
    refine ek_castL (lv' := [(0, .ref (ad e)), (1, .int (nI sum)), (2, .int (nI i))]) rfl ?_
    refine ek_iln X 2 rfl dX2_meanStrength_13 ?_
    refine ek_aln X 0 rfl dX2_meanStrength_14 ?_
    refine ek_get X hin_X2_meanStrength_X2 0 rfl rfl 4 (by decide) (List.mem_of_getElem? (i := 1) rfl) rfl dX2_meanStrength_15 ?_
    refine ek_Nge X (by omega) (by omega) 36 (by decide) dX2_meanStrength_18 (fun c_18 => ?_) (fun c_18 => ?_)
    · skip
      refine ek_iln X 1 rfl dX2_meanStrength_36 ?_
      refine ek_i2d X dX2_meanStrength_37 ?_
      refine ek_aln X 0 rfl dX2_meanStrength_38 ?_
      refine ek_get X hin_X2_meanStrength_X2 0 rfl rfl 4 (by decide) (List.mem_of_getElem? (i := 1) rfl) rfl dX2_meanStrength_39 ?_
      refine ek_i2d X dX2_meanStrength_42 ?_
      refine ek_ddiv X (mean_num _ _ (nI_n0 (by omega) (by omega))) dX2_meanStrength_43 ?_
      exact ek_retdR X ⟨_, rfl, (by obtain ⟨h1, h2⟩ := ha_13; unfold hMean; rw [if_neg (by omega), h2, show i = hK h by omega])⟩ dX2_meanStrength_44
    · skip
      refine ek_iln X 1 rfl dX2_meanStrength_21 ?_
      refine ek_aln X 0 rfl dX2_meanStrength_22 ?_
      refine ek_iln X 2 rfl dX2_meanStrength_23 ?_
      refine ek_ic (v := nI 3) X (by decide) dX2_meanStrength_24 ?_
      refine ek_doRi (ek_runV (As := [.int (nI i), .int (nI 3)]) (rest := [.int (nI sum)]) X (c_X2_heardFact l D cI cJ cR ad e h i 3 (by omega) (by omega)) gX2_meanStrength_X2_heardFact rfl hdV_X2_heardFact ⟨Nat.le_of_ble_eq_true rfl, Nat.le_of_ble_eq_true rfl⟩ ⟨Nat.le_of_ble_eq_true rfl, Nat.le_of_ble_eq_true rfl⟩ [0, 1, 2] rfl (by decide) 0 2 rfl rfl (Nat.le_of_ble_eq_true rfl) dX2_meanStrength_25) (fun v_25 hv_25 => ?_)
      subst hv_25
      refine ek_Nadd X dX2_meanStrength_28 ?_
      refine ek_isn (lv' := [(1, .int (nI (sum + (hFa h (i * 5 + 3))))), (0, .ref (ad e)), (2, .int (nI i))]) X (by decide) rfl dX2_meanStrength_29 ?_
      refine ek_Ninc (j := 2) (d := 1) (lv' := [(2, .int (nI (i + 1))), (1, .int (nI (sum + (hFa h (i * 5 + 3))))), (0, .ref (ad e))]) X rfl (by decide) rfl dX2_meanStrength_30 ?_
      refine ek_goto X 13 (by decide) dX2_meanStrength_33 ?_
      refine ek_re [2, 1, 0] rfl ?_
      exact ih_13 (sum + (hFa h (i * 5 + 3)), i + 1) (show (i + 1) ≤ hK h ∧ (sum + (hFa h (i * 5 + 3))) = hSum h (i + 1) from (by obtain ⟨h1, h2⟩ := ha_13; refine ⟨by omega, ?_⟩; rw [h2]; rfl)) (by show hK h - (i + 1) < hK h - i; omega)
  · skip
    refine ek_dc0 X dX2_meanStrength_7 ?_
    exact ek_retdR X ⟨_, rfl, (show FP.dconst0 = hMean h from (if_pos (by omega)).symm)⟩ dX2_meanStrength_8

theorem hin_X4_mean_X4 : ∀ x ∈ wsX40, x ∈ wsX4_mean := fun x h => List.mem_cons_of_mem _ (List.mem_append_left _ (List.mem_append_right _ h))
abbrev rm_X4_mean : Room := { frames := 3, cells := 0, slots := 0, locals := 56 }
set_option maxHeartbeats 4000000 in
set_option maxRecDepth 100000 in
theorem c_X4_mean (l : Launch) (D : va_G) (cI cJ cR : ClassId) (ad : Nat → Nat) (cv : CavT) (g : SndT) (q : QueT) (u : CaveT) (h k : EchT) (hB : cOk u) (hH : hOk h) : ek_R l yX4_mean wsX4_mean rm_X4_mean D (tyW cI cJ cR) nestW [.ref (ad 46)] (wV ad cI cJ cR cv g q u h k) (fun r9 => ∃ v : UInt64, r9 = some (.double v) ∧ v = hMean h) := by
  refine ek_R.of (cc := cX4_mean) (maxL := 1) (ret := (some .double)) (by decide) rfl (Nat.le_of_ble_eq_true rfl) ?_
  intro p9 e9 s9 m9 args9 below9 meth9 c9 X
  obtain ⟨⟨hC1, hC2⟩, hPs, hWt, bWal, bHgt, bBat, bSyl, bDel, bDrs, bFrm, bTo, bLen, bNar, bPb⟩ := id hB
  refine ek_castL (lv' := [(0, .ref (ad 46))]) rfl ?_
  refine ek_aln X 0 rfl dX4_mean_0 ?_
  refine ek_get X hin_X4_mean_X4 0 rfl rfl 2 (by decide) (List.mem_of_getElem? (i := 1) rfl) rfl dX4_mean_1 ?_
  refine ek_doRd (ek_runV (As := []) (rest := []) X (c_X2_meanStrength l D cI cJ cR ad 40 h hH) gX4_mean_X2_meanStrength rfl hdV_X2_meanStrength ⟨Nat.le_of_ble_eq_true rfl, Nat.le_of_ble_eq_true rfl⟩ ⟨Nat.le_of_ble_eq_true rfl, Nat.le_of_ble_eq_true rfl⟩ [32, 33, 34] rfl (by decide) 0 2 rfl rfl (Nat.le_of_ble_eq_true rfl) dX4_mean_4) (fun v_4 hv_4 => ?_)
  subst hv_4
  exact ek_retdR X ⟨_, rfl, rfl⟩ dX4_mean_7
