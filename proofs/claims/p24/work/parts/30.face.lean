/-! ===== EchoCave: its world; isWord, countFact, digest ===== -/
def wV (ad : Nat → Nat) (cI cJ cR : ClassId) (cv : CavT) (g : SndT) (q : QueT) (u : CaveT) (h k : EchT) : va_W := [
  (ad 46, .inr (4, [.ref (ad 0), .ref (ad 32), .ref (ad 40), .ref (ad 43), .int (nI (vEar cv)), .int (nI (vSaid cv)), .int (nI (vWord cv))])),
  (ad 32, .inr (3, [.ref (ad 0), .ref (ad 30), .ref (ad 33), .ref (ad 34), .ref (ad 35), .int (nI (sR g)), .int (nI (sCl g))])),
  (ad 33, .inl (cI, 17, .inl (fun j => nI (sSy g j)))),
  (ad 34, .inl (cI, 17, .inl (fun j => nI (sPl g j)))),
  (ad 35, .inl (cJ, 17, .inr (.inl (fun j => lN (sU g j))))),
  (ad 30, .inr (1, [.ref (ad 31), .int (nI (qN q))])),
  (ad 31, .inl (cI, 629, .inl (fun j => nI (qH q j)))),
  (ad 0, .inr (0, [.int (nI (cC u)), .ref (ad 1), .ref (ad 2), .ref (ad 3), .ref (ad 4), .ref (ad 5), .ref (ad 6), .ref (ad 7), .int (nI (cP u)), .ref (ad 8), .ref (ad 9), .ref (ad 10), .ref (ad 11), .int (nI (cW u)), .ref (ad 12)])),
  (ad 1, .inl (cI, 12, .inl (fun j => nI (cWal u j)))),
  (ad 2, .inl (cI, 12, .inl (fun j => nI (cHgt u j)))),
  (ad 3, .inl (cI, 12, .inl (fun j => nI (cBat u j)))),
  (ad 4, .inl (cI, 12, .inl (fun j => nI (cSyl u j)))),
  (ad 5, .inl (cI, 12, .inl (fun j => nI (cDel u j)))),
  (ad 6, .inl (cI, 12, .inl (fun j => nI (cDrs u j)))),
  (ad 7, .inl (cR, 12, .inr (.inr (.inr (.inr (fun i => if i < 12 then some (ad (13 + i)) else none)))))),
  (ad 8, .inl (cI, 18, .inl (fun j => nI (cFrm u j)))),
  (ad 9, .inl (cI, 18, .inl (fun j => nI (cTo u j)))),
  (ad 10, .inl (cI, 18, .inl (fun j => nI (cLen u j)))),
  (ad 11, .inl (cI, 18, .inl (fun j => nI (cNar u j)))),
  (ad 12, .inl (cI, 12, .inl (cFnd u))),
  (ad 13, .inl (cI, 18, .inl (fun j => nI (cPb u 0 j)))),
  (ad 14, .inl (cI, 18, .inl (fun j => nI (cPb u 1 j)))),
  (ad 15, .inl (cI, 18, .inl (fun j => nI (cPb u 2 j)))),
  (ad 16, .inl (cI, 18, .inl (fun j => nI (cPb u 3 j)))),
  (ad 17, .inl (cI, 18, .inl (fun j => nI (cPb u 4 j)))),
  (ad 18, .inl (cI, 18, .inl (fun j => nI (cPb u 5 j)))),
  (ad 19, .inl (cI, 18, .inl (fun j => nI (cPb u 6 j)))),
  (ad 20, .inl (cI, 18, .inl (fun j => nI (cPb u 7 j)))),
  (ad 21, .inl (cI, 18, .inl (fun j => nI (cPb u 8 j)))),
  (ad 22, .inl (cI, 18, .inl (fun j => nI (cPb u 9 j)))),
  (ad 23, .inl (cI, 18, .inl (fun j => nI (cPb u 10 j)))),
  (ad 24, .inl (cI, 18, .inl (fun j => nI (cPb u 11 j)))),
  (ad 40, .inr (2, [.ref (ad (40 + 1)), .ref (ad (40 + 2)), .int (nI (hPl h)), .int (nI (hEar h)), .int (nI (hK h)), .int (nI (hCt h)), .int (nI (hOr h)), .int (hLa h)])),
  (ad (40 + 1), .inl (cI, 300, .inl (fun j => nI (hFa h j)))),
  (ad (40 + 2), .inl (cI, 6, .inl (hFi h))),
  (ad 43, .inr (2, [.ref (ad (43 + 1)), .ref (ad (43 + 2)), .int (nI (hPl k)), .int (nI (hEar k)), .int (nI (hK k)), .int (nI (hCt k)), .int (nI (hOr k)), .int (hLa k)])),
  (ad (43 + 1), .inl (cI, 300, .inl (fun j => nI (hFa k j)))),
  (ad (43 + 2), .inl (cI, 6, .inl (hFi k)))]
theorem c_X4_isWithinN (l : Launch) (D : va_G) (cI cJ cR : ClassId) (x lo hi : Nat) (hx : x < 4294967296) (hl : lo < 2147483648) (hh : hi < 2147483648) : ek_R l yX4_isWithin wsX4_isWithin rm_X4_isWithin D (tyW cI cJ cR) nestW [.int (nI x), .int (nI lo), .int (nI hi)] ([]) (fun r9 => ∃ v : Int32, r9 = some (.int v) ∧ v = nI (if lo ≤ x ∧ x ≤ hi then 1 else 0)) := by
  have h := c_X4_isWithin l D cI cJ cR (nI x) (nI lo) (nI hi)
  rw [if_eqN (in_iff hx hl hh)] at h
  exact h
theorem c_X4_isWithinB (l : Launch) (D : va_G) (cI cJ cR : ClassId) (x n : Nat) (hx : x < 4294967296) (hn : n < 2147483648) : ek_R l yX4_isWithin wsX4_isWithin rm_X4_isWithin D (tyW cI cJ cR) nestW [.int (nI x), .int (nI 0), .int (nI n - nI 1)] ([]) (fun r9 => ∃ v : Int32, r9 = some (.int v) ∧ v = nI (if x < n then 1 else 0)) := by
  have h := c_X4_isWithin l D cI cJ cR (nI x) (nI 0) (nI n - nI 1)
  rw [if_eqN (in_below hx hn)] at h
  exact h
theorem wdP_z {k s left : Nat} (h : wdP k s left) (hl : 0 < left) (h0 : left % 10 = 0) : ¬ wdOk k := by
  obtain ⟨h1, h2, i, h3, h4, h5⟩ := h
  intro hw
  obtain ⟨a, b, c⟩ := h5 hw.1.2
  have hi : i < 6 := by
    rcases Nat.lt_or_ge i 6 with e | e
    · exact e
    · rw [show 6 - i = 0 by omega] at c; omega
  have hd : 1 ≤ dgs (6 - i) left := by
    rw [show 6 - i = (6 - (i + 1)) + 1 by omega, show dgs ((6 - (i + 1)) + 1) left = dgs (6 - (i + 1)) (left / 10) + 1 from if_pos hl]
    omega
  have := hw.2 i (by omega)
  rw [← h3] at this
  omega
def vCtd (v : CavT) (u : CaveT) (h : EchT) (w : Nat) : Nat := if w = 0 then cC u else if w = 1 then cP u else if w = 2 then cNOp u else if w = 3 then cNCl u else if w = 4 then cW u else if w = 5 then vEar v else if w = 6 then vSaid v else if w = 7 then vWord v else if w = 8 then hK h else hCt h

abbrev rm_X4_isWord : Room := { frames := 2, cells := 0, slots := 0, locals := 34 }
set_option maxHeartbeats 4000000 in
set_option maxRecDepth 100000 in
theorem c_X4_isWord (l : Launch) (D : va_G) (cI cJ cR : ClassId) (k : Nat) (hk : k < 4294967296) : ek_R l yX4_isWord wsX4_isWord rm_X4_isWord D (tyW cI cJ cR) nestW [.int (nI k)] ([]) (fun r9 => ∃ v : Int32, r9 = some (.int v) ∧ v = nI (if wdOk k then 1 else 0)) := by
  refine ek_R.of (cc := cX4_isWord) (maxL := 2) (ret := (some .boolean)) (by decide) rfl (Nat.le_of_ble_eq_true rfl) ?_
  intro p9 e9 s9 m9 args9 below9 meth9 c9 X
  refine ek_castL (lv' := [(0, .int (nI k))]) rfl ?_
  refine ek_iln X 0 rfl dX4_isWord_0 ?_
  refine ek_ic (v := nI 1) X (by decide) dX4_isWord_1 ?_
  refine ek_ldc (v := 999999) X (List.mem_of_getElem? (i := 1) rfl) dX4_isWord_2 ?_
  refine ek_top (v' := nI 999999) (by decide) ?_
  refine ek_doRi (ek_runS (As := [.int (nI k), .int (nI 1), .int (nI 999999)]) (rest := []) X (c_X4_isWithinN l D cI cJ cR k 1 999999 (by omega) (by omega) (by omega)) gX4_isWord_X4_isWithin rfl hd_X4_isWithin ⟨Nat.le_of_ble_eq_true rfl, Nat.le_of_ble_eq_true rfl⟩ ⟨Nat.le_of_ble_eq_true rfl, Nat.le_of_ble_eq_true rfl⟩ [] rfl (by decide) (Nat.le_of_ble_eq_true rfl) dX4_isWord_4) (fun v_4 hv_4 => ?_)
  subst hv_4
  by_cases c_4 : 1 ≤ k ∧ k ≤ 999999
  · refine ek_top (v' := nI 1) (congrArg nI (if_pos c_4)) ?_
    refine ek_Zne X (by omega) 12 (by decide) dX4_isWord_7 (fun _ => ?_) (fun h => absurd h (by omega))
    refine ek_iln X 0 rfl dX4_isWord_12 ?_
    refine ek_isn (lv' := [(1, .int (nI k)), (0, .int (nI k))]) X (by decide) rfl dX4_isWord_13 ?_
    refine ek_loopAt (σ := Nat) (fun zz => (fun (left : Nat) => wdP k 1 left) zz) (fun zz => (fun (left : Nat) => left) zz) (fun zz => (fun (left : Nat) => []) zz) (fun zz => (fun (left : Nat) => [(0, .int (nI k)), (1, .int (nI left))]) zz) ?_ (k) (wdP_0 hk (if_pos (by assumption)).symm) rfl [1, 0] rfl
    intro zz ha_14 ih_14
    obtain ⟨left, rfl⟩ : ∃ z, z = zz := ⟨_, rfl⟩
    replace ha_14 : wdP k 1 left := ha_14
    refine ek_cast (w' := []) rfl ?_
    refine ek_castL (lv' := [(0, .int (nI k)), (1, .int (nI left))]) rfl ?_
    have hwd := ha_14.1
    refine ek_iln X 1 rfl dX4_isWord_14 ?_
    refine ek_if_le X 35 (by decide) dX4_isWord_15 (fun c_15 => ?_) (fun c_15 => ?_)
    · skip
      refine ek_ic (v := nI 1) X (by decide) dX4_isWord_35 ?_
      exact ek_retzR X (by decide) ⟨_, rfl, (congrArg nI (wdP_e ha_14 ((nI_le0 hwd).mp c_15)))⟩ dX4_isWord_36
    · skip
      have hl := (not_congr (nI_le0 hwd)).mp c_15
      refine ek_iln X 1 rfl dX4_isWord_18 ?_
      refine ek_bp (v := nI 10) X (by decide) dX4_isWord_19 ?_
      refine ek_Nrem X (by omega) (by omega) (by omega) dX4_isWord_21 ?_
      refine ek_Zne X (by omega) 27 (by decide) dX4_isWord_22 (fun c_22 => ?_) (fun c_22 => ?_)
      · skip
        refine ek_iln X 1 rfl dX4_isWord_27 ?_
        refine ek_bp (v := nI 10) X (by decide) dX4_isWord_28 ?_
        refine ek_Ndiv X (by omega) (by omega) (by omega) dX4_isWord_30 ?_
        refine ek_isn (lv' := [(1, .int (nI (left / 10))), (0, .int (nI k))]) X (by decide) rfl dX4_isWord_31 ?_
        refine ek_goto X 14 (by decide) dX4_isWord_32 ?_
        refine ek_re [1, 0] rfl ?_
        exact ih_14 (left / 10) (show wdP k 1 (left / 10) from (by have hl := (not_congr (nI_le0 hwd)).mp c_15; exact wdP_s ha_14 (by omega) (Nat.le_refl 1) (by omega))) (Nat.div_lt_self (by have hl := (not_congr (nI_le0 hwd)).mp c_15; omega) (by omega))
      · skip
        refine ek_ic (v := nI 0) X (by decide) dX4_isWord_25 ?_
        exact ek_retzR X (by decide) ⟨_, rfl, (congrArg nI (if_neg (wdP_z ha_14 (by omega) (by omega)))).symm⟩ dX4_isWord_26
  · refine ek_top (v' := nI 0) (congrArg nI (if_neg c_4)) ?_
    refine ek_Zne X (by omega) 12 (by decide) dX4_isWord_7 (fun h => absurd h (by omega)) (fun _ => ?_)
    refine ek_ic (v := nI 0) X (by decide) dX4_isWord_10 ?_
    exact ek_retzR X (by decide) ⟨_, rfl, (congrArg nI (if_neg (show ¬ wdOk k from fun h => by have g1 := h.1; omega))).symm⟩ dX4_isWord_11

theorem hin_X4_countFact_X0 : ∀ x ∈ wsX00, x ∈ wsX4_countFact := fun x h => List.mem_cons_of_mem _ (List.mem_append_left _ (List.mem_append_right _ h))
theorem hin_X4_countFact_X2 : ∀ x ∈ wsX20, x ∈ wsX4_countFact := fun x h => List.mem_cons_of_mem _ (List.mem_append_right _ h)
theorem hin_X4_countFact_X4 : ∀ x ∈ wsX40, x ∈ wsX4_countFact := fun x h => List.mem_cons_of_mem _ (List.mem_append_left _ (List.mem_append_left _ (List.mem_append_right _ h)))
abbrev rm_X4_countFact : Room := { frames := 3, cells := 0, slots := 0, locals := 55 }
set_option maxHeartbeats 4000000 in
set_option maxRecDepth 100000 in
theorem c_X4_countFact (l : Launch) (D : va_G) (cI cJ cR : ClassId) (ad : Nat → Nat) (cv : CavT) (g : SndT) (q : QueT) (u : CaveT) (h k : EchT) (hB : cOk u) (w9 : Nat) (hw : w9 ≤ 9) : ek_R l yX4_countFact wsX4_countFact rm_X4_countFact D (tyW cI cJ cR) nestW [.ref (ad 46), .int (nI w9)] (wV ad cI cJ cR cv g q u h k) (fun r9 => ∃ v : Int32, r9 = some (.int v) ∧ v = nI (vCtd cv u h w9)) := by
  refine ek_R.of (cc := cX4_countFact) (maxL := 2) (ret := (some .int)) (by decide) rfl (Nat.le_of_ble_eq_true rfl) ?_
  intro p9 e9 s9 m9 args9 below9 meth9 c9 X
  obtain ⟨⟨hC1, hC2⟩, hPs, hWt, bWal, bHgt, bBat, bSyl, bDel, bDrs, bFrm, bTo, bLen, bNar, bPb⟩ := id hB
  refine ek_castL (lv' := [(0, .ref (ad 46)), (1, .int (nI w9))]) rfl ?_
  refine ek_iln X 1 rfl dX4_countFact_0 ?_
  rcases (show w9 = 0 ∨ w9 = 1 ∨ w9 = 2 ∨ w9 = 3 ∨ w9 = 4 ∨ w9 = 5 ∨ w9 = 6 ∨ w9 = 7 ∨ w9 = 8 ∨ 8 < w9 by omega) with rfl | rfl | rfl | rfl | rfl | rfl | rfl | rfl | rfl | c_1
  · refine ek_tsN X 52 (by decide) (by decide) rfl (by decide) dX4_countFact_1 ?_
    refine ek_aln X 0 rfl dX4_countFact_52 ?_
    refine ek_get X hin_X4_countFact_X4 0 rfl rfl 0 (by decide) (List.mem_of_getElem? (i := 1) rfl) rfl dX4_countFact_53 ?_
    refine ek_getN X hin_X4_countFact_X0 7 rfl rfl 0 (by decide) (List.mem_of_getElem? (i := 0) rfl) rfl dX4_countFact_56 ?_
    exact ek_retiR X ⟨_, rfl, rfl⟩ dX4_countFact_59
  · refine ek_tsN X 60 (by decide) (by decide) rfl (by decide) dX4_countFact_1 ?_
    refine ek_aln X 0 rfl dX4_countFact_60 ?_
    refine ek_get X hin_X4_countFact_X4 0 rfl rfl 0 (by decide) (List.mem_of_getElem? (i := 1) rfl) rfl dX4_countFact_61 ?_
    refine ek_getN X hin_X4_countFact_X0 7 rfl rfl 8 (by decide) (List.mem_of_getElem? (i := 8) rfl) rfl dX4_countFact_64 ?_
    exact ek_retiR X ⟨_, rfl, rfl⟩ dX4_countFact_67
  · refine ek_tsN X 68 (by decide) (by decide) rfl (by decide) dX4_countFact_1 ?_
    refine ek_aln X 0 rfl dX4_countFact_68 ?_
    refine ek_get X hin_X4_countFact_X4 0 rfl rfl 0 (by decide) (List.mem_of_getElem? (i := 1) rfl) rfl dX4_countFact_69 ?_
    refine ek_doRi (ek_runV (As := []) (rest := []) X (c_X0_openPassages l D cI cJ cR ad u hB ) gX4_countFact_X0_openPassages rfl hdV_X0_openPassages ⟨Nat.le_of_ble_eq_true rfl, Nat.le_of_ble_eq_true rfl⟩ ⟨Nat.le_of_ble_eq_true rfl, Nat.le_of_ble_eq_true rfl⟩ [7, 8, 9, 10, 11, 12, 13, 14, 15, 16, 17, 18, 19, 20, 21, 22, 23, 24, 25, 26, 27, 28, 29, 30, 31] rfl (by decide) 0 0 rfl rfl (Nat.le_of_ble_eq_true rfl) dX4_countFact_72) (fun v_72 hv_72 => ?_)
    subst hv_72
    have hno_72 := eC_le (fun i => cOpen u i) (cP u)
    exact ek_retiR X ⟨_, rfl, rfl⟩ dX4_countFact_75
  · refine ek_tsN X 76 (by decide) (by decide) rfl (by decide) dX4_countFact_1 ?_
    refine ek_aln X 0 rfl dX4_countFact_76 ?_
    refine ek_get X hin_X4_countFact_X4 0 rfl rfl 0 (by decide) (List.mem_of_getElem? (i := 1) rfl) rfl dX4_countFact_77 ?_
    refine ek_doRi (ek_runV (As := []) (rest := []) X (c_X0_clappers l D cI cJ cR ad u hB ) gX4_countFact_X0_clappers rfl hdV_X0_clappers ⟨Nat.le_of_ble_eq_true rfl, Nat.le_of_ble_eq_true rfl⟩ ⟨Nat.le_of_ble_eq_true rfl, Nat.le_of_ble_eq_true rfl⟩ [7, 8, 9, 10, 11, 12, 13, 14, 15, 16, 17, 18, 19, 20, 21, 22, 23, 24, 25, 26, 27, 28, 29, 30, 31] rfl (by decide) 0 0 rfl rfl (Nat.le_of_ble_eq_true rfl) dX4_countFact_80) (fun v_80 hv_80 => ?_)
    subst hv_80
    have hno_80 := eC_le (fun c => cSyl u c ≠ 0) (cC u)
    exact ek_retiR X ⟨_, rfl, rfl⟩ dX4_countFact_83
  · refine ek_tsN X 84 (by decide) (by decide) rfl (by decide) dX4_countFact_1 ?_
    refine ek_aln X 0 rfl dX4_countFact_84 ?_
    refine ek_get X hin_X4_countFact_X4 0 rfl rfl 0 (by decide) (List.mem_of_getElem? (i := 1) rfl) rfl dX4_countFact_85 ?_
    refine ek_getN X hin_X4_countFact_X0 7 rfl rfl 13 (by decide) (List.mem_of_getElem? (i := 12) rfl) rfl dX4_countFact_88 ?_
    exact ek_retiR X ⟨_, rfl, rfl⟩ dX4_countFact_91
  · refine ek_tsN X 92 (by decide) (by decide) rfl (by decide) dX4_countFact_1 ?_
    refine ek_aln X 0 rfl dX4_countFact_92 ?_
    refine ek_get X hin_X4_countFact_X4 0 rfl rfl 4 (by decide) (List.mem_of_getElem? (i := 2) rfl) rfl dX4_countFact_93 ?_
    exact ek_retiR X ⟨_, rfl, rfl⟩ dX4_countFact_96
  · refine ek_tsN X 97 (by decide) (by decide) rfl (by decide) dX4_countFact_1 ?_
    refine ek_aln X 0 rfl dX4_countFact_97 ?_
    refine ek_get X hin_X4_countFact_X4 0 rfl rfl 5 (by decide) (List.mem_of_getElem? (i := 3) rfl) rfl dX4_countFact_98 ?_
    exact ek_retiR X ⟨_, rfl, rfl⟩ dX4_countFact_101
  · refine ek_tsN X 102 (by decide) (by decide) rfl (by decide) dX4_countFact_1 ?_
    refine ek_aln X 0 rfl dX4_countFact_102 ?_
    refine ek_get X hin_X4_countFact_X4 0 rfl rfl 6 (by decide) (List.mem_of_getElem? (i := 4) rfl) rfl dX4_countFact_103 ?_
    exact ek_retiR X ⟨_, rfl, rfl⟩ dX4_countFact_106
  · refine ek_tsN X 107 (by decide) (by decide) rfl (by decide) dX4_countFact_1 ?_
    refine ek_aln X 0 rfl dX4_countFact_107 ?_
    refine ek_get X hin_X4_countFact_X4 0 rfl rfl 2 (by decide) (List.mem_of_getElem? (i := 5) rfl) rfl dX4_countFact_108 ?_
    refine ek_getN X hin_X4_countFact_X2 32 rfl rfl 4 (by decide) (List.mem_of_getElem? (i := 16) rfl) rfl dX4_countFact_111 ?_
    exact ek_retiR X ⟨_, rfl, rfl⟩ dX4_countFact_114
  · refine ek_tsO X 115 (by omega) (by omega) (by decide) dX4_countFact_1 ?_
    refine ek_aln X 0 rfl dX4_countFact_115 ?_
    refine ek_get X hin_X4_countFact_X4 0 rfl rfl 2 (by decide) (List.mem_of_getElem? (i := 5) rfl) rfl dX4_countFact_116 ?_
    refine ek_getN X hin_X4_countFact_X2 32 rfl rfl 5 (by decide) (List.mem_of_getElem? (i := 17) rfl) rfl dX4_countFact_119 ?_
    exact ek_retiR X ⟨_, rfl, (by unfold vCtd; rw [if_neg (by omega), if_neg (by omega), if_neg (by omega), if_neg (by omega), if_neg (by omega), if_neg (by omega), if_neg (by omega), if_neg (by omega), if_neg (by omega)])⟩ dX4_countFact_122

def vDig1 (v : CavT) (u : CaveT) (h : EchT) : Nat → Int64
  | 0 => 691
  | w + 1 => dg (vDig1 v u h w) (vCtd v u h w)
def vDigC (u : CaveT) (c : Nat) (d : Int64) : Nat → Int64
  | 0 => d
  | w + 1 => dg (vDigC u c d w) (cFact u c w)
def vDig2 (u : CaveT) (d : Int64) : Nat → Int64
  | 0 => d
  | c + 1 => vDigC u c (vDig2 u d c) 7
def vDigP (u : CaveT) (p : Nat) (d : Int64) : Nat → Int64
  | 0 => d
  | w + 1 => dg (vDigP u p d w) (pFact u p w)
def vDig3 (u : CaveT) (d : Int64) : Nat → Int64
  | 0 => d
  | p + 1 => vDigP u p (vDig3 u d p) 5
def vDigH (h : EchT) (i : Nat) (d : Int64) : Nat → Int64
  | 0 => d
  | w + 1 => dg (vDigH h i d w) (hFa h (i * 5 + w))
def vDig4 (h : EchT) (d : Int64) : Nat → Int64
  | 0 => d
  | i + 1 => vDigH h i (vDig4 h d i) 5
def vDigest (v : CavT) (u : CaveT) (h : EchT) : Int64 := dg (vDig4 h (vDig3 u (vDig2 u (vDig1 v u h 10) (cC u)) (cP u)) (hK h)) (if hIn h then 1 else 0)

theorem hin_X4_digest_X0 : ∀ x ∈ wsX00, x ∈ wsX4_digest := fun x h => List.mem_cons_of_mem _ (List.mem_append_left _ (List.mem_append_right _ h))
theorem hin_X4_digest_X2 : ∀ x ∈ wsX20, x ∈ wsX4_digest := fun x h => List.mem_cons_of_mem _ (List.mem_append_right _ h)
theorem hin_X4_digest_X4 : ∀ x ∈ wsX40, x ∈ wsX4_digest := fun x h => List.mem_cons_of_mem _ (List.mem_append_left _ (List.mem_append_left _ (List.mem_append_right _ h)))
abbrev rm_X4_digest : Room := { frames := 4, cells := 0, slots := 0, locals := 78 }
set_option maxHeartbeats 4000000 in
set_option maxRecDepth 100000 in
theorem c_X4_digest (l : Launch) (D : va_G) (cI cJ cR : ClassId) (ad : Nat → Nat) (cv : CavT) (g : SndT) (q : QueT) (u : CaveT) (h k : EchT) (hB : cOk u) (hH : hOk h) : ek_M (S := Unit) l yX4_digest wsX4_digest rm_X4_digest D (tyW cI cJ cR) nestW [.ref (ad 46)] (wV ad cI cJ cR cv g q u h k) (fun r9 _ => ∃ v : Int64, r9 = some (.long v) ∧ v = vDigest cv u h) (fun _ => wV ad cI cJ cR cv g q u h k) := by
  refine ek_M.of (cc := cX4_digest) (maxL := 5) (ret := (some .long)) (by decide) rfl (Nat.le_of_ble_eq_true rfl) ?_
  intro p9 e9 s9 m9 args9 below9 meth9 c9 A X hin
  obtain ⟨⟨hC1, hC2⟩, hPs, hWt, bWal, bHgt, bBat, bSyl, bDel, bDrs, bFrm, bTo, bLen, bNar, bPb⟩ := id hB
  have hk60 := hH.2.2.1
  refine ek_castL (lv' := [(0, .ref (ad 46))]) rfl ?_
  refine ek_ldl (v := 691) X (List.mem_of_getElem? (i := 1) rfl) dX4_digest_0 ?_
  refine ek_lsn (lv' := [(1, .long 691), (0, .ref (ad 46))]) X (by decide) rfl dX4_digest_3 ?_
  refine ek_ic (v := nI 0) X (by decide) dX4_digest_4 ?_
  refine ek_isn (lv' := [(3, .int (nI 0)), (1, .long 691), (0, .ref (ad 46))]) X (by decide) rfl dX4_digest_5 ?_
  refine ek_loopAt (σ := Int64 × Nat) (fun zz => (fun (d : Int64) (w9 : Nat) => w9 ≤ 10 ∧ d = vDig1 cv u h w9) zz.1 zz.2) (fun zz => (fun (d : Int64) (w9 : Nat) => 10 - w9) zz.1 zz.2) (fun zz => (fun (d : Int64) (w9 : Nat) => wV ad cI cJ cR cv g q u h k) zz.1 zz.2) (fun zz => (fun (d : Int64) (w9 : Nat) => [(0, .ref (ad 46)), (1, .long d), (3, .int (nI w9))]) zz.1 zz.2) ?_ (691, 0) ⟨Nat.zero_le _, rfl⟩ rfl [2, 1, 0] rfl
  intro zz ha_6 ih_6
  obtain ⟨d, w9⟩ := zz
  replace ha_6 : w9 ≤ 10 ∧ d = vDig1 cv u h w9 := ha_6
  refine ek_cast (w' := wV ad cI cJ cR cv g q u h k) rfl ?_
  refine ek_castL (lv' := [(0, .ref (ad 46)), (1, .long d), (3, .int (nI w9))]) rfl ?_
  refine ek_iln X 2 rfl dX4_digest_6 ?_
  refine ek_bp (v := nI 10) X (by decide) dX4_digest_7 ?_
  refine ek_Nge X (by omega) (by omega) 31 (by decide) dX4_digest_9 (fun c_9 => ?_) (fun c_9 => ?_)
  · skip
    refine ek_ic (v := nI 0) X (by decide) dX4_digest_31 ?_
    refine ek_isn (lv' := [(3, .int (nI 0)), (0, .ref (ad 46)), (1, .long d)]) X (by decide) rfl dX4_digest_32 ?_
    refine ek_loopAt (σ := Int64 × Nat) (fun zz => (fun (d : Int64) (c : Nat) => c ≤ cC u ∧ d = vDig2 u (vDig1 cv u h 10) c) zz.1 zz.2) (fun zz => (fun (d : Int64) (c : Nat) => cC u - c) zz.1 zz.2) (fun zz => (fun (d : Int64) (c : Nat) => wV ad cI cJ cR cv g q u h k) zz.1 zz.2) (fun zz => (fun (d : Int64) (c : Nat) => [(0, .ref (ad 46)), (1, .long d), (3, .int (nI c))]) zz.1 zz.2) ?_ (d, 0) ⟨Nat.zero_le _, (by obtain ⟨h1, h2⟩ := ha_6; rw [h2, show w9 = 10 by omega]; rfl)⟩ rfl [1, 2, 0] rfl
    intro zz ha_33 ih_33
    obtain ⟨d, c⟩ := zz
    replace ha_33 : c ≤ cC u ∧ d = vDig2 u (vDig1 cv u h 10) c := ha_33
    refine ek_cast (w' := wV ad cI cJ cR cv g q u h k) rfl ?_
    refine ek_castL (lv' := [(0, .ref (ad 46)), (1, .long d), (3, .int (nI c))]) rfl ?_
    refine ek_iln X 2 rfl dX4_digest_33 ?_
    refine ek_aln X 0 rfl dX4_digest_34 ?_
    refine ek_get X hin_X4_digest_X4 0 rfl rfl 0 (by decide) (List.mem_of_getElem? (i := 3) rfl) rfl dX4_digest_35 ?_
    refine ek_getN X hin_X4_digest_X0 7 rfl rfl 0 (by decide) (List.mem_of_getElem? (i := 0) rfl) rfl dX4_digest_38 ?_
    refine ek_Nge X (by omega) (by omega) 84 (by decide) dX4_digest_41 (fun c_41 => ?_) (fun c_41 => ?_)
    · skip
      refine ek_ic (v := nI 0) X (by decide) dX4_digest_84 ?_
      refine ek_isn (lv' := [(3, .int (nI 0)), (0, .ref (ad 46)), (1, .long d)]) X (by decide) rfl dX4_digest_85 ?_
      refine ek_loopAt (σ := Int64 × Nat) (fun zz => (fun (d : Int64) (p : Nat) => p ≤ cP u ∧ d = vDig3 u (vDig2 u (vDig1 cv u h 10) (cC u)) p) zz.1 zz.2) (fun zz => (fun (d : Int64) (p : Nat) => cP u - p) zz.1 zz.2) (fun zz => (fun (d : Int64) (p : Nat) => wV ad cI cJ cR cv g q u h k) zz.1 zz.2) (fun zz => (fun (d : Int64) (p : Nat) => [(0, .ref (ad 46)), (1, .long d), (3, .int (nI p))]) zz.1 zz.2) ?_ (d, 0) ⟨Nat.zero_le _, (by obtain ⟨h1, h2⟩ := ha_33; rw [h2, show c = cC u by omega]; rfl)⟩ rfl [1, 2, 0] rfl
      intro zz ha_86 ih_86
      obtain ⟨d, p⟩ := zz
      replace ha_86 : p ≤ cP u ∧ d = vDig3 u (vDig2 u (vDig1 cv u h 10) (cC u)) p := ha_86
      refine ek_cast (w' := wV ad cI cJ cR cv g q u h k) rfl ?_
      refine ek_castL (lv' := [(0, .ref (ad 46)), (1, .long d), (3, .int (nI p))]) rfl ?_
      refine ek_iln X 2 rfl dX4_digest_86 ?_
      refine ek_aln X 0 rfl dX4_digest_87 ?_
      refine ek_get X hin_X4_digest_X4 0 rfl rfl 0 (by decide) (List.mem_of_getElem? (i := 3) rfl) rfl dX4_digest_88 ?_
      refine ek_getN X hin_X4_digest_X0 7 rfl rfl 8 (by decide) (List.mem_of_getElem? (i := 8) rfl) rfl dX4_digest_91 ?_
      refine ek_Nge X (by omega) (by omega) 136 (by decide) dX4_digest_94 (fun c_94 => ?_) (fun c_94 => ?_)
      · skip
        refine ek_ic (v := nI 0) X (by decide) dX4_digest_136 ?_
        refine ek_isn (lv' := [(3, .int (nI 0)), (0, .ref (ad 46)), (1, .long d)]) X (by decide) rfl dX4_digest_137 ?_
        refine ek_loopAt (σ := Int64 × Nat) (fun zz => (fun (d : Int64) (i : Nat) => i ≤ hK h ∧ d = vDig4 h (vDig3 u (vDig2 u (vDig1 cv u h 10) (cC u)) (cP u)) i) zz.1 zz.2) (fun zz => (fun (d : Int64) (i : Nat) => hK h - i) zz.1 zz.2) (fun zz => (fun (d : Int64) (i : Nat) => wV ad cI cJ cR cv g q u h k) zz.1 zz.2) (fun zz => (fun (d : Int64) (i : Nat) => [(0, .ref (ad 46)), (1, .long d), (3, .int (nI i))]) zz.1 zz.2) ?_ (d, 0) ⟨Nat.zero_le _, (by obtain ⟨h1, h2⟩ := ha_86; rw [h2, show p = cP u by omega]; rfl)⟩ rfl [1, 2, 0] rfl
        intro zz ha_138 ih_138
        obtain ⟨d, i⟩ := zz
        replace ha_138 : i ≤ hK h ∧ d = vDig4 h (vDig3 u (vDig2 u (vDig1 cv u h 10) (cC u)) (cP u)) i := ha_138
        refine ek_cast (w' := wV ad cI cJ cR cv g q u h k) rfl ?_
        refine ek_castL (lv' := [(0, .ref (ad 46)), (1, .long d), (3, .int (nI i))]) rfl ?_
        refine ek_iln X 2 rfl dX4_digest_138 ?_
        refine ek_aln X 0 rfl dX4_digest_139 ?_
        refine ek_get X hin_X4_digest_X4 0 rfl rfl 2 (by decide) (List.mem_of_getElem? (i := 4) rfl) rfl dX4_digest_140 ?_
        refine ek_getN X hin_X4_digest_X2 32 rfl rfl 4 (by decide) (List.mem_of_getElem? (i := 16) rfl) rfl dX4_digest_143 ?_
        refine ek_Nge X (by omega) (by omega) 188 (by decide) dX4_digest_146 (fun c_146 => ?_) (fun c_146 => ?_)
        · skip
          refine ek_lln X 1 rfl dX4_digest_188 ?_
          refine ek_ldl (v := 31) X (List.mem_of_getElem? (i := 2) rfl) dX4_digest_189 ?_
          refine ek_lmul X dX4_digest_192 ?_
          refine ek_aln X 0 rfl dX4_digest_193 ?_
          refine ek_get X hin_X4_digest_X4 0 rfl rfl 2 (by decide) (List.mem_of_getElem? (i := 4) rfl) rfl dX4_digest_194 ?_
          refine ek_doRi (ek_runV (As := []) (rest := [.long (d * 31)]) X (c_X2_cameInOrder l D cI cJ cR ad 40 h hH) gX4_digest_X2_cameInOrder rfl hdV_X2_cameInOrder ⟨Nat.le_of_ble_eq_true rfl, Nat.le_of_ble_eq_true rfl⟩ ⟨Nat.le_of_ble_eq_true rfl, Nat.le_of_ble_eq_true rfl⟩ [32, 33, 34] rfl (by decide) 0 2 rfl rfl (Nat.le_of_ble_eq_true rfl) dX4_digest_197) (fun v_197 hv_197 => ?_)
          subst hv_197
          by_cases c_197 : hIn h
          · refine ek_top (v' := nI 1) (congrArg nI (if_pos c_197)) ?_
            refine ek_Zeq X (by omega) 207 (by decide) dX4_digest_200 (fun h => absurd h (by omega)) (fun _ => ?_)
            refine ek_ic (v := nI 1) X (by decide) dX4_digest_203 ?_
            refine ek_goto X 208 (by decide) dX4_digest_204 ?_
            refine ek_i2l (v := (nI 1).toInt64) X rfl dX4_digest_208 ?_
            refine ek_ladd X dX4_digest_209 ?_
            exact ek_retl X () ⟨_, rfl, (by obtain ⟨h1, h2⟩ := ha_138; unfold vDigest; rw [h2, show i = hK h by omega]; first | (rw [if_pos (show hIn h by assumption)] <;> rfl) | (rw [if_neg (show ¬ hIn h by assumption)] <;> rfl))⟩ rfl dX4_digest_210
          · refine ek_top (v' := nI 0) (congrArg nI (if_neg c_197)) ?_
            refine ek_Zeq X (by omega) 207 (by decide) dX4_digest_200 (fun _ => ?_) (fun h => absurd h (by omega))
            refine ek_ic (v := nI 0) X (by decide) dX4_digest_207 ?_
            refine ek_i2l (v := (nI 0).toInt64) X rfl dX4_digest_208 ?_
            refine ek_ladd X dX4_digest_209 ?_
            exact ek_retl X () ⟨_, rfl, (by obtain ⟨h1, h2⟩ := ha_138; unfold vDigest; rw [h2, show i = hK h by omega]; first | (rw [if_pos (show hIn h by assumption)] <;> rfl) | (rw [if_neg (show ¬ hIn h by assumption)] <;> rfl))⟩ rfl dX4_digest_210
        · skip
          refine ek_ic (v := nI 0) X (by decide) dX4_digest_149 ?_
          refine ek_is (lv' := [(4, .int (nI 0)), (0, .ref (ad 46)), (1, .long d), (3, .int (nI i))]) X (by decide) rfl dX4_digest_150 ?_
          refine ek_loopAt (σ := Int64 × Nat) (fun zz => (fun (d2 : Int64) (w9 : Nat) => w9 ≤ 5 ∧ d2 = vDigH h i d w9) zz.1 zz.2) (fun zz => (fun (d2 : Int64) (w9 : Nat) => 5 - w9) zz.1 zz.2) (fun zz => (fun (d2 : Int64) (w9 : Nat) => wV ad cI cJ cR cv g q u h k) zz.1 zz.2) (fun zz => (fun (d2 : Int64) (w9 : Nat) => [(0, .ref (ad 46)), (1, .long d2), (3, .int (nI i)), (4, .int (nI w9))]) zz.1 zz.2) ?_ (d, 0) ⟨Nat.zero_le _, rfl⟩ rfl [1, 2, 3, 0] rfl
          intro zz ha_152 ih_152
          obtain ⟨d2, w9⟩ := zz
          replace ha_152 : w9 ≤ 5 ∧ d2 = vDigH h i d w9 := ha_152
          refine ek_cast (w' := wV ad cI cJ cR cv g q u h k) rfl ?_
          refine ek_castL (lv' := [(0, .ref (ad 46)), (1, .long d2), (3, .int (nI i)), (4, .int (nI w9))]) rfl ?_
          refine ek_il X 3 rfl dX4_digest_152 ?_
          refine ek_ic (v := nI 5) X (by decide) dX4_digest_154 ?_
          refine ek_Nge X (by omega) (by omega) 182 (by decide) dX4_digest_155 (fun c_155 => ?_) (fun c_155 => ?_)
          · skip
            refine ek_Ninc (j := 2) (d := 1) (lv' := [(3, .int (nI (i + 1))), (0, .ref (ad 46)), (1, .long d2), (4, .int (nI w9))]) X rfl (by decide) rfl dX4_digest_182 ?_
            refine ek_goto X 138 (by decide) dX4_digest_185 ?_
            refine ek_re [1, 2, 0] rfl ?_
            exact ih_138 (d2, i + 1) (show (i + 1) ≤ hK h ∧ d2 = vDig4 h (vDig3 u (vDig2 u (vDig1 cv u h 10) (cC u)) (cP u)) (i + 1) from (by obtain ⟨h1, h2⟩ := ha_138; obtain ⟨g1, g2⟩ := ha_152; refine ⟨by omega, ?_⟩; rw [g2, show w9 = 5 by omega, h2]; rfl)) (by show hK h - (i + 1) < hK h - i; omega)
          · skip
            refine ek_lln X 1 rfl dX4_digest_158 ?_
            refine ek_ldl (v := 31) X (List.mem_of_getElem? (i := 2) rfl) dX4_digest_159 ?_
            refine ek_lmul X dX4_digest_162 ?_
            refine ek_aln X 0 rfl dX4_digest_163 ?_
            refine ek_get X hin_X4_digest_X4 0 rfl rfl 2 (by decide) (List.mem_of_getElem? (i := 4) rfl) rfl dX4_digest_164 ?_
            refine ek_iln X 2 rfl dX4_digest_167 ?_
            refine ek_il X 3 rfl dX4_digest_168 ?_
            refine ek_doRi (ek_runV (As := [.int (nI i), .int (nI w9)]) (rest := [.long (d2 * 31)]) X (c_X2_heardFact l D cI cJ cR ad 40 h i w9 (by omega) (by omega)) gX4_digest_X2_heardFact rfl hdV_X2_heardFact ⟨Nat.le_of_ble_eq_true rfl, Nat.le_of_ble_eq_true rfl⟩ ⟨Nat.le_of_ble_eq_true rfl, Nat.le_of_ble_eq_true rfl⟩ [32, 33, 34] rfl (by decide) 0 2 rfl rfl (Nat.le_of_ble_eq_true rfl) dX4_digest_170) (fun v_170 hv_170 => ?_)
            subst hv_170
            refine ek_i2l (v := (nI (hFa h (i * 5 + w9))).toInt64) X rfl dX4_digest_173 ?_
            refine ek_ladd X dX4_digest_174 ?_
            refine ek_lsn (lv' := [(1, .long ((d2 * 31) + ((nI (hFa h (i * 5 + w9))).toInt64))), (0, .ref (ad 46)), (3, .int (nI i)), (4, .int (nI w9))]) X (by decide) rfl dX4_digest_175 ?_
            refine ek_Ninc (j := 3) (d := 1) (lv' := [(4, .int (nI (w9 + 1))), (1, .long ((d2 * 31) + ((nI (hFa h (i * 5 + w9))).toInt64))), (0, .ref (ad 46)), (3, .int (nI i))]) X rfl (by decide) rfl dX4_digest_176 ?_
            refine ek_goto X 152 (by decide) dX4_digest_179 ?_
            refine ek_re [2, 1, 3, 0] rfl ?_
            exact ih_152 ((d2 * 31) + ((nI (hFa h (i * 5 + w9))).toInt64), w9 + 1) (show (w9 + 1) ≤ 5 ∧ ((d2 * 31) + ((nI (hFa h (i * 5 + w9))).toInt64)) = vDigH h i d (w9 + 1) from (by obtain ⟨h1, h2⟩ := ha_152; refine ⟨by omega, ?_⟩; rw [h2]; rfl)) (by show 5 - (w9 + 1) < 5 - w9; omega)
      · skip
        refine ek_ic (v := nI 0) X (by decide) dX4_digest_97 ?_
        refine ek_is (lv' := [(4, .int (nI 0)), (0, .ref (ad 46)), (1, .long d), (3, .int (nI p))]) X (by decide) rfl dX4_digest_98 ?_
        refine ek_loopAt (σ := Int64 × Nat) (fun zz => (fun (d2 : Int64) (w9 : Nat) => w9 ≤ 5 ∧ d2 = vDigP u p d w9) zz.1 zz.2) (fun zz => (fun (d2 : Int64) (w9 : Nat) => 5 - w9) zz.1 zz.2) (fun zz => (fun (d2 : Int64) (w9 : Nat) => wV ad cI cJ cR cv g q u h k) zz.1 zz.2) (fun zz => (fun (d2 : Int64) (w9 : Nat) => [(0, .ref (ad 46)), (1, .long d2), (3, .int (nI p)), (4, .int (nI w9))]) zz.1 zz.2) ?_ (d, 0) ⟨Nat.zero_le _, rfl⟩ rfl [1, 2, 3, 0] rfl
        intro zz ha_100 ih_100
        obtain ⟨d2, w9⟩ := zz
        replace ha_100 : w9 ≤ 5 ∧ d2 = vDigP u p d w9 := ha_100
        refine ek_cast (w' := wV ad cI cJ cR cv g q u h k) rfl ?_
        refine ek_castL (lv' := [(0, .ref (ad 46)), (1, .long d2), (3, .int (nI p)), (4, .int (nI w9))]) rfl ?_
        refine ek_il X 3 rfl dX4_digest_100 ?_
        refine ek_ic (v := nI 5) X (by decide) dX4_digest_102 ?_
        refine ek_Nge X (by omega) (by omega) 130 (by decide) dX4_digest_103 (fun c_103 => ?_) (fun c_103 => ?_)
        · skip
          refine ek_Ninc (j := 2) (d := 1) (lv' := [(3, .int (nI (p + 1))), (0, .ref (ad 46)), (1, .long d2), (4, .int (nI w9))]) X rfl (by decide) rfl dX4_digest_130 ?_
          refine ek_goto X 86 (by decide) dX4_digest_133 ?_
          refine ek_re [1, 2, 0] rfl ?_
          exact ih_86 (d2, p + 1) (show (p + 1) ≤ cP u ∧ d2 = vDig3 u (vDig2 u (vDig1 cv u h 10) (cC u)) (p + 1) from (by obtain ⟨h1, h2⟩ := ha_86; obtain ⟨g1, g2⟩ := ha_100; refine ⟨by omega, ?_⟩; rw [g2, show w9 = 5 by omega, h2]; rfl)) (by show cP u - (p + 1) < cP u - p; omega)
        · skip
          refine ek_lln X 1 rfl dX4_digest_106 ?_
          refine ek_ldl (v := 31) X (List.mem_of_getElem? (i := 2) rfl) dX4_digest_107 ?_
          refine ek_lmul X dX4_digest_110 ?_
          refine ek_aln X 0 rfl dX4_digest_111 ?_
          refine ek_get X hin_X4_digest_X4 0 rfl rfl 0 (by decide) (List.mem_of_getElem? (i := 3) rfl) rfl dX4_digest_112 ?_
          refine ek_iln X 2 rfl dX4_digest_115 ?_
          refine ek_il X 3 rfl dX4_digest_116 ?_
          refine ek_doRi (ek_runV (As := [.int (nI p), .int (nI w9)]) (rest := [.long (d2 * 31)]) X (c_X0_passageFact l D cI cJ cR ad u hB p w9 (by omega) (by omega)) gX4_digest_X0_passageFact rfl hdV_X0_passageFact ⟨Nat.le_of_ble_eq_true rfl, Nat.le_of_ble_eq_true rfl⟩ ⟨Nat.le_of_ble_eq_true rfl, Nat.le_of_ble_eq_true rfl⟩ [7, 8, 9, 10, 11, 12, 13, 14, 15, 16, 17, 18, 19, 20, 21, 22, 23, 24, 25, 26, 27, 28, 29, 30, 31] rfl (by decide) 0 0 rfl rfl (Nat.le_of_ble_eq_true rfl) dX4_digest_118) (fun v_118 hv_118 => ?_)
          subst hv_118
          refine ek_i2l (v := (nI (pFact u p w9)).toInt64) X rfl dX4_digest_121 ?_
          refine ek_ladd X dX4_digest_122 ?_
          refine ek_lsn (lv' := [(1, .long ((d2 * 31) + ((nI (pFact u p w9)).toInt64))), (0, .ref (ad 46)), (3, .int (nI p)), (4, .int (nI w9))]) X (by decide) rfl dX4_digest_123 ?_
          refine ek_Ninc (j := 3) (d := 1) (lv' := [(4, .int (nI (w9 + 1))), (1, .long ((d2 * 31) + ((nI (pFact u p w9)).toInt64))), (0, .ref (ad 46)), (3, .int (nI p))]) X rfl (by decide) rfl dX4_digest_124 ?_
          refine ek_goto X 100 (by decide) dX4_digest_127 ?_
          refine ek_re [2, 1, 3, 0] rfl ?_
          exact ih_100 ((d2 * 31) + ((nI (pFact u p w9)).toInt64), w9 + 1) (show (w9 + 1) ≤ 5 ∧ ((d2 * 31) + ((nI (pFact u p w9)).toInt64)) = vDigP u p d (w9 + 1) from (by obtain ⟨h1, h2⟩ := ha_100; refine ⟨by omega, ?_⟩; rw [h2]; rfl)) (by show 5 - (w9 + 1) < 5 - w9; omega)
    · skip
      refine ek_ic (v := nI 0) X (by decide) dX4_digest_44 ?_
      refine ek_is (lv' := [(4, .int (nI 0)), (0, .ref (ad 46)), (1, .long d), (3, .int (nI c))]) X (by decide) rfl dX4_digest_45 ?_
      refine ek_loopAt (σ := Int64 × Nat) (fun zz => (fun (d2 : Int64) (w9 : Nat) => w9 ≤ 7 ∧ d2 = vDigC u c d w9) zz.1 zz.2) (fun zz => (fun (d2 : Int64) (w9 : Nat) => 7 - w9) zz.1 zz.2) (fun zz => (fun (d2 : Int64) (w9 : Nat) => wV ad cI cJ cR cv g q u h k) zz.1 zz.2) (fun zz => (fun (d2 : Int64) (w9 : Nat) => [(0, .ref (ad 46)), (1, .long d2), (3, .int (nI c)), (4, .int (nI w9))]) zz.1 zz.2) ?_ (d, 0) ⟨Nat.zero_le _, rfl⟩ rfl [1, 2, 3, 0] rfl
      intro zz ha_47 ih_47
      obtain ⟨d2, w9⟩ := zz
      replace ha_47 : w9 ≤ 7 ∧ d2 = vDigC u c d w9 := ha_47
      refine ek_cast (w' := wV ad cI cJ cR cv g q u h k) rfl ?_
      refine ek_castL (lv' := [(0, .ref (ad 46)), (1, .long d2), (3, .int (nI c)), (4, .int (nI w9))]) rfl ?_
      refine ek_il X 3 rfl dX4_digest_47 ?_
      refine ek_bp (v := nI 7) X (by decide) dX4_digest_49 ?_
      refine ek_Nge X (by omega) (by omega) 78 (by decide) dX4_digest_51 (fun c_51 => ?_) (fun c_51 => ?_)
      · skip
        refine ek_Ninc (j := 2) (d := 1) (lv' := [(3, .int (nI (c + 1))), (0, .ref (ad 46)), (1, .long d2), (4, .int (nI w9))]) X rfl (by decide) rfl dX4_digest_78 ?_
        refine ek_goto X 33 (by decide) dX4_digest_81 ?_
        refine ek_re [1, 2, 0] rfl ?_
        exact ih_33 (d2, c + 1) (show (c + 1) ≤ cC u ∧ d2 = vDig2 u (vDig1 cv u h 10) (c + 1) from (by obtain ⟨h1, h2⟩ := ha_33; obtain ⟨g1, g2⟩ := ha_47; refine ⟨by omega, ?_⟩; rw [g2, show w9 = 7 by omega, h2]; rfl)) (by show cC u - (c + 1) < cC u - c; omega)
      · skip
        refine ek_lln X 1 rfl dX4_digest_54 ?_
        refine ek_ldl (v := 31) X (List.mem_of_getElem? (i := 2) rfl) dX4_digest_55 ?_
        refine ek_lmul X dX4_digest_58 ?_
        refine ek_aln X 0 rfl dX4_digest_59 ?_
        refine ek_get X hin_X4_digest_X4 0 rfl rfl 0 (by decide) (List.mem_of_getElem? (i := 3) rfl) rfl dX4_digest_60 ?_
        refine ek_iln X 2 rfl dX4_digest_63 ?_
        refine ek_il X 3 rfl dX4_digest_64 ?_
        refine ek_doRi (ek_runV (As := [.int (nI c), .int (nI w9)]) (rest := [.long (d2 * 31)]) X (c_X0_chamberFact l D cI cJ cR ad u hB c w9 (by omega) (by omega)) gX4_digest_X0_chamberFact rfl hdV_X0_chamberFact ⟨Nat.le_of_ble_eq_true rfl, Nat.le_of_ble_eq_true rfl⟩ ⟨Nat.le_of_ble_eq_true rfl, Nat.le_of_ble_eq_true rfl⟩ [7, 8, 9, 10, 11, 12, 13, 14, 15, 16, 17, 18, 19, 20, 21, 22, 23, 24, 25, 26, 27, 28, 29, 30, 31] rfl (by decide) 0 0 rfl rfl (Nat.le_of_ble_eq_true rfl) dX4_digest_66) (fun v_66 hv_66 => ?_)
        subst hv_66
        refine ek_i2l (v := (nI (cFact u c w9)).toInt64) X rfl dX4_digest_69 ?_
        refine ek_ladd X dX4_digest_70 ?_
        refine ek_lsn (lv' := [(1, .long ((d2 * 31) + ((nI (cFact u c w9)).toInt64))), (0, .ref (ad 46)), (3, .int (nI c)), (4, .int (nI w9))]) X (by decide) rfl dX4_digest_71 ?_
        refine ek_Ninc (j := 3) (d := 1) (lv' := [(4, .int (nI (w9 + 1))), (1, .long ((d2 * 31) + ((nI (cFact u c w9)).toInt64))), (0, .ref (ad 46)), (3, .int (nI c))]) X rfl (by decide) rfl dX4_digest_72 ?_
        refine ek_goto X 47 (by decide) dX4_digest_75 ?_
        refine ek_re [2, 1, 3, 0] rfl ?_
        exact ih_47 ((d2 * 31) + ((nI (cFact u c w9)).toInt64), w9 + 1) (show (w9 + 1) ≤ 7 ∧ ((d2 * 31) + ((nI (cFact u c w9)).toInt64)) = vDigC u c d (w9 + 1) from (by obtain ⟨h1, h2⟩ := ha_47; refine ⟨by omega, ?_⟩; rw [h2]; rfl)) (by show 7 - (w9 + 1) < 7 - w9; omega)
  · skip
    refine ek_lln X 1 rfl dX4_digest_12 ?_
    refine ek_ldl (v := 31) X (List.mem_of_getElem? (i := 2) rfl) dX4_digest_13 ?_
    refine ek_lmul X dX4_digest_16 ?_
    refine ek_aln X 0 rfl dX4_digest_17 ?_
    refine ek_iln X 2 rfl dX4_digest_18 ?_
    refine ek_doRi (ek_runV (As := [.int (nI w9)]) (rest := [.long (d * 31)]) X (c_X4_countFact l D cI cJ cR ad cv g q u h k hB w9 (by omega)) gX4_digest_X4_countFact rfl hdV_X4_countFact ⟨Nat.le_of_ble_eq_true rfl, Nat.le_of_ble_eq_true rfl⟩ ⟨Nat.le_of_ble_eq_true rfl, Nat.le_of_ble_eq_true rfl⟩ [0, 1, 2, 3, 4, 5, 6, 7, 8, 9, 10, 11, 12, 13, 14, 15, 16, 17, 18, 19, 20, 21, 22, 23, 24, 25, 26, 27, 28, 29, 30, 31, 32, 33, 34, 35, 36, 37] rfl (by decide) 0 4 rfl rfl (Nat.le_of_ble_eq_true rfl) dX4_digest_19) (fun v_19 hv_19 => ?_)
    subst hv_19
    refine ek_i2l (v := (nI (vCtd cv u h w9)).toInt64) X rfl dX4_digest_22 ?_
    refine ek_ladd X dX4_digest_23 ?_
    refine ek_lsn (lv' := [(1, .long ((d * 31) + ((nI (vCtd cv u h w9)).toInt64))), (0, .ref (ad 46)), (3, .int (nI w9))]) X (by decide) rfl dX4_digest_24 ?_
    refine ek_Ninc (j := 2) (d := 1) (lv' := [(3, .int (nI (w9 + 1))), (1, .long ((d * 31) + ((nI (vCtd cv u h w9)).toInt64))), (0, .ref (ad 46))]) X rfl (by decide) rfl dX4_digest_25 ?_
    refine ek_goto X 6 (by decide) dX4_digest_28 ?_
    refine ek_re [2, 1, 0] rfl ?_
    exact ih_6 ((d * 31) + ((nI (vCtd cv u h w9)).toInt64), w9 + 1) (show (w9 + 1) ≤ 10 ∧ ((d * 31) + ((nI (vCtd cv u h w9)).toInt64)) = vDig1 cv u h (w9 + 1) from (by obtain ⟨h1, h2⟩ := ha_6; refine ⟨by omega, ?_⟩; rw [h2]; rfl)) (by show 10 - (w9 + 1) < 10 - w9; omega)
