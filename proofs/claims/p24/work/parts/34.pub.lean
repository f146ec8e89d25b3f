/-! ===== EchoCave: its calls, returning or throwing ===== -/
def xAddC (a t b C : Nat) : Nat := if a ≤ 100 ∧ t ≤ 30 ∧ b ≤ 20 then (if C < 12 then 0 else 2) else 1
def xAddP (a b n w C P : Nat) : Nat := if a < C ∧ b < C then (if ¬ a = b ∧ (1 ≤ n ∧ n ≤ 9) ∧ w ≤ 9 then (if P < 18 then 0 else 3) else 2) else 1
def xSetW (k : Nat) : Nat := if k ≤ 30 then 0 else 1
def xSetB (c b C : Nat) : Nat := if c < C then (if b ≤ 20 then 0 else 2) else 1
def xSetC (c y d C : Nat) : Nat := if c < C then (if 0 < c ∧ y ≤ 9 ∧ d ≤ 20 then 0 else 2) else 1
def xSetE (k : Nat) : Nat := if 1 ≤ k ∧ k ≤ 50 then 0 else 1
def xTwo (c C w M : Nat) : Nat := if c < C ∧ w ≤ M then 0 else 1
def xLt (c C : Nat) : Nat := if c < C then 0 else 1
def xLe (c C : Nat) : Nat := if c ≤ C then 0 else 1
def xSay (w b : Nat) : Nat := if wbOk w b then 0 else 1
def xWould (w b x : Nat) : Nat := if wbOk w b then (if x ≤ 3 then 0 else 2) else 1
def xAdv (w b y d : Nat) : Nat := if wbOk w b ∧ (1 ≤ y ∧ y ≤ 9) ∧ d ≤ 20 then 0 else 1
def xLong (y b : Nat) : Nat := if (1 ≤ y ∧ y ≤ 9) ∧ 1 ≤ b ∧ b ≤ 20 then 0 else 1
def xQuick (w : Nat) : Nat := if wdOk w then 0 else 1
def xWay (a b C : Nat) : Nat := if a < C ∧ b < C then 0 else 1

theorem hin_X4_addChamber_X0 : ∀ x ∈ wsX00, x ∈ wsX4_addChamber := fun x h => List.mem_cons_of_mem _ (List.mem_append_left _ (List.mem_append_left _ (List.mem_append_right _ h)))
theorem hin_X4_addChamber_X4 : ∀ x ∈ wsX40, x ∈ wsX4_addChamber := fun x h => List.mem_cons_of_mem _ (List.mem_append_left _ (List.mem_append_left _ (List.mem_append_left _ (List.mem_append_right _ h))))
abbrev rm_X4_addChamber : Room := { frames := 7, cells := 4, slots := 24, locals := 102 }
set_option maxHeartbeats 4000000 in
set_option maxRecDepth 100000 in
theorem c_X4_addChamber (l : Launch) (hl : l.stackTraces = false) (D : va_G) (cI cJ cR : ClassId) (ad : Nat → Nat) (cv : CavT) (g : SndT) (q : QueT) (u : CaveT) (h k : EchT) (hB : cOk u) (a : Nat) (t : Nat) (b : Nat) (ha : a < 4294967296) (ht : t < 4294967296) (hb : b < 4294967296) : ek_MX (S := Unit) l yX4_addChamber wsX4_addChamber rm_X4_addChamber D (tyW cI cJ cR) nestW [.ref (ad 46), .int (nI a), .int (nI t), .int (nI b)] (wV ad cI cJ cR cv g q u h k) (fun r9 _ => ∃ v : Int32, r9 = some (.int v) ∧ xAddC a t b (cC u) = 0 ∧ v = nI (cC u)) (fun _ => wV ad cI cJ cR cv g q (cAdd u a t b) h k) (fun E9 => (xAddC a t b (cC u) = 1 ∧ E9 = eIA) ∨ (xAddC a t b (cC u) = 2 ∧ E9 = eIS)) := by
  refine ek_MX.of (cc := cX4_addChamber) (maxL := 4) (ret := (some .int)) (by decide) rfl (Nat.le_of_ble_eq_true rfl) ?_
  intro p9 e9 s9 m9 args9 below9 meth9 c9 A X hZ hT
  obtain ⟨⟨hC1, hC2⟩, hPs, hWt, bWal, bHgt, bBat, bSyl, bDel, bDrs, bFrm, bTo, bLen, bNar, bPb⟩ := id hB
  refine ek_castL (lv' := [(0, .ref (ad 46)), (1, .int (nI a)), (2, .int (nI t)), (3, .int (nI b))]) rfl ?_
  refine ek_iln X 1 rfl dX4_addChamber_0 ?_
  refine ek_ic (v := nI 0) X (by decide) dX4_addChamber_1 ?_
  refine ek_bp (v := nI 100) X (by decide) dX4_addChamber_2 ?_
  refine ek_doRi (ek_runS (As := [.int (nI a), .int (nI 0), .int (nI 100)]) (rest := []) X (c_X4_isWithinN l D cI cJ cR a 0 100 (by omega) (by omega) (by omega)) gX4_addChamber_X4_isWithin rfl hd_X4_isWithin ⟨Nat.le_of_ble_eq_true rfl, Nat.le_of_ble_eq_true rfl⟩ ⟨Nat.le_of_ble_eq_true rfl, Nat.le_of_ble_eq_true rfl⟩ [] rfl (by decide) (Nat.le_of_ble_eq_true rfl) dX4_addChamber_4) (fun v_4 hv_4 => ?_)
  subst hv_4
  by_cases c_4 : 0 ≤ a ∧ a ≤ 100
  · refine ek_top (v' := nI 1) (congrArg nI (if_pos c_4)) ?_
    refine ek_doXv X (ek_runSX (As := [.int (nI 1)]) (rest := []) X hZ (c_X4_requireArgument l hl D cI cJ cR 1 (by omega)) gX4_addChamber_X4_requireArgument rfl hd_X4_requireArgument ⟨Nat.le_of_ble_eq_true rfl, Nat.le_of_ble_eq_true rfl⟩ ⟨Nat.le_of_ble_eq_true rfl, Nat.le_of_ble_eq_true rfl⟩ [] rfl (by decide) (Nat.le_of_ble_eq_true rfl) dX4_addChamber_7) [0, 1, 2, 3, 4, 5, 6, 7, 8, 9, 10, 11, 12, 13, 14, 15, 16, 17, 18, 19, 20, 21, 22, 23, 24, 25, 26, 27, 28, 29, 30, 31, 32, 33, 34, 35, 36, 37] rfl (by decide) (fun E hE => absurd hE.1 (by decide)) (fun _ => ?_)
    refine ek_iln X 2 rfl dX4_addChamber_10 ?_
    refine ek_ic (v := nI 0) X (by decide) dX4_addChamber_11 ?_
    refine ek_bp (v := nI 30) X (by decide) dX4_addChamber_12 ?_
    refine ek_doRi (ek_runS (As := [.int (nI t), .int (nI 0), .int (nI 30)]) (rest := []) X (c_X4_isWithinN l D cI cJ cR t 0 30 (by omega) (by omega) (by omega)) gX4_addChamber_X4_isWithin rfl hd_X4_isWithin ⟨Nat.le_of_ble_eq_true rfl, Nat.le_of_ble_eq_true rfl⟩ ⟨Nat.le_of_ble_eq_true rfl, Nat.le_of_ble_eq_true rfl⟩ [] rfl (by decide) (Nat.le_of_ble_eq_true rfl) dX4_addChamber_14) (fun v_14 hv_14 => ?_)
    subst hv_14
    by_cases c_14 : 0 ≤ t ∧ t ≤ 30
    · refine ek_top (v' := nI 1) (congrArg nI (if_pos c_14)) ?_
      refine ek_doXv X (ek_runSX (As := [.int (nI 1)]) (rest := []) X hZ (c_X4_requireArgument l hl D cI cJ cR 1 (by omega)) gX4_addChamber_X4_requireArgument rfl hd_X4_requireArgument ⟨Nat.le_of_ble_eq_true rfl, Nat.le_of_ble_eq_true rfl⟩ ⟨Nat.le_of_ble_eq_true rfl, Nat.le_of_ble_eq_true rfl⟩ [] rfl (by decide) (Nat.le_of_ble_eq_true rfl) dX4_addChamber_17) [0, 1, 2, 3, 4, 5, 6, 7, 8, 9, 10, 11, 12, 13, 14, 15, 16, 17, 18, 19, 20, 21, 22, 23, 24, 25, 26, 27, 28, 29, 30, 31, 32, 33, 34, 35, 36, 37] rfl (by decide) (fun E hE => absurd hE.1 (by decide)) (fun _ => ?_)
      refine ek_iln X 3 rfl dX4_addChamber_20 ?_
      refine ek_ic (v := nI 0) X (by decide) dX4_addChamber_21 ?_
      refine ek_bp (v := nI 20) X (by decide) dX4_addChamber_22 ?_
      refine ek_doRi (ek_runS (As := [.int (nI b), .int (nI 0), .int (nI 20)]) (rest := []) X (c_X4_isWithinN l D cI cJ cR b 0 20 (by omega) (by omega) (by omega)) gX4_addChamber_X4_isWithin rfl hd_X4_isWithin ⟨Nat.le_of_ble_eq_true rfl, Nat.le_of_ble_eq_true rfl⟩ ⟨Nat.le_of_ble_eq_true rfl, Nat.le_of_ble_eq_true rfl⟩ [] rfl (by decide) (Nat.le_of_ble_eq_true rfl) dX4_addChamber_24) (fun v_24 hv_24 => ?_)
      subst hv_24
      by_cases c_24 : 0 ≤ b ∧ b ≤ 20
      · refine ek_top (v' := nI 1) (congrArg nI (if_pos c_24)) ?_
        refine ek_doXv X (ek_runSX (As := [.int (nI 1)]) (rest := []) X hZ (c_X4_requireArgument l hl D cI cJ cR 1 (by omega)) gX4_addChamber_X4_requireArgument rfl hd_X4_requireArgument ⟨Nat.le_of_ble_eq_true rfl, Nat.le_of_ble_eq_true rfl⟩ ⟨Nat.le_of_ble_eq_true rfl, Nat.le_of_ble_eq_true rfl⟩ [] rfl (by decide) (Nat.le_of_ble_eq_true rfl) dX4_addChamber_27) [0, 1, 2, 3, 4, 5, 6, 7, 8, 9, 10, 11, 12, 13, 14, 15, 16, 17, 18, 19, 20, 21, 22, 23, 24, 25, 26, 27, 28, 29, 30, 31, 32, 33, 34, 35, 36, 37] rfl (by decide) (fun E hE => absurd hE.1 (by decide)) (fun _ => ?_)
        refine ek_aln X 0 rfl dX4_addChamber_30 ?_
        refine ek_get X hin_X4_addChamber_X4 0 rfl rfl 0 (by decide) (List.mem_of_getElem? (i := 3) rfl) rfl dX4_addChamber_31 ?_
        refine ek_getN X hin_X4_addChamber_X0 7 rfl rfl 0 (by decide) (List.mem_of_getElem? (i := 0) rfl) rfl dX4_addChamber_34 ?_
        refine ek_bp (v := nI 12) X (by decide) dX4_addChamber_37 ?_
        refine ek_Nlt X (by omega) (by omega) 52 (by decide) dX4_addChamber_39 (fun c_39 => ?_) (fun c_39 => ?_)
        · skip
          refine ek_aln X 0 rfl dX4_addChamber_52 ?_
          refine ek_get X hin_X4_addChamber_X4 0 rfl rfl 0 (by decide) (List.mem_of_getElem? (i := 3) rfl) rfl dX4_addChamber_53 ?_
          refine ek_iln X 1 rfl dX4_addChamber_56 ?_
          refine ek_iln X 2 rfl dX4_addChamber_57 ?_
          refine ek_iln X 3 rfl dX4_addChamber_58 ?_
          refine ek_doWi X (ek_runV (As := [.int (nI a), .int (nI t), .int (nI b)]) (rest := []) X (c_X0_findChamber l D cI cJ cR ad u a t b (by omega)) gX4_addChamber_X0_findChamber rfl hdV_X0_findChamber ⟨Nat.le_of_ble_eq_true rfl, Nat.le_of_ble_eq_true rfl⟩ ⟨Nat.le_of_ble_eq_true rfl, Nat.le_of_ble_eq_true rfl⟩ [7, 8, 9, 10, 11, 12, 13, 14, 15, 16, 17, 18, 19, 20, 21, 22, 23, 24, 25, 26, 27, 28, 29, 30, 31] rfl (by decide) 0 0 rfl rfl (Nat.le_of_ble_eq_true rfl) dX4_addChamber_59) [7, 8, 9, 10, 11, 12, 13, 14, 15, 16, 17, 18, 19, 20, 21, 22, 23, 24, 25, 26, 27, 28, 29, 30, 31] [0, 1, 2, 3, 4, 5, 6, 32, 33, 34, 35, 36, 37] rfl rfl (by decide) (by decide) (fun _ => wV ad cI cJ cR cv g q (cAdd u a t b) h k) [0, 1, 2, 3, 4, 5, 6, 13, 14, 15, 16, 17, 18, 19, 20, 21, 22, 23, 24, 25, 26, 27, 28, 29, 30, 31, 32, 33, 34, 35, 36, 37, 7, 8, 9, 10, 11, 12] (by decide) (fun _ => rfl) (fun v_59 u_59 hv_59 => ?_)
          subst hv_59
          refine ek_ret ?_
          refine ek_widen (k' := 4) (n' := 24) (Nat.le_of_ble_eq_true rfl) (Nat.le_of_ble_eq_true rfl) ?_
          exact ek_reti X () ⟨_, rfl, ⟨(by unfold xAddC; (repeat' split) <;> first | rfl | omega | (exfalso; omega)), rfl⟩⟩ rfl dX4_addChamber_62
        · skip
          exact ek_throwS (names := ["java/lang/RuntimeException", "java/lang/Exception"]) X hl hZ hT (by decide) (by decide) (List.mem_of_getElem? (i := 1) rfl) (List.mem_of_getElem? (i := 2) rfl) hZ.2.2.1.2.2.1 (vx_hat (fun w hw => X.1.2.2.2.2 _ (List.mem_cons_of_mem _ (List.mem_append_left _ (List.mem_append_right _ hw)))) (by decide +kernel) (vx_c (va_Nw.use rfl hZ.2.1.1.2.2) (vx_c (va_Nw.use rfl hZ.2.1.2.1) (vx_c (va_Nw.use rfl hZ.2.1.2.2.1) (vx_c (va_Nw.use rfl hZ.2.1.2.2.2) vx_n))))) (by decide +kernel) dX4_addChamber_42 dX4_addChamber_45 dX4_addChamber_46 dX4_addChamber_48 dX4_addChamber_51 (Nat.le_of_ble_eq_true rfl) (Nat.le_of_ble_eq_true rfl) ⟨Nat.le_of_ble_eq_true rfl, Nat.le_of_ble_eq_true rfl⟩ (Or.inr (⟨(by unfold xAddC; (repeat' split) <;> first | rfl | omega | (exfalso; omega)), rfl⟩)) ⟨Nat.le_of_ble_eq_true rfl, Nat.le_of_ble_eq_true rfl⟩
      · refine ek_top (v' := nI 0) (congrArg nI (if_neg c_24)) ?_
        exact ek_doXv X (ek_runSX (As := [.int (nI 0)]) (rest := []) X hZ (c_X4_requireArgument l hl D cI cJ cR 0 (by omega)) gX4_addChamber_X4_requireArgument rfl hd_X4_requireArgument ⟨Nat.le_of_ble_eq_true rfl, Nat.le_of_ble_eq_true rfl⟩ ⟨Nat.le_of_ble_eq_true rfl, Nat.le_of_ble_eq_true rfl⟩ [] rfl (by decide) (Nat.le_of_ble_eq_true rfl) dX4_addChamber_27) [0, 1, 2, 3, 4, 5, 6, 7, 8, 9, 10, 11, 12, 13, 14, 15, 16, 17, 18, 19, 20, 21, 22, 23, 24, 25, 26, 27, 28, 29, 30, 31, 32, 33, 34, 35, 36, 37] rfl (by decide) (fun E hE => ek_xout X hT (Or.inl (⟨(by unfold xAddC; (repeat' split) <;> first | rfl | omega | (exfalso; omega)), hE.2⟩)) ⟨Nat.le_of_ble_eq_true rfl, Nat.le_of_ble_eq_true rfl⟩) (fun hv => absurd hv (by decide))
    · refine ek_top (v' := nI 0) (congrArg nI (if_neg c_14)) ?_
      exact ek_doXv X (ek_runSX (As := [.int (nI 0)]) (rest := []) X hZ (c_X4_requireArgument l hl D cI cJ cR 0 (by omega)) gX4_addChamber_X4_requireArgument rfl hd_X4_requireArgument ⟨Nat.le_of_ble_eq_true rfl, Nat.le_of_ble_eq_true rfl⟩ ⟨Nat.le_of_ble_eq_true rfl, Nat.le_of_ble_eq_true rfl⟩ [] rfl (by decide) (Nat.le_of_ble_eq_true rfl) dX4_addChamber_17) [0, 1, 2, 3, 4, 5, 6, 7, 8, 9, 10, 11, 12, 13, 14, 15, 16, 17, 18, 19, 20, 21, 22, 23, 24, 25, 26, 27, 28, 29, 30, 31, 32, 33, 34, 35, 36, 37] rfl (by decide) (fun E hE => ek_xout X hT (Or.inl (⟨(by unfold xAddC; (repeat' split) <;> first | rfl | omega | (exfalso; omega)), hE.2⟩)) ⟨Nat.le_of_ble_eq_true rfl, Nat.le_of_ble_eq_true rfl⟩) (fun hv => absurd hv (by decide))
  · refine ek_top (v' := nI 0) (congrArg nI (if_neg c_4)) ?_
    exact ek_doXv X (ek_runSX (As := [.int (nI 0)]) (rest := []) X hZ (c_X4_requireArgument l hl D cI cJ cR 0 (by omega)) gX4_addChamber_X4_requireArgument rfl hd_X4_requireArgument ⟨Nat.le_of_ble_eq_true rfl, Nat.le_of_ble_eq_true rfl⟩ ⟨Nat.le_of_ble_eq_true rfl, Nat.le_of_ble_eq_true rfl⟩ [] rfl (by decide) (Nat.le_of_ble_eq_true rfl) dX4_addChamber_7) [0, 1, 2, 3, 4, 5, 6, 7, 8, 9, 10, 11, 12, 13, 14, 15, 16, 17, 18, 19, 20, 21, 22, 23, 24, 25, 26, 27, 28, 29, 30, 31, 32, 33, 34, 35, 36, 37] rfl (by decide) (fun E hE => ek_xout X hT (Or.inl (⟨(by unfold xAddC; (repeat' split) <;> first | rfl | omega | (exfalso; omega)), hE.2⟩)) ⟨Nat.le_of_ble_eq_true rfl, Nat.le_of_ble_eq_true rfl⟩) (fun hv => absurd hv (by decide))

theorem hin_X4_addPassage_X0 : ∀ x ∈ wsX00, x ∈ wsX4_addPassage := fun x h => List.mem_cons_of_mem _ (List.mem_append_left _ (List.mem_append_left _ (List.mem_append_left _ (List.mem_append_right _ h))))
theorem hin_X4_addPassage_X4 : ∀ x ∈ wsX40, x ∈ wsX4_addPassage := fun x h => List.mem_cons_of_mem _ (List.mem_append_left _ (List.mem_append_left _ (List.mem_append_left _ (List.mem_append_left _ (List.mem_append_right _ h)))))
abbrev rm_X4_addPassage : Room := { frames := 7, cells := 6, slots := 36, locals := 102 }
set_option maxHeartbeats 4000000 in
set_option maxRecDepth 100000 in
theorem c_X4_addPassage (l : Launch) (hl : l.stackTraces = false) (D : va_G) (cI cJ cR : ClassId) (ad : Nat → Nat) (cv : CavT) (g : SndT) (q : QueT) (u : CaveT) (h k : EchT) (hB : cOk u) (a : Nat) (b : Nat) (n : Nat) (w : Nat) (ha : a < 4294967296) (hb : b < 4294967296) (hn : n < 4294967296) (hw : w < 4294967296) : ek_MX (S := Unit) l yX4_addPassage wsX4_addPassage rm_X4_addPassage D (tyW cI cJ cR) nestW [.ref (ad 46), .int (nI a), .int (nI b), .int (nI n), .int (nI w)] (wV ad cI cJ cR cv g q u h k) (fun r9 _ => ∃ v : Int32, r9 = some (.int v) ∧ xAddP a b n w (cC u) (cP u) = 0 ∧ v = nI (cP u)) (fun _ => wV ad cI cJ cR cv g q (cPass u a b n w) h k) (fun E9 => (xAddP a b n w (cC u) (cP u) = 1 ∧ E9 = eIX) ∨ (xAddP a b n w (cC u) (cP u) = 2 ∧ E9 = eIA) ∨ (xAddP a b n w (cC u) (cP u) = 3 ∧ E9 = eIS)) := by
  refine ek_MX.of (cc := cX4_addPassage) (maxL := 5) (ret := (some .int)) (by decide) rfl (Nat.le_of_ble_eq_true rfl) ?_
  intro p9 e9 s9 m9 args9 below9 meth9 c9 A X hZ hT
  obtain ⟨⟨hC1, hC2⟩, hPs, hWt, bWal, bHgt, bBat, bSyl, bDel, bDrs, bFrm, bTo, bLen, bNar, bPb⟩ := id hB
  refine ek_castL (lv' := [(0, .ref (ad 46)), (1, .int (nI a)), (2, .int (nI b)), (3, .int (nI n)), (4, .int (nI w))]) rfl ?_
  refine ek_aln X 0 rfl dX4_addPassage_0 ?_
  refine ek_get X hin_X4_addPassage_X4 0 rfl rfl 0 (by decide) (List.mem_of_getElem? (i := 3) rfl) rfl dX4_addPassage_1 ?_
  refine ek_iln X 1 rfl dX4_addPassage_4 ?_
  refine ek_doRi (ek_runV (As := [.int (nI a)]) (rest := []) X (c_X0_hasChamberB l D cI cJ cR ad u hB a (by omega)) gX4_addPassage_X0_hasChamber rfl hdV_X0_hasChamber ⟨Nat.le_of_ble_eq_true rfl, Nat.le_of_ble_eq_true rfl⟩ ⟨Nat.le_of_ble_eq_true rfl, Nat.le_of_ble_eq_true rfl⟩ [7, 8, 9, 10, 11, 12, 13, 14, 15, 16, 17, 18, 19, 20, 21, 22, 23, 24, 25, 26, 27, 28, 29, 30, 31] rfl (by decide) 0 0 rfl rfl (Nat.le_of_ble_eq_true rfl) dX4_addPassage_5) (fun v_5 hv_5 => ?_)
  subst hv_5
  by_cases c_5 : a < cC u
  · refine ek_top (v' := nI 1) (congrArg nI (if_pos c_5)) ?_
    refine ek_doXv X (ek_runSX (As := [.int (nI 1)]) (rest := []) X hZ (c_X4_requireIndex l hl D cI cJ cR 1 (by omega)) gX4_addPassage_X4_requireIndex rfl hd_X4_requireIndex ⟨Nat.le_of_ble_eq_true rfl, Nat.le_of_ble_eq_true rfl⟩ ⟨Nat.le_of_ble_eq_true rfl, Nat.le_of_ble_eq_true rfl⟩ [] rfl (by decide) (Nat.le_of_ble_eq_true rfl) dX4_addPassage_8) [0, 1, 2, 3, 4, 5, 6, 7, 8, 9, 10, 11, 12, 13, 14, 15, 16, 17, 18, 19, 20, 21, 22, 23, 24, 25, 26, 27, 28, 29, 30, 31, 32, 33, 34, 35, 36, 37] rfl (by decide) (fun E hE => absurd hE.1 (by decide)) (fun _ => ?_)
    refine ek_aln X 0 rfl dX4_addPassage_11 ?_
    refine ek_get X hin_X4_addPassage_X4 0 rfl rfl 0 (by decide) (List.mem_of_getElem? (i := 3) rfl) rfl dX4_addPassage_12 ?_
    refine ek_iln X 2 rfl dX4_addPassage_15 ?_
    refine ek_doRi (ek_runV (As := [.int (nI b)]) (rest := []) X (c_X0_hasChamberB l D cI cJ cR ad u hB b (by omega)) gX4_addPassage_X0_hasChamber rfl hdV_X0_hasChamber ⟨Nat.le_of_ble_eq_true rfl, Nat.le_of_ble_eq_true rfl⟩ ⟨Nat.le_of_ble_eq_true rfl, Nat.le_of_ble_eq_true rfl⟩ [7, 8, 9, 10, 11, 12, 13, 14, 15, 16, 17, 18, 19, 20, 21, 22, 23, 24, 25, 26, 27, 28, 29, 30, 31] rfl (by decide) 0 0 rfl rfl (Nat.le_of_ble_eq_true rfl) dX4_addPassage_16) (fun v_16 hv_16 => ?_)
    subst hv_16
    by_cases c_16 : b < cC u
    · refine ek_top (v' := nI 1) (congrArg nI (if_pos c_16)) ?_
      refine ek_doXv X (ek_runSX (As := [.int (nI 1)]) (rest := []) X hZ (c_X4_requireIndex l hl D cI cJ cR 1 (by omega)) gX4_addPassage_X4_requireIndex rfl hd_X4_requireIndex ⟨Nat.le_of_ble_eq_true rfl, Nat.le_of_ble_eq_true rfl⟩ ⟨Nat.le_of_ble_eq_true rfl, Nat.le_of_ble_eq_true rfl⟩ [] rfl (by decide) (Nat.le_of_ble_eq_true rfl) dX4_addPassage_19) [0, 1, 2, 3, 4, 5, 6, 7, 8, 9, 10, 11, 12, 13, 14, 15, 16, 17, 18, 19, 20, 21, 22, 23, 24, 25, 26, 27, 28, 29, 30, 31, 32, 33, 34, 35, 36, 37] rfl (by decide) (fun E hE => absurd hE.1 (by decide)) (fun _ => ?_)
      refine ek_iln X 1 rfl dX4_addPassage_22 ?_
      refine ek_iln X 2 rfl dX4_addPassage_23 ?_
      refine ek_Neq X (by omega) (by omega) 31 (by decide) dX4_addPassage_24 (fun c_24 => ?_) (fun c_24 => ?_)
      · skip
        refine ek_ic (v := nI 0) X (by decide) dX4_addPassage_31 ?_
        exact ek_doXv X (ek_runSX (As := [.int (nI 0)]) (rest := []) X hZ (c_X4_requireArgument l hl D cI cJ cR 0 (by omega)) gX4_addPassage_X4_requireArgument rfl hd_X4_requireArgument ⟨Nat.le_of_ble_eq_true rfl, Nat.le_of_ble_eq_true rfl⟩ ⟨Nat.le_of_ble_eq_true rfl, Nat.le_of_ble_eq_true rfl⟩ [] rfl (by decide) (Nat.le_of_ble_eq_true rfl) dX4_addPassage_32) [0, 1, 2, 3, 4, 5, 6, 7, 8, 9, 10, 11, 12, 13, 14, 15, 16, 17, 18, 19, 20, 21, 22, 23, 24, 25, 26, 27, 28, 29, 30, 31, 32, 33, 34, 35, 36, 37] rfl (by decide) (fun E hE => ek_xout X hT (Or.inr (Or.inl (⟨(by unfold xAddP; (repeat' split) <;> first | rfl | omega | (exfalso; omega)), hE.2⟩))) ⟨Nat.le_of_ble_eq_true rfl, Nat.le_of_ble_eq_true rfl⟩) (fun hv => absurd hv (by decide))
      · skip
        refine ek_ic (v := nI 1) X (by decide) dX4_addPassage_27 ?_
        refine ek_goto X 32 (by decide) dX4_addPassage_28 ?_
        refine ek_doXv X (ek_runSX (As := [.int (nI 1)]) (rest := []) X hZ (c_X4_requireArgument l hl D cI cJ cR 1 (by omega)) gX4_addPassage_X4_requireArgument rfl hd_X4_requireArgument ⟨Nat.le_of_ble_eq_true rfl, Nat.le_of_ble_eq_true rfl⟩ ⟨Nat.le_of_ble_eq_true rfl, Nat.le_of_ble_eq_true rfl⟩ [] rfl (by decide) (Nat.le_of_ble_eq_true rfl) dX4_addPassage_32) [0, 1, 2, 3, 4, 5, 6, 7, 8, 9, 10, 11, 12, 13, 14, 15, 16, 17, 18, 19, 20, 21, 22, 23, 24, 25, 26, 27, 28, 29, 30, 31, 32, 33, 34, 35, 36, 37] rfl (by decide) (fun E hE => absurd hE.1 (by decide)) (fun _ => ?_)
        refine ek_iln X 3 rfl dX4_addPassage_35 ?_
        refine ek_ic (v := nI 1) X (by decide) dX4_addPassage_36 ?_
        refine ek_bp (v := nI 9) X (by decide) dX4_addPassage_37 ?_
        refine ek_doRi (ek_runS (As := [.int (nI n), .int (nI 1), .int (nI 9)]) (rest := []) X (c_X4_isWithinN l D cI cJ cR n 1 9 (by omega) (by omega) (by omega)) gX4_addPassage_X4_isWithin rfl hd_X4_isWithin ⟨Nat.le_of_ble_eq_true rfl, Nat.le_of_ble_eq_true rfl⟩ ⟨Nat.le_of_ble_eq_true rfl, Nat.le_of_ble_eq_true rfl⟩ [] rfl (by decide) (Nat.le_of_ble_eq_true rfl) dX4_addPassage_39) (fun v_39 hv_39 => ?_)
        subst hv_39
        by_cases c_39 : 1 ≤ n ∧ n ≤ 9
        · refine ek_top (v' := nI 1) (congrArg nI (if_pos c_39)) ?_
          refine ek_doXv X (ek_runSX (As := [.int (nI 1)]) (rest := []) X hZ (c_X4_requireArgument l hl D cI cJ cR 1 (by omega)) gX4_addPassage_X4_requireArgument rfl hd_X4_requireArgument ⟨Nat.le_of_ble_eq_true rfl, Nat.le_of_ble_eq_true rfl⟩ ⟨Nat.le_of_ble_eq_true rfl, Nat.le_of_ble_eq_true rfl⟩ [] rfl (by decide) (Nat.le_of_ble_eq_true rfl) dX4_addPassage_42) [0, 1, 2, 3, 4, 5, 6, 7, 8, 9, 10, 11, 12, 13, 14, 15, 16, 17, 18, 19, 20, 21, 22, 23, 24, 25, 26, 27, 28, 29, 30, 31, 32, 33, 34, 35, 36, 37] rfl (by decide) (fun E hE => absurd hE.1 (by decide)) (fun _ => ?_)
          refine ek_il X 4 rfl dX4_addPassage_45 ?_
          refine ek_ic (v := nI 0) X (by decide) dX4_addPassage_47 ?_
          refine ek_bp (v := nI 9) X (by decide) dX4_addPassage_48 ?_
          refine ek_doRi (ek_runS (As := [.int (nI w), .int (nI 0), .int (nI 9)]) (rest := []) X (c_X4_isWithinN l D cI cJ cR w 0 9 (by omega) (by omega) (by omega)) gX4_addPassage_X4_isWithin rfl hd_X4_isWithin ⟨Nat.le_of_ble_eq_true rfl, Nat.le_of_ble_eq_true rfl⟩ ⟨Nat.le_of_ble_eq_true rfl, Nat.le_of_ble_eq_true rfl⟩ [] rfl (by decide) (Nat.le_of_ble_eq_true rfl) dX4_addPassage_50) (fun v_50 hv_50 => ?_)
          subst hv_50
          by_cases c_50 : 0 ≤ w ∧ w ≤ 9
          · refine ek_top (v' := nI 1) (congrArg nI (if_pos c_50)) ?_
            refine ek_doXv X (ek_runSX (As := [.int (nI 1)]) (rest := []) X hZ (c_X4_requireArgument l hl D cI cJ cR 1 (by omega)) gX4_addPassage_X4_requireArgument rfl hd_X4_requireArgument ⟨Nat.le_of_ble_eq_true rfl, Nat.le_of_ble_eq_true rfl⟩ ⟨Nat.le_of_ble_eq_true rfl, Nat.le_of_ble_eq_true rfl⟩ [] rfl (by decide) (Nat.le_of_ble_eq_true rfl) dX4_addPassage_53) [0, 1, 2, 3, 4, 5, 6, 7, 8, 9, 10, 11, 12, 13, 14, 15, 16, 17, 18, 19, 20, 21, 22, 23, 24, 25, 26, 27, 28, 29, 30, 31, 32, 33, 34, 35, 36, 37] rfl (by decide) (fun E hE => absurd hE.1 (by decide)) (fun _ => ?_)
            refine ek_aln X 0 rfl dX4_addPassage_56 ?_
            refine ek_get X hin_X4_addPassage_X4 0 rfl rfl 0 (by decide) (List.mem_of_getElem? (i := 3) rfl) rfl dX4_addPassage_57 ?_
            refine ek_getN X hin_X4_addPassage_X0 7 rfl rfl 8 (by decide) (List.mem_of_getElem? (i := 8) rfl) rfl dX4_addPassage_60 ?_
            refine ek_bp (v := nI 18) X (by decide) dX4_addPassage_63 ?_
            refine ek_Nlt X (by omega) (by omega) 78 (by decide) dX4_addPassage_65 (fun c_65 => ?_) (fun c_65 => ?_)
            · skip
              refine ek_aln X 0 rfl dX4_addPassage_78 ?_
              refine ek_get X hin_X4_addPassage_X4 0 rfl rfl 0 (by decide) (List.mem_of_getElem? (i := 3) rfl) rfl dX4_addPassage_79 ?_
              refine ek_iln X 1 rfl dX4_addPassage_82 ?_
              refine ek_iln X 2 rfl dX4_addPassage_83 ?_
              refine ek_iln X 3 rfl dX4_addPassage_84 ?_
              refine ek_il X 4 rfl dX4_addPassage_85 ?_
              refine ek_doWi X (ek_runV (As := [.int (nI a), .int (nI b), .int (nI n), .int (nI w)]) (rest := []) X (c_X0_findPassage l D cI cJ cR ad u  hB a b n w (by omega) (by omega) (by omega) (by omega)) gX4_addPassage_X0_findPassage rfl hdV_X0_findPassage ⟨Nat.le_of_ble_eq_true rfl, Nat.le_of_ble_eq_true rfl⟩ ⟨Nat.le_of_ble_eq_true rfl, Nat.le_of_ble_eq_true rfl⟩ [7, 8, 9, 10, 11, 12, 13, 14, 15, 16, 17, 18, 19, 20, 21, 22, 23, 24, 25, 26, 27, 28, 29, 30, 31] rfl (by decide) 0 0 rfl rfl (Nat.le_of_ble_eq_true rfl) dX4_addPassage_87) [7, 8, 9, 10, 11, 12, 13, 14, 15, 16, 17, 18, 19, 20, 21, 22, 23, 24, 25, 26, 27, 28, 29, 30, 31] [0, 1, 2, 3, 4, 5, 6, 32, 33, 34, 35, 36, 37] rfl rfl (by decide) (by decide) (fun _ => wV ad cI cJ cR cv g q (cPass u a b n w) h k) [0, 1, 2, 3, 4, 5, 6, 13, 14, 15, 16, 17, 18, 19, 20, 21, 22, 23, 24, 25, 26, 27, 28, 29, 30, 31, 32, 33, 34, 35, 36, 37, 7, 8, 9, 10, 11, 12] (by decide) (fun _ => rfl) (fun v_87 u_87 hv_87 => ?_)
              subst hv_87
              refine ek_ret ?_
              refine ek_widen (k' := 6) (n' := 36) (Nat.le_of_ble_eq_true rfl) (Nat.le_of_ble_eq_true rfl) ?_
              exact ek_reti X () ⟨_, rfl, ⟨(by unfold xAddP; (repeat' split) <;> first | rfl | omega | (exfalso; omega)), rfl⟩⟩ rfl dX4_addPassage_90
            · skip
              exact ek_throwS (names := ["java/lang/RuntimeException", "java/lang/Exception"]) X hl hZ hT (by decide) (by decide) (List.mem_of_getElem? (i := 1) rfl) (List.mem_of_getElem? (i := 2) rfl) hZ.2.2.1.2.2.2 (vx_hat (fun w hw => X.1.2.2.2.2 _ (List.mem_cons_of_mem _ (List.mem_append_left _ (List.mem_append_left _ (List.mem_append_right _ hw))))) (by decide +kernel) (vx_c (va_Nw.use rfl hZ.2.1.1.2.2) (vx_c (va_Nw.use rfl hZ.2.1.2.1) (vx_c (va_Nw.use rfl hZ.2.1.2.2.1) (vx_c (va_Nw.use rfl hZ.2.1.2.2.2) vx_n))))) (by decide +kernel) dX4_addPassage_68 dX4_addPassage_71 dX4_addPassage_72 dX4_addPassage_74 dX4_addPassage_77 (Nat.le_of_ble_eq_true rfl) (Nat.le_of_ble_eq_true rfl) ⟨Nat.le_of_ble_eq_true rfl, Nat.le_of_ble_eq_true rfl⟩ (Or.inr (Or.inr (⟨(by unfold xAddP; (repeat' split) <;> first | rfl | omega | (exfalso; omega)), rfl⟩))) ⟨Nat.le_of_ble_eq_true rfl, Nat.le_of_ble_eq_true rfl⟩
          · refine ek_top (v' := nI 0) (congrArg nI (if_neg c_50)) ?_
            exact ek_doXv X (ek_runSX (As := [.int (nI 0)]) (rest := []) X hZ (c_X4_requireArgument l hl D cI cJ cR 0 (by omega)) gX4_addPassage_X4_requireArgument rfl hd_X4_requireArgument ⟨Nat.le_of_ble_eq_true rfl, Nat.le_of_ble_eq_true rfl⟩ ⟨Nat.le_of_ble_eq_true rfl, Nat.le_of_ble_eq_true rfl⟩ [] rfl (by decide) (Nat.le_of_ble_eq_true rfl) dX4_addPassage_53) [0, 1, 2, 3, 4, 5, 6, 7, 8, 9, 10, 11, 12, 13, 14, 15, 16, 17, 18, 19, 20, 21, 22, 23, 24, 25, 26, 27, 28, 29, 30, 31, 32, 33, 34, 35, 36, 37] rfl (by decide) (fun E hE => ek_xout X hT (Or.inr (Or.inl (⟨(by unfold xAddP; (repeat' split) <;> first | rfl | omega | (exfalso; omega)), hE.2⟩))) ⟨Nat.le_of_ble_eq_true rfl, Nat.le_of_ble_eq_true rfl⟩) (fun hv => absurd hv (by decide))
        · refine ek_top (v' := nI 0) (congrArg nI (if_neg c_39)) ?_
          exact ek_doXv X (ek_runSX (As := [.int (nI 0)]) (rest := []) X hZ (c_X4_requireArgument l hl D cI cJ cR 0 (by omega)) gX4_addPassage_X4_requireArgument rfl hd_X4_requireArgument ⟨Nat.le_of_ble_eq_true rfl, Nat.le_of_ble_eq_true rfl⟩ ⟨Nat.le_of_ble_eq_true rfl, Nat.le_of_ble_eq_true rfl⟩ [] rfl (by decide) (Nat.le_of_ble_eq_true rfl) dX4_addPassage_42) [0, 1, 2, 3, 4, 5, 6, 7, 8, 9, 10, 11, 12, 13, 14, 15, 16, 17, 18, 19, 20, 21, 22, 23, 24, 25, 26, 27, 28, 29, 30, 31, 32, 33, 34, 35, 36, 37] rfl (by decide) (fun E hE => ek_xout X hT (Or.inr (Or.inl (⟨(by unfold xAddP; (repeat' split) <;> first | rfl | omega | (exfalso; omega)), hE.2⟩))) ⟨Nat.le_of_ble_eq_true rfl, Nat.le_of_ble_eq_true rfl⟩) (fun hv => absurd hv (by decide))
    · refine ek_top (v' := nI 0) (congrArg nI (if_neg c_16)) ?_
      exact ek_doXv X (ek_runSX (As := [.int (nI 0)]) (rest := []) X hZ (c_X4_requireIndex l hl D cI cJ cR 0 (by omega)) gX4_addPassage_X4_requireIndex rfl hd_X4_requireIndex ⟨Nat.le_of_ble_eq_true rfl, Nat.le_of_ble_eq_true rfl⟩ ⟨Nat.le_of_ble_eq_true rfl, Nat.le_of_ble_eq_true rfl⟩ [] rfl (by decide) (Nat.le_of_ble_eq_true rfl) dX4_addPassage_19) [0, 1, 2, 3, 4, 5, 6, 7, 8, 9, 10, 11, 12, 13, 14, 15, 16, 17, 18, 19, 20, 21, 22, 23, 24, 25, 26, 27, 28, 29, 30, 31, 32, 33, 34, 35, 36, 37] rfl (by decide) (fun E hE => ek_xout X hT (Or.inl (⟨(by unfold xAddP; (repeat' split) <;> first | rfl | omega | (exfalso; omega)), hE.2⟩)) ⟨Nat.le_of_ble_eq_true rfl, Nat.le_of_ble_eq_true rfl⟩) (fun hv => absurd hv (by decide))
  · refine ek_top (v' := nI 0) (congrArg nI (if_neg c_5)) ?_
    exact ek_doXv X (ek_runSX (As := [.int (nI 0)]) (rest := []) X hZ (c_X4_requireIndex l hl D cI cJ cR 0 (by omega)) gX4_addPassage_X4_requireIndex rfl hd_X4_requireIndex ⟨Nat.le_of_ble_eq_true rfl, Nat.le_of_ble_eq_true rfl⟩ ⟨Nat.le_of_ble_eq_true rfl, Nat.le_of_ble_eq_true rfl⟩ [] rfl (by decide) (Nat.le_of_ble_eq_true rfl) dX4_addPassage_8) [0, 1, 2, 3, 4, 5, 6, 7, 8, 9, 10, 11, 12, 13, 14, 15, 16, 17, 18, 19, 20, 21, 22, 23, 24, 25, 26, 27, 28, 29, 30, 31, 32, 33, 34, 35, 36, 37] rfl (by decide) (fun E hE => ek_xout X hT (Or.inl (⟨(by unfold xAddP; (repeat' split) <;> first | rfl | omega | (exfalso; omega)), hE.2⟩)) ⟨Nat.le_of_ble_eq_true rfl, Nat.le_of_ble_eq_true rfl⟩) (fun hv => absurd hv (by decide))

theorem hin_X4_setWater_X0 : ∀ x ∈ wsX00, x ∈ wsX4_setWater := fun x h => List.mem_cons_of_mem _ (List.mem_append_left _ (List.mem_append_right _ h))
theorem hin_X4_setWater_X4 : ∀ x ∈ wsX40, x ∈ wsX4_setWater := fun x h => List.mem_cons_of_mem _ (List.mem_append_left _ (List.mem_append_left _ (List.mem_append_right _ h)))
abbrev rm_X4_setWater : Room := { frames := 7, cells := 1, slots := 6, locals := 102 }
set_option maxHeartbeats 4000000 in
set_option maxRecDepth 100000 in
theorem c_X4_setWater (l : Launch) (hl : l.stackTraces = false) (D : va_G) (cI cJ cR : ClassId) (ad : Nat → Nat) (cv : CavT) (g : SndT) (q : QueT) (u : CaveT) (h k : EchT) (hB : cOk u) (k9 : Nat) (hk9 : k9 < 4294967296) : ek_MX (S := Unit) l yX4_setWater wsX4_setWater rm_X4_setWater D (tyW cI cJ cR) nestW [.ref (ad 46), .int (nI k9)] (wV ad cI cJ cR cv g q u h k) (fun r9 _ => ∃ v : Int32, r9 = some (.int v) ∧ xSetW k9 = 0 ∧ v = nI (cW u)) (fun _ => wV ad cI cJ cR cv g q (cC u, cP u, k9, cWal u, cHgt u, cBat u, cSyl u, cDel u, cDrs u, cFrm u, cTo u, cLen u, cNar u, cPb u, cFnd u) h k) (fun E9 => (xSetW k9 = 1 ∧ E9 = eIA)) := by
  refine ek_MX.of (cc := cX4_setWater) (maxL := 3) (ret := (some .int)) (by decide) rfl (Nat.le_of_ble_eq_true rfl) ?_
  intro p9 e9 s9 m9 args9 below9 meth9 c9 A X hZ hT
  obtain ⟨⟨hC1, hC2⟩, hPs, hWt, bWal, bHgt, bBat, bSyl, bDel, bDrs, bFrm, bTo, bLen, bNar, bPb⟩ := id hB
  refine ek_castL (lv' := [(0, .ref (ad 46)), (1, .int (nI k9))]) rfl ?_
  refine ek_iln X 1 rfl dX4_setWater_0 ?_
  refine ek_ic (v := nI 0) X (by decide) dX4_setWater_1 ?_
  refine ek_bp (v := nI 30) X (by decide) dX4_setWater_2 ?_
  refine ek_doRi (ek_runS (As := [.int (nI k9), .int (nI 0), .int (nI 30)]) (rest := []) X (c_X4_isWithinN l D cI cJ cR k9 0 30 (by omega) (by omega) (by omega)) gX4_setWater_X4_isWithin rfl hd_X4_isWithin ⟨Nat.le_of_ble_eq_true rfl, Nat.le_of_ble_eq_true rfl⟩ ⟨Nat.le_of_ble_eq_true rfl, Nat.le_of_ble_eq_true rfl⟩ [] rfl (by decide) (Nat.le_of_ble_eq_true rfl) dX4_setWater_4) (fun v_4 hv_4 => ?_)
  subst hv_4
  by_cases c_4 : 0 ≤ k9 ∧ k9 ≤ 30
  · refine ek_top (v' := nI 1) (congrArg nI (if_pos c_4)) ?_
    refine ek_doXv X (ek_runSX (As := [.int (nI 1)]) (rest := []) X hZ (c_X4_requireArgument l hl D cI cJ cR 1 (by omega)) gX4_setWater_X4_requireArgument rfl hd_X4_requireArgument ⟨Nat.le_of_ble_eq_true rfl, Nat.le_of_ble_eq_true rfl⟩ ⟨Nat.le_of_ble_eq_true rfl, Nat.le_of_ble_eq_true rfl⟩ [] rfl (by decide) (Nat.le_of_ble_eq_true rfl) dX4_setWater_7) [0, 1, 2, 3, 4, 5, 6, 7, 8, 9, 10, 11, 12, 13, 14, 15, 16, 17, 18, 19, 20, 21, 22, 23, 24, 25, 26, 27, 28, 29, 30, 31, 32, 33, 34, 35, 36, 37] rfl (by decide) (fun E hE => absurd hE.1 (by decide)) (fun _ => ?_)
    refine ek_aln X 0 rfl dX4_setWater_10 ?_
    refine ek_get X hin_X4_setWater_X4 0 rfl rfl 0 (by decide) (List.mem_of_getElem? (i := 1) rfl) rfl dX4_setWater_11 ?_
    refine ek_getN X hin_X4_setWater_X0 7 rfl rfl 13 (by decide) (List.mem_of_getElem? (i := 12) rfl) rfl dX4_setWater_14 ?_
    refine ek_isn (lv' := [(2, .int (nI (cW u))), (0, .ref (ad 46)), (1, .int (nI k9))]) X (by decide) rfl dX4_setWater_17 ?_
    refine ek_aln X 1 rfl dX4_setWater_18 ?_
    refine ek_get X hin_X4_setWater_X4 0 rfl rfl 0 (by decide) (List.mem_of_getElem? (i := 1) rfl) rfl dX4_setWater_19 ?_
    refine ek_iln X 2 rfl dX4_setWater_22 ?_
    refine ek_putN (w' := wV ad cI cJ cR cv g q (cC u, cP u, k9, cWal u, cHgt u, cBat u, cSyl u, cDel u, cDrs u, cFrm u, cTo u, cLen u, cNar u, cPb u, cFnd u) h k) X hin_X4_setWater_X0 tyX0 tyX0_ok nmX0 7 rfl rfl 13 (by decide) (List.mem_of_getElem? (i := 12) rfl) rfl rfl rfl rfl (Nat.le_of_ble_eq_true rfl) rfl dX4_setWater_23 ?_
    refine ek_iln X 0 rfl dX4_setWater_26 ?_
    refine ek_ret ?_
    refine ek_widen (k' := 1) (n' := 6) (Nat.le_of_ble_eq_true rfl) (Nat.le_of_ble_eq_true rfl) ?_
    exact ek_reti X () ⟨_, rfl, ⟨(by unfold xSetW; (repeat' split) <;> first | rfl | omega | (exfalso; omega)), rfl⟩⟩ rfl dX4_setWater_27
  · refine ek_top (v' := nI 0) (congrArg nI (if_neg c_4)) ?_
    exact ek_doXv X (ek_runSX (As := [.int (nI 0)]) (rest := []) X hZ (c_X4_requireArgument l hl D cI cJ cR 0 (by omega)) gX4_setWater_X4_requireArgument rfl hd_X4_requireArgument ⟨Nat.le_of_ble_eq_true rfl, Nat.le_of_ble_eq_true rfl⟩ ⟨Nat.le_of_ble_eq_true rfl, Nat.le_of_ble_eq_true rfl⟩ [] rfl (by decide) (Nat.le_of_ble_eq_true rfl) dX4_setWater_7) [0, 1, 2, 3, 4, 5, 6, 7, 8, 9, 10, 11, 12, 13, 14, 15, 16, 17, 18, 19, 20, 21, 22, 23, 24, 25, 26, 27, 28, 29, 30, 31, 32, 33, 34, 35, 36, 37] rfl (by decide) (fun E hE => ek_xout X hT (⟨(by unfold xSetW; (repeat' split) <;> first | rfl | omega | (exfalso; omega)), hE.2⟩) ⟨Nat.le_of_ble_eq_true rfl, Nat.le_of_ble_eq_true rfl⟩) (fun hv => absurd hv (by decide))

theorem hin_X4_setBats_X0 : ∀ x ∈ wsX00, x ∈ wsX4_setBats := fun x h => List.mem_cons_of_mem _ (List.mem_append_left _ (List.mem_append_left _ (List.mem_append_right _ h)))
theorem hin_X4_setBats_X4 : ∀ x ∈ wsX40, x ∈ wsX4_setBats := fun x h => List.mem_cons_of_mem _ (List.mem_append_left _ (List.mem_append_left _ (List.mem_append_left _ (List.mem_append_right _ h))))
abbrev rm_X4_setBats : Room := { frames := 7, cells := 2, slots := 12, locals := 102 }
set_option maxHeartbeats 4000000 in
set_option maxRecDepth 100000 in
theorem c_X4_setBats (l : Launch) (hl : l.stackTraces = false) (D : va_G) (cI cJ cR : ClassId) (ad : Nat → Nat) (cv : CavT) (g : SndT) (q : QueT) (u : CaveT) (h k : EchT) (hB : cOk u) (c : Nat) (b : Nat) (hc : c < 4294967296) (hb : b < 4294967296) : ek_MX (S := Unit) l yX4_setBats wsX4_setBats rm_X4_setBats D (tyW cI cJ cR) nestW [.ref (ad 46), .int (nI c), .int (nI b)] (wV ad cI cJ cR cv g q u h k) (fun r9 _ => ∃ v : Int32, r9 = some (.int v) ∧ xSetB c b (cC u) = 0 ∧ v = nI (cBat u c)) (fun _ => wV ad cI cJ cR cv g q (cC u, cP u, cW u, cWal u, cHgt u, eN (cBat u) c b, cSyl u, cDel u, cDrs u, cFrm u, cTo u, cLen u, cNar u, cPb u, cFnd u) h k) (fun E9 => (xSetB c b (cC u) = 1 ∧ E9 = eIX) ∨ (xSetB c b (cC u) = 2 ∧ E9 = eIA)) := by
  refine ek_MX.of (cc := cX4_setBats) (maxL := 4) (ret := (some .int)) (by decide) rfl (Nat.le_of_ble_eq_true rfl) ?_
  intro p9 e9 s9 m9 args9 below9 meth9 c9 A X hZ hT
  obtain ⟨⟨hC1, hC2⟩, hPs, hWt, bWal, bHgt, bBat, bSyl, bDel, bDrs, bFrm, bTo, bLen, bNar, bPb⟩ := id hB
  refine ek_castL (lv' := [(0, .ref (ad 46)), (1, .int (nI c)), (2, .int (nI b))]) rfl ?_
  refine ek_aln X 0 rfl dX4_setBats_0 ?_
  refine ek_get X hin_X4_setBats_X4 0 rfl rfl 0 (by decide) (List.mem_of_getElem? (i := 1) rfl) rfl dX4_setBats_1 ?_
  refine ek_iln X 1 rfl dX4_setBats_4 ?_
  refine ek_doRi (ek_runV (As := [.int (nI c)]) (rest := []) X (c_X0_hasChamberB l D cI cJ cR ad u hB c (by omega)) gX4_setBats_X0_hasChamber rfl hdV_X0_hasChamber ⟨Nat.le_of_ble_eq_true rfl, Nat.le_of_ble_eq_true rfl⟩ ⟨Nat.le_of_ble_eq_true rfl, Nat.le_of_ble_eq_true rfl⟩ [7, 8, 9, 10, 11, 12, 13, 14, 15, 16, 17, 18, 19, 20, 21, 22, 23, 24, 25, 26, 27, 28, 29, 30, 31] rfl (by decide) 0 0 rfl rfl (Nat.le_of_ble_eq_true rfl) dX4_setBats_5) (fun v_5 hv_5 => ?_)
  subst hv_5
  by_cases c_5 : c < cC u
  · refine ek_top (v' := nI 1) (congrArg nI (if_pos c_5)) ?_
    refine ek_doXv X (ek_runSX (As := [.int (nI 1)]) (rest := []) X hZ (c_X4_requireIndex l hl D cI cJ cR 1 (by omega)) gX4_setBats_X4_requireIndex rfl hd_X4_requireIndex ⟨Nat.le_of_ble_eq_true rfl, Nat.le_of_ble_eq_true rfl⟩ ⟨Nat.le_of_ble_eq_true rfl, Nat.le_of_ble_eq_true rfl⟩ [] rfl (by decide) (Nat.le_of_ble_eq_true rfl) dX4_setBats_8) [0, 1, 2, 3, 4, 5, 6, 7, 8, 9, 10, 11, 12, 13, 14, 15, 16, 17, 18, 19, 20, 21, 22, 23, 24, 25, 26, 27, 28, 29, 30, 31, 32, 33, 34, 35, 36, 37] rfl (by decide) (fun E hE => absurd hE.1 (by decide)) (fun _ => ?_)
    refine ek_iln X 2 rfl dX4_setBats_11 ?_
    refine ek_ic (v := nI 0) X (by decide) dX4_setBats_12 ?_
    refine ek_bp (v := nI 20) X (by decide) dX4_setBats_13 ?_
    refine ek_doRi (ek_runS (As := [.int (nI b), .int (nI 0), .int (nI 20)]) (rest := []) X (c_X4_isWithinN l D cI cJ cR b 0 20 (by omega) (by omega) (by omega)) gX4_setBats_X4_isWithin rfl hd_X4_isWithin ⟨Nat.le_of_ble_eq_true rfl, Nat.le_of_ble_eq_true rfl⟩ ⟨Nat.le_of_ble_eq_true rfl, Nat.le_of_ble_eq_true rfl⟩ [] rfl (by decide) (Nat.le_of_ble_eq_true rfl) dX4_setBats_15) (fun v_15 hv_15 => ?_)
    subst hv_15
    by_cases c_15 : 0 ≤ b ∧ b ≤ 20
    · refine ek_top (v' := nI 1) (congrArg nI (if_pos c_15)) ?_
      refine ek_doXv X (ek_runSX (As := [.int (nI 1)]) (rest := []) X hZ (c_X4_requireArgument l hl D cI cJ cR 1 (by omega)) gX4_setBats_X4_requireArgument rfl hd_X4_requireArgument ⟨Nat.le_of_ble_eq_true rfl, Nat.le_of_ble_eq_true rfl⟩ ⟨Nat.le_of_ble_eq_true rfl, Nat.le_of_ble_eq_true rfl⟩ [] rfl (by decide) (Nat.le_of_ble_eq_true rfl) dX4_setBats_18) [0, 1, 2, 3, 4, 5, 6, 7, 8, 9, 10, 11, 12, 13, 14, 15, 16, 17, 18, 19, 20, 21, 22, 23, 24, 25, 26, 27, 28, 29, 30, 31, 32, 33, 34, 35, 36, 37] rfl (by decide) (fun E hE => absurd hE.1 (by decide)) (fun _ => ?_)
      refine ek_aln X 0 rfl dX4_setBats_21 ?_
      refine ek_get X hin_X4_setBats_X4 0 rfl rfl 0 (by decide) (List.mem_of_getElem? (i := 1) rfl) rfl dX4_setBats_22 ?_
      refine ek_getN X hin_X4_setBats_X0 7 rfl rfl 3 (by decide) (List.mem_of_getElem? (i := 1) rfl) rfl dX4_setBats_25 ?_
      refine ek_iln X 1 rfl dX4_setBats_28 ?_
      refine ek_ald X 10 0 rfl rfl (by omega) (by omega) dX4_setBats_29 ?_
      have b1_29 := bBat c
      refine ek_isn (lv' := [(3, .int (nI ((cBat u) c))), (0, .ref (ad 46)), (1, .int (nI c)), (2, .int (nI b))]) X (by decide) rfl dX4_setBats_30 ?_
      refine ek_aln X 1 rfl dX4_setBats_31 ?_
      refine ek_get X hin_X4_setBats_X4 0 rfl rfl 0 (by decide) (List.mem_of_getElem? (i := 1) rfl) rfl dX4_setBats_32 ?_
      refine ek_getN X hin_X4_setBats_X0 7 rfl rfl 3 (by decide) (List.mem_of_getElem? (i := 1) rfl) rfl dX4_setBats_35 ?_
      refine ek_iln X 2 rfl dX4_setBats_38 ?_
      refine ek_iln X 3 rfl dX4_setBats_39 ?_
      refine ek_Nast (w' := wV ad cI cJ cR cv g q (cC u, cP u, cW u, cWal u, cHgt u, eN (cBat u) c b, cSyl u, cDel u, cDrs u, cFrm u, cTo u, cLen u, cNar u, cPb u, cFnd u) h k) X 10 0 rfl rfl (by omega) (by omega) rfl dX4_setBats_40 ?_
      refine ek_iln X 0 rfl dX4_setBats_41 ?_
      refine ek_ret ?_
      refine ek_widen (k' := 2) (n' := 12) (Nat.le_of_ble_eq_true rfl) (Nat.le_of_ble_eq_true rfl) ?_
      exact ek_reti X () ⟨_, rfl, ⟨(by unfold xSetB; (repeat' split) <;> first | rfl | omega | (exfalso; omega)), rfl⟩⟩ rfl dX4_setBats_42
    · refine ek_top (v' := nI 0) (congrArg nI (if_neg c_15)) ?_
      exact ek_doXv X (ek_runSX (As := [.int (nI 0)]) (rest := []) X hZ (c_X4_requireArgument l hl D cI cJ cR 0 (by omega)) gX4_setBats_X4_requireArgument rfl hd_X4_requireArgument ⟨Nat.le_of_ble_eq_true rfl, Nat.le_of_ble_eq_true rfl⟩ ⟨Nat.le_of_ble_eq_true rfl, Nat.le_of_ble_eq_true rfl⟩ [] rfl (by decide) (Nat.le_of_ble_eq_true rfl) dX4_setBats_18) [0, 1, 2, 3, 4, 5, 6, 7, 8, 9, 10, 11, 12, 13, 14, 15, 16, 17, 18, 19, 20, 21, 22, 23, 24, 25, 26, 27, 28, 29, 30, 31, 32, 33, 34, 35, 36, 37] rfl (by decide) (fun E hE => ek_xout X hT (Or.inr (⟨(by unfold xSetB; (repeat' split) <;> first | rfl | omega | (exfalso; omega)), hE.2⟩)) ⟨Nat.le_of_ble_eq_true rfl, Nat.le_of_ble_eq_true rfl⟩) (fun hv => absurd hv (by decide))
  · refine ek_top (v' := nI 0) (congrArg nI (if_neg c_5)) ?_
    exact ek_doXv X (ek_runSX (As := [.int (nI 0)]) (rest := []) X hZ (c_X4_requireIndex l hl D cI cJ cR 0 (by omega)) gX4_setBats_X4_requireIndex rfl hd_X4_requireIndex ⟨Nat.le_of_ble_eq_true rfl, Nat.le_of_ble_eq_true rfl⟩ ⟨Nat.le_of_ble_eq_true rfl, Nat.le_of_ble_eq_true rfl⟩ [] rfl (by decide) (Nat.le_of_ble_eq_true rfl) dX4_setBats_8) [0, 1, 2, 3, 4, 5, 6, 7, 8, 9, 10, 11, 12, 13, 14, 15, 16, 17, 18, 19, 20, 21, 22, 23, 24, 25, 26, 27, 28, 29, 30, 31, 32, 33, 34, 35, 36, 37] rfl (by decide) (fun E hE => ek_xout X hT (Or.inl (⟨(by unfold xSetB; (repeat' split) <;> first | rfl | omega | (exfalso; omega)), hE.2⟩)) ⟨Nat.le_of_ble_eq_true rfl, Nat.le_of_ble_eq_true rfl⟩) (fun hv => absurd hv (by decide))

theorem hin_X4_setClapper_X0 : ∀ x ∈ wsX00, x ∈ wsX4_setClapper := fun x h => List.mem_cons_of_mem _ (List.mem_append_left _ (List.mem_append_left _ (List.mem_append_right _ h)))
theorem hin_X4_setClapper_X4 : ∀ x ∈ wsX40, x ∈ wsX4_setClapper := fun x h => List.mem_cons_of_mem _ (List.mem_append_left _ (List.mem_append_left _ (List.mem_append_left _ (List.mem_append_right _ h))))
abbrev rm_X4_setClapper : Room := { frames := 7, cells := 4, slots := 24, locals := 102 }
set_option maxHeartbeats 4000000 in
set_option maxRecDepth 100000 in
theorem c_X4_setClapper (l : Launch) (hl : l.stackTraces = false) (D : va_G) (cI cJ cR : ClassId) (ad : Nat → Nat) (cv : CavT) (g : SndT) (q : QueT) (u : CaveT) (h k : EchT) (hB : cOk u) (c : Nat) (y : Nat) (d : Nat) (hc : c < 4294967296) (hy : y < 4294967296) (hd : d < 4294967296) : ek_MX (S := Unit) l yX4_setClapper wsX4_setClapper rm_X4_setClapper D (tyW cI cJ cR) nestW [.ref (ad 46), .int (nI c), .int (nI y), .int (nI d)] (wV ad cI cJ cR cv g q u h k) (fun r9 _ => ∃ v : Int32, r9 = some (.int v) ∧ xSetC c y d (cC u) = 0 ∧ v = nI (cSyl u c)) (fun _ => wV ad cI cJ cR cv g q (cClap u c y d) h k) (fun E9 => (xSetC c y d (cC u) = 1 ∧ E9 = eIX) ∨ (xSetC c y d (cC u) = 2 ∧ E9 = eIA)) := by
  refine ek_MX.of (cc := cX4_setClapper) (maxL := 5) (ret := (some .int)) (by decide) rfl (Nat.le_of_ble_eq_true rfl) ?_
  intro p9 e9 s9 m9 args9 below9 meth9 c9 A X hZ hT
  obtain ⟨⟨hC1, hC2⟩, hPs, hWt, bWal, bHgt, bBat, bSyl, bDel, bDrs, bFrm, bTo, bLen, bNar, bPb⟩ := id hB
  refine ek_castL (lv' := [(0, .ref (ad 46)), (1, .int (nI c)), (2, .int (nI y)), (3, .int (nI d))]) rfl ?_
  refine ek_aln X 0 rfl dX4_setClapper_0 ?_
  refine ek_get X hin_X4_setClapper_X4 0 rfl rfl 0 (by decide) (List.mem_of_getElem? (i := 1) rfl) rfl dX4_setClapper_1 ?_
  refine ek_iln X 1 rfl dX4_setClapper_4 ?_
  refine ek_doRi (ek_runV (As := [.int (nI c)]) (rest := []) X (c_X0_hasChamberB l D cI cJ cR ad u hB c (by omega)) gX4_setClapper_X0_hasChamber rfl hdV_X0_hasChamber ⟨Nat.le_of_ble_eq_true rfl, Nat.le_of_ble_eq_true rfl⟩ ⟨Nat.le_of_ble_eq_true rfl, Nat.le_of_ble_eq_true rfl⟩ [7, 8, 9, 10, 11, 12, 13, 14, 15, 16, 17, 18, 19, 20, 21, 22, 23, 24, 25, 26, 27, 28, 29, 30, 31] rfl (by decide) 0 0 rfl rfl (Nat.le_of_ble_eq_true rfl) dX4_setClapper_5) (fun v_5 hv_5 => ?_)
  subst hv_5
  by_cases c_5 : c < cC u
  · refine ek_top (v' := nI 1) (congrArg nI (if_pos c_5)) ?_
    refine ek_doXv X (ek_runSX (As := [.int (nI 1)]) (rest := []) X hZ (c_X4_requireIndex l hl D cI cJ cR 1 (by omega)) gX4_setClapper_X4_requireIndex rfl hd_X4_requireIndex ⟨Nat.le_of_ble_eq_true rfl, Nat.le_of_ble_eq_true rfl⟩ ⟨Nat.le_of_ble_eq_true rfl, Nat.le_of_ble_eq_true rfl⟩ [] rfl (by decide) (Nat.le_of_ble_eq_true rfl) dX4_setClapper_8) [0, 1, 2, 3, 4, 5, 6, 7, 8, 9, 10, 11, 12, 13, 14, 15, 16, 17, 18, 19, 20, 21, 22, 23, 24, 25, 26, 27, 28, 29, 30, 31, 32, 33, 34, 35, 36, 37] rfl (by decide) (fun E hE => absurd hE.1 (by decide)) (fun _ => ?_)
    refine ek_iln X 1 rfl dX4_setClapper_11 ?_
    refine ek_Zeq X (by omega) 19 (by decide) dX4_setClapper_12 (fun c_12 => ?_) (fun c_12 => ?_)
    · skip
      refine ek_ic (v := nI 0) X (by decide) dX4_setClapper_19 ?_
      exact ek_doXv X (ek_runSX (As := [.int (nI 0)]) (rest := []) X hZ (c_X4_requireArgument l hl D cI cJ cR 0 (by omega)) gX4_setClapper_X4_requireArgument rfl hd_X4_requireArgument ⟨Nat.le_of_ble_eq_true rfl, Nat.le_of_ble_eq_true rfl⟩ ⟨Nat.le_of_ble_eq_true rfl, Nat.le_of_ble_eq_true rfl⟩ [] rfl (by decide) (Nat.le_of_ble_eq_true rfl) dX4_setClapper_20) [0, 1, 2, 3, 4, 5, 6, 7, 8, 9, 10, 11, 12, 13, 14, 15, 16, 17, 18, 19, 20, 21, 22, 23, 24, 25, 26, 27, 28, 29, 30, 31, 32, 33, 34, 35, 36, 37] rfl (by decide) (fun E hE => ek_xout X hT (Or.inr (⟨(by unfold xSetC; (repeat' split) <;> first | rfl | omega | (exfalso; omega)), hE.2⟩)) ⟨Nat.le_of_ble_eq_true rfl, Nat.le_of_ble_eq_true rfl⟩) (fun hv => absurd hv (by decide))
    · skip
      refine ek_ic (v := nI 1) X (by decide) dX4_setClapper_15 ?_
      refine ek_goto X 20 (by decide) dX4_setClapper_16 ?_
      refine ek_doXv X (ek_runSX (As := [.int (nI 1)]) (rest := []) X hZ (c_X4_requireArgument l hl D cI cJ cR 1 (by omega)) gX4_setClapper_X4_requireArgument rfl hd_X4_requireArgument ⟨Nat.le_of_ble_eq_true rfl, Nat.le_of_ble_eq_true rfl⟩ ⟨Nat.le_of_ble_eq_true rfl, Nat.le_of_ble_eq_true rfl⟩ [] rfl (by decide) (Nat.le_of_ble_eq_true rfl) dX4_setClapper_20) [0, 1, 2, 3, 4, 5, 6, 7, 8, 9, 10, 11, 12, 13, 14, 15, 16, 17, 18, 19, 20, 21, 22, 23, 24, 25, 26, 27, 28, 29, 30, 31, 32, 33, 34, 35, 36, 37] rfl (by decide) (fun E hE => absurd hE.1 (by decide)) (fun _ => ?_)
      refine ek_iln X 2 rfl dX4_setClapper_23 ?_
      refine ek_ic (v := nI 0) X (by decide) dX4_setClapper_24 ?_
      refine ek_bp (v := nI 9) X (by decide) dX4_setClapper_25 ?_
      refine ek_doRi (ek_runS (As := [.int (nI y), .int (nI 0), .int (nI 9)]) (rest := []) X (c_X4_isWithinN l D cI cJ cR y 0 9 (by omega) (by omega) (by omega)) gX4_setClapper_X4_isWithin rfl hd_X4_isWithin ⟨Nat.le_of_ble_eq_true rfl, Nat.le_of_ble_eq_true rfl⟩ ⟨Nat.le_of_ble_eq_true rfl, Nat.le_of_ble_eq_true rfl⟩ [] rfl (by decide) (Nat.le_of_ble_eq_true rfl) dX4_setClapper_27) (fun v_27 hv_27 => ?_)
      subst hv_27
      by_cases c_27 : 0 ≤ y ∧ y ≤ 9
      · refine ek_top (v' := nI 1) (congrArg nI (if_pos c_27)) ?_
        refine ek_doXv X (ek_runSX (As := [.int (nI 1)]) (rest := []) X hZ (c_X4_requireArgument l hl D cI cJ cR 1 (by omega)) gX4_setClapper_X4_requireArgument rfl hd_X4_requireArgument ⟨Nat.le_of_ble_eq_true rfl, Nat.le_of_ble_eq_true rfl⟩ ⟨Nat.le_of_ble_eq_true rfl, Nat.le_of_ble_eq_true rfl⟩ [] rfl (by decide) (Nat.le_of_ble_eq_true rfl) dX4_setClapper_30) [0, 1, 2, 3, 4, 5, 6, 7, 8, 9, 10, 11, 12, 13, 14, 15, 16, 17, 18, 19, 20, 21, 22, 23, 24, 25, 26, 27, 28, 29, 30, 31, 32, 33, 34, 35, 36, 37] rfl (by decide) (fun E hE => absurd hE.1 (by decide)) (fun _ => ?_)
        refine ek_iln X 3 rfl dX4_setClapper_33 ?_
        refine ek_ic (v := nI 0) X (by decide) dX4_setClapper_34 ?_
        refine ek_bp (v := nI 20) X (by decide) dX4_setClapper_35 ?_
        refine ek_doRi (ek_runS (As := [.int (nI d), .int (nI 0), .int (nI 20)]) (rest := []) X (c_X4_isWithinN l D cI cJ cR d 0 20 (by omega) (by omega) (by omega)) gX4_setClapper_X4_isWithin rfl hd_X4_isWithin ⟨Nat.le_of_ble_eq_true rfl, Nat.le_of_ble_eq_true rfl⟩ ⟨Nat.le_of_ble_eq_true rfl, Nat.le_of_ble_eq_true rfl⟩ [] rfl (by decide) (Nat.le_of_ble_eq_true rfl) dX4_setClapper_37) (fun v_37 hv_37 => ?_)
        subst hv_37
        by_cases c_37 : 0 ≤ d ∧ d ≤ 20
        · refine ek_top (v' := nI 1) (congrArg nI (if_pos c_37)) ?_
          refine ek_doXv X (ek_runSX (As := [.int (nI 1)]) (rest := []) X hZ (c_X4_requireArgument l hl D cI cJ cR 1 (by omega)) gX4_setClapper_X4_requireArgument rfl hd_X4_requireArgument ⟨Nat.le_of_ble_eq_true rfl, Nat.le_of_ble_eq_true rfl⟩ ⟨Nat.le_of_ble_eq_true rfl, Nat.le_of_ble_eq_true rfl⟩ [] rfl (by decide) (Nat.le_of_ble_eq_true rfl) dX4_setClapper_40) [0, 1, 2, 3, 4, 5, 6, 7, 8, 9, 10, 11, 12, 13, 14, 15, 16, 17, 18, 19, 20, 21, 22, 23, 24, 25, 26, 27, 28, 29, 30, 31, 32, 33, 34, 35, 36, 37] rfl (by decide) (fun E hE => absurd hE.1 (by decide)) (fun _ => ?_)
          refine ek_aln X 0 rfl dX4_setClapper_43 ?_
          refine ek_get X hin_X4_setClapper_X4 0 rfl rfl 0 (by decide) (List.mem_of_getElem? (i := 1) rfl) rfl dX4_setClapper_44 ?_
          refine ek_getN X hin_X4_setClapper_X0 7 rfl rfl 4 (by decide) (List.mem_of_getElem? (i := 3) rfl) rfl dX4_setClapper_47 ?_
          refine ek_iln X 1 rfl dX4_setClapper_50 ?_
          refine ek_ald X 11 0 rfl rfl (by omega) (by omega) dX4_setClapper_51 ?_
          have b1_51 := bSyl c
          refine ek_is (lv' := [(4, .int (nI ((cSyl u) c))), (0, .ref (ad 46)), (1, .int (nI c)), (2, .int (nI y)), (3, .int (nI d))]) X (by decide) rfl dX4_setClapper_52 ?_
          refine ek_aln X 1 rfl dX4_setClapper_54 ?_
          refine ek_get X hin_X4_setClapper_X4 0 rfl rfl 0 (by decide) (List.mem_of_getElem? (i := 1) rfl) rfl dX4_setClapper_55 ?_
          refine ek_iln X 2 rfl dX4_setClapper_58 ?_
          refine ek_iln X 3 rfl dX4_setClapper_59 ?_
          refine ek_iln X 4 rfl dX4_setClapper_60 ?_
          refine ek_doWv X (ek_runV (As := [.int (nI c), .int (nI y), .int (nI d)]) (rest := []) X (c_X0_putClapper l D cI cJ cR ad u c y d (by omega) (by omega)) gX4_setClapper_X0_putClapper rfl hdV_X0_putClapper ⟨Nat.le_of_ble_eq_true rfl, Nat.le_of_ble_eq_true rfl⟩ ⟨Nat.le_of_ble_eq_true rfl, Nat.le_of_ble_eq_true rfl⟩ [7, 8, 9, 10, 11, 12, 13, 14, 15, 16, 17, 18, 19, 20, 21, 22, 23, 24, 25, 26, 27, 28, 29, 30, 31] rfl (by decide) 0 0 rfl rfl (Nat.le_of_ble_eq_true rfl) dX4_setClapper_61) [7, 8, 9, 10, 11, 12, 13, 14, 15, 16, 17, 18, 19, 20, 21, 22, 23, 24, 25, 26, 27, 28, 29, 30, 31] [0, 1, 2, 3, 4, 5, 6, 32, 33, 34, 35, 36, 37] rfl rfl (by decide) (by decide) (fun _ => wV ad cI cJ cR cv g q (cClap u c y d) h k) [0, 1, 2, 3, 4, 5, 6, 13, 14, 15, 16, 17, 18, 19, 20, 21, 22, 23, 24, 25, 26, 27, 28, 29, 30, 31, 32, 33, 34, 35, 36, 37, 7, 8, 9, 10, 11, 12] (by decide) (fun _ => rfl) (fun u_61 hv_61 => ?_)
          refine ek_il X 0 rfl dX4_setClapper_64 ?_
          refine ek_ret ?_
          refine ek_widen (k' := 4) (n' := 24) (Nat.le_of_ble_eq_true rfl) (Nat.le_of_ble_eq_true rfl) ?_
          exact ek_reti X () ⟨_, rfl, ⟨(by unfold xSetC; (repeat' split) <;> first | rfl | omega | (exfalso; omega)), rfl⟩⟩ rfl dX4_setClapper_66
        · refine ek_top (v' := nI 0) (congrArg nI (if_neg c_37)) ?_
          exact ek_doXv X (ek_runSX (As := [.int (nI 0)]) (rest := []) X hZ (c_X4_requireArgument l hl D cI cJ cR 0 (by omega)) gX4_setClapper_X4_requireArgument rfl hd_X4_requireArgument ⟨Nat.le_of_ble_eq_true rfl, Nat.le_of_ble_eq_true rfl⟩ ⟨Nat.le_of_ble_eq_true rfl, Nat.le_of_ble_eq_true rfl⟩ [] rfl (by decide) (Nat.le_of_ble_eq_true rfl) dX4_setClapper_40) [0, 1, 2, 3, 4, 5, 6, 7, 8, 9, 10, 11, 12, 13, 14, 15, 16, 17, 18, 19, 20, 21, 22, 23, 24, 25, 26, 27, 28, 29, 30, 31, 32, 33, 34, 35, 36, 37] rfl (by decide) (fun E hE => ek_xout X hT (Or.inr (⟨(by unfold xSetC; (repeat' split) <;> first | rfl | omega | (exfalso; omega)), hE.2⟩)) ⟨Nat.le_of_ble_eq_true rfl, Nat.le_of_ble_eq_true rfl⟩) (fun hv => absurd hv (by decide))
      · refine ek_top (v' := nI 0) (congrArg nI (if_neg c_27)) ?_
        exact ek_doXv X (ek_runSX (As := [.int (nI 0)]) (rest := []) X hZ (c_X4_requireArgument l hl D cI cJ cR 0 (by omega)) gX4_setClapper_X4_requireArgument rfl hd_X4_requireArgument ⟨Nat.le_of_ble_eq_true rfl, Nat.le_of_ble_eq_true rfl⟩ ⟨Nat.le_of_ble_eq_true rfl, Nat.le_of_ble_eq_true rfl⟩ [] rfl (by decide) (Nat.le_of_ble_eq_true rfl) dX4_setClapper_30) [0, 1, 2, 3, 4, 5, 6, 7, 8, 9, 10, 11, 12, 13, 14, 15, 16, 17, 18, 19, 20, 21, 22, 23, 24, 25, 26, 27, 28, 29, 30, 31, 32, 33, 34, 35, 36, 37] rfl (by decide) (fun E hE => ek_xout X hT (Or.inr (⟨(by unfold xSetC; (repeat' split) <;> first | rfl | omega | (exfalso; omega)), hE.2⟩)) ⟨Nat.le_of_ble_eq_true rfl, Nat.le_of_ble_eq_true rfl⟩) (fun hv => absurd hv (by decide))
  · refine ek_top (v' := nI 0) (congrArg nI (if_neg c_5)) ?_
    exact ek_doXv X (ek_runSX (As := [.int (nI 0)]) (rest := []) X hZ (c_X4_requireIndex l hl D cI cJ cR 0 (by omega)) gX4_setClapper_X4_requireIndex rfl hd_X4_requireIndex ⟨Nat.le_of_ble_eq_true rfl, Nat.le_of_ble_eq_true rfl⟩ ⟨Nat.le_of_ble_eq_true rfl, Nat.le_of_ble_eq_true rfl⟩ [] rfl (by decide) (Nat.le_of_ble_eq_true rfl) dX4_setClapper_8) [0, 1, 2, 3, 4, 5, 6, 7, 8, 9, 10, 11, 12, 13, 14, 15, 16, 17, 18, 19, 20, 21, 22, 23, 24, 25, 26, 27, 28, 29, 30, 31, 32, 33, 34, 35, 36, 37] rfl (by decide) (fun E hE => ek_xout X hT (Or.inl (⟨(by unfold xSetC; (repeat' split) <;> first | rfl | omega | (exfalso; omega)), hE.2⟩)) ⟨Nat.le_of_ble_eq_true rfl, Nat.le_of_ble_eq_true rfl⟩) (fun hv => absurd hv (by decide))

theorem hin_X4_setEar_X4 : ∀ x ∈ wsX40, x ∈ wsX4_setEar := fun x h => List.mem_cons_of_mem _ (List.mem_append_left _ (List.mem_append_right _ h))
abbrev rm_X4_setEar : Room := { frames := 7, cells := 1, slots := 6, locals := 102 }
set_option maxHeartbeats 4000000 in
set_option maxRecDepth 100000 in
theorem c_X4_setEar (l : Launch) (hl : l.stackTraces = false) (D : va_G) (cI cJ cR : ClassId) (ad : Nat → Nat) (cv : CavT) (g : SndT) (q : QueT) (u : CaveT) (h k : EchT) (hB : cOk u) (k9 : Nat) (hk9 : k9 < 4294967296) : ek_MX (S := Unit) l yX4_setEar wsX4_setEar rm_X4_setEar D (tyW cI cJ cR) nestW [.ref (ad 46), .int (nI k9)] (wV ad cI cJ cR cv g q u h k) (fun r9 _ => ∃ v : Int32, r9 = some (.int v) ∧ xSetE k9 = 0 ∧ v = nI (vEar cv)) (fun _ => wV ad cI cJ cR (k9, vSaid cv, vWord cv) g q u h k) (fun E9 => (xSetE k9 = 1 ∧ E9 = eIA)) := by
  refine ek_MX.of (cc := cX4_setEar) (maxL := 3) (ret := (some .int)) (by decide) rfl (Nat.le_of_ble_eq_true rfl) ?_
  intro p9 e9 s9 m9 args9 below9 meth9 c9 A X hZ hT
  obtain ⟨⟨hC1, hC2⟩, hPs, hWt, bWal, bHgt, bBat, bSyl, bDel, bDrs, bFrm, bTo, bLen, bNar, bPb⟩ := id hB
  refine ek_castL (lv' := [(0, .ref (ad 46)), (1, .int (nI k9))]) rfl ?_
  refine ek_iln X 1 rfl dX4_setEar_0 ?_
  refine ek_ic (v := nI 1) X (by decide) dX4_setEar_1 ?_
  refine ek_bp (v := nI 50) X (by decide) dX4_setEar_2 ?_
  refine ek_doRi (ek_runS (As := [.int (nI k9), .int (nI 1), .int (nI 50)]) (rest := []) X (c_X4_isWithinN l D cI cJ cR k9 1 50 (by omega) (by omega) (by omega)) gX4_setEar_X4_isWithin rfl hd_X4_isWithin ⟨Nat.le_of_ble_eq_true rfl, Nat.le_of_ble_eq_true rfl⟩ ⟨Nat.le_of_ble_eq_true rfl, Nat.le_of_ble_eq_true rfl⟩ [] rfl (by decide) (Nat.le_of_ble_eq_true rfl) dX4_setEar_4) (fun v_4 hv_4 => ?_)
  subst hv_4
  by_cases c_4 : 1 ≤ k9 ∧ k9 ≤ 50
  · refine ek_top (v' := nI 1) (congrArg nI (if_pos c_4)) ?_
    refine ek_doXv X (ek_runSX (As := [.int (nI 1)]) (rest := []) X hZ (c_X4_requireArgument l hl D cI cJ cR 1 (by omega)) gX4_setEar_X4_requireArgument rfl hd_X4_requireArgument ⟨Nat.le_of_ble_eq_true rfl, Nat.le_of_ble_eq_true rfl⟩ ⟨Nat.le_of_ble_eq_true rfl, Nat.le_of_ble_eq_true rfl⟩ [] rfl (by decide) (Nat.le_of_ble_eq_true rfl) dX4_setEar_7) [0, 1, 2, 3, 4, 5, 6, 7, 8, 9, 10, 11, 12, 13, 14, 15, 16, 17, 18, 19, 20, 21, 22, 23, 24, 25, 26, 27, 28, 29, 30, 31, 32, 33, 34, 35, 36, 37] rfl (by decide) (fun E hE => absurd hE.1 (by decide)) (fun _ => ?_)
    refine ek_aln X 0 rfl dX4_setEar_10 ?_
    refine ek_get X hin_X4_setEar_X4 0 rfl rfl 4 (by decide) (List.mem_of_getElem? (i := 1) rfl) rfl dX4_setEar_11 ?_
    refine ek_isn (lv' := [(2, .int (nI (vEar cv))), (0, .ref (ad 46)), (1, .int (nI k9))]) X (by decide) rfl dX4_setEar_14 ?_
    refine ek_aln X 1 rfl dX4_setEar_15 ?_
    refine ek_iln X 2 rfl dX4_setEar_16 ?_
    refine ek_put (w' := wV ad cI cJ cR (k9, vSaid cv, vWord cv) g q u h k) X hin_X4_setEar_X4 tyX4 tyX4_ok nmX4 0 rfl rfl 4 (by decide) (List.mem_of_getElem? (i := 1) rfl) rfl rfl rfl rfl (Nat.le_of_ble_eq_true rfl) rfl dX4_setEar_17 ?_
    refine ek_iln X 0 rfl dX4_setEar_20 ?_
    refine ek_ret ?_
    refine ek_widen (k' := 1) (n' := 6) (Nat.le_of_ble_eq_true rfl) (Nat.le_of_ble_eq_true rfl) ?_
    exact ek_reti X () ⟨_, rfl, ⟨(by unfold xSetE; (repeat' split) <;> first | rfl | omega | (exfalso; omega)), rfl⟩⟩ rfl dX4_setEar_21
  · refine ek_top (v' := nI 0) (congrArg nI (if_neg c_4)) ?_
    exact ek_doXv X (ek_runSX (As := [.int (nI 0)]) (rest := []) X hZ (c_X4_requireArgument l hl D cI cJ cR 0 (by omega)) gX4_setEar_X4_requireArgument rfl hd_X4_requireArgument ⟨Nat.le_of_ble_eq_true rfl, Nat.le_of_ble_eq_true rfl⟩ ⟨Nat.le_of_ble_eq_true rfl, Nat.le_of_ble_eq_true rfl⟩ [] rfl (by decide) (Nat.le_of_ble_eq_true rfl) dX4_setEar_7) [0, 1, 2, 3, 4, 5, 6, 7, 8, 9, 10, 11, 12, 13, 14, 15, 16, 17, 18, 19, 20, 21, 22, 23, 24, 25, 26, 27, 28, 29, 30, 31, 32, 33, 34, 35, 36, 37] rfl (by decide) (fun E hE => ek_xout X hT (⟨(by unfold xSetE; (repeat' split) <;> first | rfl | omega | (exfalso; omega)), hE.2⟩) ⟨Nat.le_of_ble_eq_true rfl, Nat.le_of_ble_eq_true rfl⟩) (fun hv => absurd hv (by decide))

theorem hin_X4_chamber_X4 : ∀ x ∈ wsX40, x ∈ wsX4_chamber := fun x h => List.mem_cons_of_mem _ (List.mem_append_left _ (List.mem_append_left _ (List.mem_append_right _ h)))
abbrev rm_X4_chamber : Room := { frames := 7, cells := 2, slots := 12, locals := 102 }
set_option maxHeartbeats 4000000 in
set_option maxRecDepth 100000 in
theorem c_X4_chamber (l : Launch) (hl : l.stackTraces = false) (D : va_G) (cI cJ cR : ClassId) (ad : Nat → Nat) (cv : CavT) (g : SndT) (q : QueT) (u : CaveT) (h k : EchT) (hB : cOk u) (c : Nat) (w : Nat) (hc : c < 4294967296) (hw : w < 4294967296) : ek_MX (S := Unit) l yX4_chamber wsX4_chamber rm_X4_chamber D (tyW cI cJ cR) nestW [.ref (ad 46), .int (nI c), .int (nI w)] (wV ad cI cJ cR cv g q u h k) (fun r9 _ => ∃ v : Int32, r9 = some (.int v) ∧ xTwo c (cC u) w 6 = 0 ∧ v = nI (cFact u c w)) (fun _ => wV ad cI cJ cR cv g q u h k) (fun E9 => (xTwo c (cC u) w 6 = 1 ∧ E9 = eIX)) := by
  refine ek_MX.of (cc := cX4_chamber) (maxL := 3) (ret := (some .int)) (by decide) rfl (Nat.le_of_ble_eq_true rfl) ?_
  intro p9 e9 s9 m9 args9 below9 meth9 c9 A X hZ hT
  obtain ⟨⟨hC1, hC2⟩, hPs, hWt, bWal, bHgt, bBat, bSyl, bDel, bDrs, bFrm, bTo, bLen, bNar, bPb⟩ := id hB
  refine ek_castL (lv' := [(0, .ref (ad 46)), (1, .int (nI c)), (2, .int (nI w))]) rfl ?_
  refine ek_aln X 0 rfl dX4_chamber_0 ?_
  refine ek_get X hin_X4_chamber_X4 0 rfl rfl 0 (by decide) (List.mem_of_getElem? (i := 1) rfl) rfl dX4_chamber_1 ?_
  refine ek_iln X 1 rfl dX4_chamber_4 ?_
  refine ek_doRi (ek_runV (As := [.int (nI c)]) (rest := []) X (c_X0_hasChamberB l D cI cJ cR ad u hB c (by omega)) gX4_chamber_X0_hasChamber rfl hdV_X0_hasChamber ⟨Nat.le_of_ble_eq_true rfl, Nat.le_of_ble_eq_true rfl⟩ ⟨Nat.le_of_ble_eq_true rfl, Nat.le_of_ble_eq_true rfl⟩ [7, 8, 9, 10, 11, 12, 13, 14, 15, 16, 17, 18, 19, 20, 21, 22, 23, 24, 25, 26, 27, 28, 29, 30, 31] rfl (by decide) 0 0 rfl rfl (Nat.le_of_ble_eq_true rfl) dX4_chamber_5) (fun v_5 hv_5 => ?_)
  subst hv_5
  by_cases c_5 : c < cC u
  · refine ek_top (v' := nI 1) (congrArg nI (if_pos c_5)) ?_
    refine ek_doXv X (ek_runSX (As := [.int (nI 1)]) (rest := []) X hZ (c_X4_requireIndex l hl D cI cJ cR 1 (by omega)) gX4_chamber_X4_requireIndex rfl hd_X4_requireIndex ⟨Nat.le_of_ble_eq_true rfl, Nat.le_of_ble_eq_true rfl⟩ ⟨Nat.le_of_ble_eq_true rfl, Nat.le_of_ble_eq_true rfl⟩ [] rfl (by decide) (Nat.le_of_ble_eq_true rfl) dX4_chamber_8) [0, 1, 2, 3, 4, 5, 6, 7, 8, 9, 10, 11, 12, 13, 14, 15, 16, 17, 18, 19, 20, 21, 22, 23, 24, 25, 26, 27, 28, 29, 30, 31, 32, 33, 34, 35, 36, 37] rfl (by decide) (fun E hE => absurd hE.1 (by decide)) (fun _ => ?_)
    refine ek_iln X 2 rfl dX4_chamber_11 ?_
    refine ek_ic (v := nI 0) X (by decide) dX4_chamber_12 ?_
    refine ek_bp (v := nI 6) X (by decide) dX4_chamber_13 ?_
    refine ek_doRi (ek_runS (As := [.int (nI w), .int (nI 0), .int (nI 6)]) (rest := []) X (c_X4_isWithinN l D cI cJ cR w 0 6 (by omega) (by omega) (by omega)) gX4_chamber_X4_isWithin rfl hd_X4_isWithin ⟨Nat.le_of_ble_eq_true rfl, Nat.le_of_ble_eq_true rfl⟩ ⟨Nat.le_of_ble_eq_true rfl, Nat.le_of_ble_eq_true rfl⟩ [] rfl (by decide) (Nat.le_of_ble_eq_true rfl) dX4_chamber_15) (fun v_15 hv_15 => ?_)
    subst hv_15
    by_cases c_15 : 0 ≤ w ∧ w ≤ 6
    · refine ek_top (v' := nI 1) (congrArg nI (if_pos c_15)) ?_
      refine ek_doXv X (ek_runSX (As := [.int (nI 1)]) (rest := []) X hZ (c_X4_requireIndex l hl D cI cJ cR 1 (by omega)) gX4_chamber_X4_requireIndex rfl hd_X4_requireIndex ⟨Nat.le_of_ble_eq_true rfl, Nat.le_of_ble_eq_true rfl⟩ ⟨Nat.le_of_ble_eq_true rfl, Nat.le_of_ble_eq_true rfl⟩ [] rfl (by decide) (Nat.le_of_ble_eq_true rfl) dX4_chamber_18) [0, 1, 2, 3, 4, 5, 6, 7, 8, 9, 10, 11, 12, 13, 14, 15, 16, 17, 18, 19, 20, 21, 22, 23, 24, 25, 26, 27, 28, 29, 30, 31, 32, 33, 34, 35, 36, 37] rfl (by decide) (fun E hE => absurd hE.1 (by decide)) (fun _ => ?_)
      refine ek_aln X 0 rfl dX4_chamber_21 ?_
      refine ek_get X hin_X4_chamber_X4 0 rfl rfl 0 (by decide) (List.mem_of_getElem? (i := 1) rfl) rfl dX4_chamber_22 ?_
      refine ek_iln X 1 rfl dX4_chamber_25 ?_
      refine ek_iln X 2 rfl dX4_chamber_26 ?_
      refine ek_doRi (ek_runV (As := [.int (nI c), .int (nI w)]) (rest := []) X (c_X0_chamberFact l D cI cJ cR ad u hB c w (by omega) (by omega)) gX4_chamber_X0_chamberFact rfl hdV_X0_chamberFact ⟨Nat.le_of_ble_eq_true rfl, Nat.le_of_ble_eq_true rfl⟩ ⟨Nat.le_of_ble_eq_true rfl, Nat.le_of_ble_eq_true rfl⟩ [7, 8, 9, 10, 11, 12, 13, 14, 15, 16, 17, 18, 19, 20, 21, 22, 23, 24, 25, 26, 27, 28, 29, 30, 31] rfl (by decide) 0 0 rfl rfl (Nat.le_of_ble_eq_true rfl) dX4_chamber_27) (fun v_27 hv_27 => ?_)
      subst hv_27
      refine ek_ret ?_
      refine ek_widen (k' := 2) (n' := 12) (Nat.le_of_ble_eq_true rfl) (Nat.le_of_ble_eq_true rfl) ?_
      exact ek_reti X () ⟨_, rfl, ⟨(by unfold xTwo; (repeat' split) <;> first | rfl | omega | (exfalso; omega)), rfl⟩⟩ rfl dX4_chamber_30
    · refine ek_top (v' := nI 0) (congrArg nI (if_neg c_15)) ?_
      exact ek_doXv X (ek_runSX (As := [.int (nI 0)]) (rest := []) X hZ (c_X4_requireIndex l hl D cI cJ cR 0 (by omega)) gX4_chamber_X4_requireIndex rfl hd_X4_requireIndex ⟨Nat.le_of_ble_eq_true rfl, Nat.le_of_ble_eq_true rfl⟩ ⟨Nat.le_of_ble_eq_true rfl, Nat.le_of_ble_eq_true rfl⟩ [] rfl (by decide) (Nat.le_of_ble_eq_true rfl) dX4_chamber_18) [0, 1, 2, 3, 4, 5, 6, 7, 8, 9, 10, 11, 12, 13, 14, 15, 16, 17, 18, 19, 20, 21, 22, 23, 24, 25, 26, 27, 28, 29, 30, 31, 32, 33, 34, 35, 36, 37] rfl (by decide) (fun E hE => ek_xout X hT (⟨(by unfold xTwo; (repeat' split) <;> first | rfl | omega | (exfalso; omega)), hE.2⟩) ⟨Nat.le_of_ble_eq_true rfl, Nat.le_of_ble_eq_true rfl⟩) (fun hv => absurd hv (by decide))
  · refine ek_top (v' := nI 0) (congrArg nI (if_neg c_5)) ?_
    exact ek_doXv X (ek_runSX (As := [.int (nI 0)]) (rest := []) X hZ (c_X4_requireIndex l hl D cI cJ cR 0 (by omega)) gX4_chamber_X4_requireIndex rfl hd_X4_requireIndex ⟨Nat.le_of_ble_eq_true rfl, Nat.le_of_ble_eq_true rfl⟩ ⟨Nat.le_of_ble_eq_true rfl, Nat.le_of_ble_eq_true rfl⟩ [] rfl (by decide) (Nat.le_of_ble_eq_true rfl) dX4_chamber_8) [0, 1, 2, 3, 4, 5, 6, 7, 8, 9, 10, 11, 12, 13, 14, 15, 16, 17, 18, 19, 20, 21, 22, 23, 24, 25, 26, 27, 28, 29, 30, 31, 32, 33, 34, 35, 36, 37] rfl (by decide) (fun E hE => ek_xout X hT (⟨(by unfold xTwo; (repeat' split) <;> first | rfl | omega | (exfalso; omega)), hE.2⟩) ⟨Nat.le_of_ble_eq_true rfl, Nat.le_of_ble_eq_true rfl⟩) (fun hv => absurd hv (by decide))

theorem hin_X4_passage_X4 : ∀ x ∈ wsX40, x ∈ wsX4_passage := fun x h => List.mem_cons_of_mem _ (List.mem_append_left _ (List.mem_append_left _ (List.mem_append_right _ h)))
abbrev rm_X4_passage : Room := { frames := 7, cells := 2, slots := 12, locals := 102 }
set_option maxHeartbeats 4000000 in
set_option maxRecDepth 100000 in
theorem c_X4_passage (l : Launch) (hl : l.stackTraces = false) (D : va_G) (cI cJ cR : ClassId) (ad : Nat → Nat) (cv : CavT) (g : SndT) (q : QueT) (u : CaveT) (h k : EchT) (hB : cOk u) (p : Nat) (w : Nat) (hp : p < 4294967296) (hw : w < 4294967296) : ek_MX (S := Unit) l yX4_passage wsX4_passage rm_X4_passage D (tyW cI cJ cR) nestW [.ref (ad 46), .int (nI p), .int (nI w)] (wV ad cI cJ cR cv g q u h k) (fun r9 _ => ∃ v : Int32, r9 = some (.int v) ∧ xTwo p (cP u) w 4 = 0 ∧ v = nI (pFact u p w)) (fun _ => wV ad cI cJ cR cv g q u h k) (fun E9 => (xTwo p (cP u) w 4 = 1 ∧ E9 = eIX)) := by
  refine ek_MX.of (cc := cX4_passage) (maxL := 3) (ret := (some .int)) (by decide) rfl (Nat.le_of_ble_eq_true rfl) ?_
  intro p9 e9 s9 m9 args9 below9 meth9 c9 A X hZ hT
  obtain ⟨⟨hC1, hC2⟩, hPs, hWt, bWal, bHgt, bBat, bSyl, bDel, bDrs, bFrm, bTo, bLen, bNar, bPb⟩ := id hB
  refine ek_castL (lv' := [(0, .ref (ad 46)), (1, .int (nI p)), (2, .int (nI w))]) rfl ?_
  refine ek_aln X 0 rfl dX4_passage_0 ?_
  refine ek_get X hin_X4_passage_X4 0 rfl rfl 0 (by decide) (List.mem_of_getElem? (i := 1) rfl) rfl dX4_passage_1 ?_
  refine ek_iln X 1 rfl dX4_passage_4 ?_
  refine ek_doRi (ek_runV (As := [.int (nI p)]) (rest := []) X (c_X0_hasPassageB l D cI cJ cR ad u hB p (by omega)) gX4_passage_X0_hasPassage rfl hdV_X0_hasPassage ⟨Nat.le_of_ble_eq_true rfl, Nat.le_of_ble_eq_true rfl⟩ ⟨Nat.le_of_ble_eq_true rfl, Nat.le_of_ble_eq_true rfl⟩ [7, 8, 9, 10, 11, 12, 13, 14, 15, 16, 17, 18, 19, 20, 21, 22, 23, 24, 25, 26, 27, 28, 29, 30, 31] rfl (by decide) 0 0 rfl rfl (Nat.le_of_ble_eq_true rfl) dX4_passage_5) (fun v_5 hv_5 => ?_)
  subst hv_5
  by_cases c_5 : p < cP u
  · refine ek_top (v' := nI 1) (congrArg nI (if_pos c_5)) ?_
    refine ek_doXv X (ek_runSX (As := [.int (nI 1)]) (rest := []) X hZ (c_X4_requireIndex l hl D cI cJ cR 1 (by omega)) gX4_passage_X4_requireIndex rfl hd_X4_requireIndex ⟨Nat.le_of_ble_eq_true rfl, Nat.le_of_ble_eq_true rfl⟩ ⟨Nat.le_of_ble_eq_true rfl, Nat.le_of_ble_eq_true rfl⟩ [] rfl (by decide) (Nat.le_of_ble_eq_true rfl) dX4_passage_8) [0, 1, 2, 3, 4, 5, 6, 7, 8, 9, 10, 11, 12, 13, 14, 15, 16, 17, 18, 19, 20, 21, 22, 23, 24, 25, 26, 27, 28, 29, 30, 31, 32, 33, 34, 35, 36, 37] rfl (by decide) (fun E hE => absurd hE.1 (by decide)) (fun _ => ?_)
    refine ek_iln X 2 rfl dX4_passage_11 ?_
    refine ek_ic (v := nI 0) X (by decide) dX4_passage_12 ?_
    refine ek_ic (v := nI 4) X (by decide) dX4_passage_13 ?_
    refine ek_doRi (ek_runS (As := [.int (nI w), .int (nI 0), .int (nI 4)]) (rest := []) X (c_X4_isWithinN l D cI cJ cR w 0 4 (by omega) (by omega) (by omega)) gX4_passage_X4_isWithin rfl hd_X4_isWithin ⟨Nat.le_of_ble_eq_true rfl, Nat.le_of_ble_eq_true rfl⟩ ⟨Nat.le_of_ble_eq_true rfl, Nat.le_of_ble_eq_true rfl⟩ [] rfl (by decide) (Nat.le_of_ble_eq_true rfl) dX4_passage_14) (fun v_14 hv_14 => ?_)
    subst hv_14
    by_cases c_14 : 0 ≤ w ∧ w ≤ 4
    · refine ek_top (v' := nI 1) (congrArg nI (if_pos c_14)) ?_
      refine ek_doXv X (ek_runSX (As := [.int (nI 1)]) (rest := []) X hZ (c_X4_requireIndex l hl D cI cJ cR 1 (by omega)) gX4_passage_X4_requireIndex rfl hd_X4_requireIndex ⟨Nat.le_of_ble_eq_true rfl, Nat.le_of_ble_eq_true rfl⟩ ⟨Nat.le_of_ble_eq_true rfl, Nat.le_of_ble_eq_true rfl⟩ [] rfl (by decide) (Nat.le_of_ble_eq_true rfl) dX4_passage_17) [0, 1, 2, 3, 4, 5, 6, 7, 8, 9, 10, 11, 12, 13, 14, 15, 16, 17, 18, 19, 20, 21, 22, 23, 24, 25, 26, 27, 28, 29, 30, 31, 32, 33, 34, 35, 36, 37] rfl (by decide) (fun E hE => absurd hE.1 (by decide)) (fun _ => ?_)
      refine ek_aln X 0 rfl dX4_passage_20 ?_
      refine ek_get X hin_X4_passage_X4 0 rfl rfl 0 (by decide) (List.mem_of_getElem? (i := 1) rfl) rfl dX4_passage_21 ?_
      refine ek_iln X 1 rfl dX4_passage_24 ?_
      refine ek_iln X 2 rfl dX4_passage_25 ?_
      refine ek_doRi (ek_runV (As := [.int (nI p), .int (nI w)]) (rest := []) X (c_X0_passageFact l D cI cJ cR ad u hB p w (by omega) (by omega)) gX4_passage_X0_passageFact rfl hdV_X0_passageFact ⟨Nat.le_of_ble_eq_true rfl, Nat.le_of_ble_eq_true rfl⟩ ⟨Nat.le_of_ble_eq_true rfl, Nat.le_of_ble_eq_true rfl⟩ [7, 8, 9, 10, 11, 12, 13, 14, 15, 16, 17, 18, 19, 20, 21, 22, 23, 24, 25, 26, 27, 28, 29, 30, 31] rfl (by decide) 0 0 rfl rfl (Nat.le_of_ble_eq_true rfl) dX4_passage_26) (fun v_26 hv_26 => ?_)
      subst hv_26
      refine ek_ret ?_
      refine ek_widen (k' := 2) (n' := 12) (Nat.le_of_ble_eq_true rfl) (Nat.le_of_ble_eq_true rfl) ?_
      exact ek_reti X () ⟨_, rfl, ⟨(by unfold xTwo; (repeat' split) <;> first | rfl | omega | (exfalso; omega)), rfl⟩⟩ rfl dX4_passage_29
    · refine ek_top (v' := nI 0) (congrArg nI (if_neg c_14)) ?_
      exact ek_doXv X (ek_runSX (As := [.int (nI 0)]) (rest := []) X hZ (c_X4_requireIndex l hl D cI cJ cR 0 (by omega)) gX4_passage_X4_requireIndex rfl hd_X4_requireIndex ⟨Nat.le_of_ble_eq_true rfl, Nat.le_of_ble_eq_true rfl⟩ ⟨Nat.le_of_ble_eq_true rfl, Nat.le_of_ble_eq_true rfl⟩ [] rfl (by decide) (Nat.le_of_ble_eq_true rfl) dX4_passage_17) [0, 1, 2, 3, 4, 5, 6, 7, 8, 9, 10, 11, 12, 13, 14, 15, 16, 17, 18, 19, 20, 21, 22, 23, 24, 25, 26, 27, 28, 29, 30, 31, 32, 33, 34, 35, 36, 37] rfl (by decide) (fun E hE => ek_xout X hT (⟨(by unfold xTwo; (repeat' split) <;> first | rfl | omega | (exfalso; omega)), hE.2⟩) ⟨Nat.le_of_ble_eq_true rfl, Nat.le_of_ble_eq_true rfl⟩) (fun hv => absurd hv (by decide))
  · refine ek_top (v' := nI 0) (congrArg nI (if_neg c_5)) ?_
    exact ek_doXv X (ek_runSX (As := [.int (nI 0)]) (rest := []) X hZ (c_X4_requireIndex l hl D cI cJ cR 0 (by omega)) gX4_passage_X4_requireIndex rfl hd_X4_requireIndex ⟨Nat.le_of_ble_eq_true rfl, Nat.le_of_ble_eq_true rfl⟩ ⟨Nat.le_of_ble_eq_true rfl, Nat.le_of_ble_eq_true rfl⟩ [] rfl (by decide) (Nat.le_of_ble_eq_true rfl) dX4_passage_8) [0, 1, 2, 3, 4, 5, 6, 7, 8, 9, 10, 11, 12, 13, 14, 15, 16, 17, 18, 19, 20, 21, 22, 23, 24, 25, 26, 27, 28, 29, 30, 31, 32, 33, 34, 35, 36, 37] rfl (by decide) (fun E hE => ek_xout X hT (⟨(by unfold xTwo; (repeat' split) <;> first | rfl | omega | (exfalso; omega)), hE.2⟩) ⟨Nat.le_of_ble_eq_true rfl, Nat.le_of_ble_eq_true rfl⟩) (fun hv => absurd hv (by decide))

theorem hin_X4_heard_X2 : ∀ x ∈ wsX20, x ∈ wsX4_heard := fun x h => List.mem_cons_of_mem _ (List.mem_append_left _ (List.mem_append_right _ h))
theorem hin_X4_heard_X4 : ∀ x ∈ wsX40, x ∈ wsX4_heard := fun x h => List.mem_cons_of_mem _ (List.mem_append_left _ (List.mem_append_left _ (List.mem_append_right _ h)))
abbrev rm_X4_heard : Room := { frames := 7, cells := 2, slots := 12, locals := 102 }
set_option maxHeartbeats 4000000 in
set_option maxRecDepth 100000 in
theorem c_X4_heard (l : Launch) (hl : l.stackTraces = false) (D : va_G) (cI cJ cR : ClassId) (ad : Nat → Nat) (cv : CavT) (g : SndT) (q : QueT) (u : CaveT) (h k : EchT) (hB : cOk u) (hH : hOk h) (i : Nat) (w : Nat) (hi : i < 4294967296) (hw : w < 4294967296) : ek_MX (S := Unit) l yX4_heard wsX4_heard rm_X4_heard D (tyW cI cJ cR) nestW [.ref (ad 46), .int (nI i), .int (nI w)] (wV ad cI cJ cR cv g q u h k) (fun r9 _ => ∃ v : Int32, r9 = some (.int v) ∧ xTwo i (hK h) w 4 = 0 ∧ v = nI (hFa h (i * 5 + w))) (fun _ => wV ad cI cJ cR cv g q u h k) (fun E9 => (xTwo i (hK h) w 4 = 1 ∧ E9 = eIX)) := by
  refine ek_MX.of (cc := cX4_heard) (maxL := 3) (ret := (some .int)) (by decide) rfl (Nat.le_of_ble_eq_true rfl) ?_
  intro p9 e9 s9 m9 args9 below9 meth9 c9 A X hZ hT
  obtain ⟨⟨hC1, hC2⟩, hPs, hWt, bWal, bHgt, bBat, bSyl, bDel, bDrs, bFrm, bTo, bLen, bNar, bPb⟩ := id hB
  have hk60 := hH.2.2.1
  refine ek_castL (lv' := [(0, .ref (ad 46)), (1, .int (nI i)), (2, .int (nI w))]) rfl ?_
  refine ek_iln X 1 rfl dX4_heard_0 ?_
  refine ek_ic (v := nI 0) X (by decide) dX4_heard_1 ?_
  refine ek_aln X 0 rfl dX4_heard_2 ?_
  refine ek_get X hin_X4_heard_X4 0 rfl rfl 2 (by decide) (List.mem_of_getElem? (i := 1) rfl) rfl dX4_heard_3 ?_
  refine ek_getN X hin_X4_heard_X2 32 rfl rfl 4 (by decide) (List.mem_of_getElem? (i := 16) rfl) rfl dX4_heard_6 ?_
  refine ek_ic (v := nI 1) X (by decide) dX4_heard_9 ?_
  refine ek_sub X dX4_heard_10 ?_
  refine ek_doRi (ek_runS (As := [.int (nI i), .int (nI 0), .int ((nI (hK h)) - (nI 1))]) (rest := []) X (c_X4_isWithinB l D cI cJ cR i (hK h) (by omega) (by omega)) gX4_heard_X4_isWithin rfl hd_X4_isWithin ⟨Nat.le_of_ble_eq_true rfl, Nat.le_of_ble_eq_true rfl⟩ ⟨Nat.le_of_ble_eq_true rfl, Nat.le_of_ble_eq_true rfl⟩ [] rfl (by decide) (Nat.le_of_ble_eq_true rfl) dX4_heard_11) (fun v_11 hv_11 => ?_)
  subst hv_11
  by_cases c_11 : i < hK h
  · refine ek_top (v' := nI 1) (congrArg nI (if_pos c_11)) ?_
    refine ek_doXv X (ek_runSX (As := [.int (nI 1)]) (rest := []) X hZ (c_X4_requireIndex l hl D cI cJ cR 1 (by omega)) gX4_heard_X4_requireIndex rfl hd_X4_requireIndex ⟨Nat.le_of_ble_eq_true rfl, Nat.le_of_ble_eq_true rfl⟩ ⟨Nat.le_of_ble_eq_true rfl, Nat.le_of_ble_eq_true rfl⟩ [] rfl (by decide) (Nat.le_of_ble_eq_true rfl) dX4_heard_14) [0, 1, 2, 3, 4, 5, 6, 7, 8, 9, 10, 11, 12, 13, 14, 15, 16, 17, 18, 19, 20, 21, 22, 23, 24, 25, 26, 27, 28, 29, 30, 31, 32, 33, 34, 35, 36, 37] rfl (by decide) (fun E hE => absurd hE.1 (by decide)) (fun _ => ?_)
    refine ek_iln X 2 rfl dX4_heard_17 ?_
    refine ek_ic (v := nI 0) X (by decide) dX4_heard_18 ?_
    refine ek_ic (v := nI 4) X (by decide) dX4_heard_19 ?_
    refine ek_doRi (ek_runS (As := [.int (nI w), .int (nI 0), .int (nI 4)]) (rest := []) X (c_X4_isWithinN l D cI cJ cR w 0 4 (by omega) (by omega) (by omega)) gX4_heard_X4_isWithin rfl hd_X4_isWithin ⟨Nat.le_of_ble_eq_true rfl, Nat.le_of_ble_eq_true rfl⟩ ⟨Nat.le_of_ble_eq_true rfl, Nat.le_of_ble_eq_true rfl⟩ [] rfl (by decide) (Nat.le_of_ble_eq_true rfl) dX4_heard_20) (fun v_20 hv_20 => ?_)
    subst hv_20
    by_cases c_20 : 0 ≤ w ∧ w ≤ 4
    · refine ek_top (v' := nI 1) (congrArg nI (if_pos c_20)) ?_
      refine ek_doXv X (ek_runSX (As := [.int (nI 1)]) (rest := []) X hZ (c_X4_requireIndex l hl D cI cJ cR 1 (by omega)) gX4_heard_X4_requireIndex rfl hd_X4_requireIndex ⟨Nat.le_of_ble_eq_true rfl, Nat.le_of_ble_eq_true rfl⟩ ⟨Nat.le_of_ble_eq_true rfl, Nat.le_of_ble_eq_true rfl⟩ [] rfl (by decide) (Nat.le_of_ble_eq_true rfl) dX4_heard_23) [0, 1, 2, 3, 4, 5, 6, 7, 8, 9, 10, 11, 12, 13, 14, 15, 16, 17, 18, 19, 20, 21, 22, 23, 24, 25, 26, 27, 28, 29, 30, 31, 32, 33, 34, 35, 36, 37] rfl (by decide) (fun E hE => absurd hE.1 (by decide)) (fun _ => ?_)
      refine ek_aln X 0 rfl dX4_heard_26 ?_
      refine ek_get X hin_X4_heard_X4 0 rfl rfl 2 (by decide) (List.mem_of_getElem? (i := 1) rfl) rfl dX4_heard_27 ?_
      refine ek_iln X 1 rfl dX4_heard_30 ?_
      refine ek_iln X 2 rfl dX4_heard_31 ?_
      refine ek_doRi (ek_runV (As := [.int (nI i), .int (nI w)]) (rest := []) X (c_X2_heardFact l D cI cJ cR ad 40 h i w (by omega) (by omega)) gX4_heard_X2_heardFact rfl hdV_X2_heardFact ⟨Nat.le_of_ble_eq_true rfl, Nat.le_of_ble_eq_true rfl⟩ ⟨Nat.le_of_ble_eq_true rfl, Nat.le_of_ble_eq_true rfl⟩ [32, 33, 34] rfl (by decide) 0 2 rfl rfl (Nat.le_of_ble_eq_true rfl) dX4_heard_32) (fun v_32 hv_32 => ?_)
      subst hv_32
      refine ek_ret ?_
      refine ek_widen (k' := 2) (n' := 12) (Nat.le_of_ble_eq_true rfl) (Nat.le_of_ble_eq_true rfl) ?_
      exact ek_reti X () ⟨_, rfl, ⟨(by unfold xTwo; (repeat' split) <;> first | rfl | omega | (exfalso; omega)), rfl⟩⟩ rfl dX4_heard_35
    · refine ek_top (v' := nI 0) (congrArg nI (if_neg c_20)) ?_
      exact ek_doXv X (ek_runSX (As := [.int (nI 0)]) (rest := []) X hZ (c_X4_requireIndex l hl D cI cJ cR 0 (by omega)) gX4_heard_X4_requireIndex rfl hd_X4_requireIndex ⟨Nat.le_of_ble_eq_true rfl, Nat.le_of_ble_eq_true rfl⟩ ⟨Nat.le_of_ble_eq_true rfl, Nat.le_of_ble_eq_true rfl⟩ [] rfl (by decide) (Nat.le_of_ble_eq_true rfl) dX4_heard_23) [0, 1, 2, 3, 4, 5, 6, 7, 8, 9, 10, 11, 12, 13, 14, 15, 16, 17, 18, 19, 20, 21, 22, 23, 24, 25, 26, 27, 28, 29, 30, 31, 32, 33, 34, 35, 36, 37] rfl (by decide) (fun E hE => ek_xout X hT (⟨(by unfold xTwo; (repeat' split) <;> first | rfl | omega | (exfalso; omega)), hE.2⟩) ⟨Nat.le_of_ble_eq_true rfl, Nat.le_of_ble_eq_true rfl⟩) (fun hv => absurd hv (by decide))
  · refine ek_top (v' := nI 0) (congrArg nI (if_neg c_11)) ?_
    exact ek_doXv X (ek_runSX (As := [.int (nI 0)]) (rest := []) X hZ (c_X4_requireIndex l hl D cI cJ cR 0 (by omega)) gX4_heard_X4_requireIndex rfl hd_X4_requireIndex ⟨Nat.le_of_ble_eq_true rfl, Nat.le_of_ble_eq_true rfl⟩ ⟨Nat.le_of_ble_eq_true rfl, Nat.le_of_ble_eq_true rfl⟩ [] rfl (by decide) (Nat.le_of_ble_eq_true rfl) dX4_heard_14) [0, 1, 2, 3, 4, 5, 6, 7, 8, 9, 10, 11, 12, 13, 14, 15, 16, 17, 18, 19, 20, 21, 22, 23, 24, 25, 26, 27, 28, 29, 30, 31, 32, 33, 34, 35, 36, 37] rfl (by decide) (fun E hE => ek_xout X hT (⟨(by unfold xTwo; (repeat' split) <;> first | rfl | omega | (exfalso; omega)), hE.2⟩) ⟨Nat.le_of_ble_eq_true rfl, Nat.le_of_ble_eq_true rfl⟩) (fun hv => absurd hv (by decide))

theorem hin_X4_first_X2 : ∀ x ∈ wsX20, x ∈ wsX4_first := fun x h => List.mem_cons_of_mem _ (List.mem_append_left _ (List.mem_append_right _ h))
theorem hin_X4_first_X4 : ∀ x ∈ wsX40, x ∈ wsX4_first := fun x h => List.mem_cons_of_mem _ (List.mem_append_left _ (List.mem_append_left _ (List.mem_append_right _ h)))
abbrev rm_X4_first : Room := { frames := 7, cells := 1, slots := 6, locals := 102 }
set_option maxHeartbeats 4000000 in
set_option maxRecDepth 100000 in
theorem c_X4_first (l : Launch) (hl : l.stackTraces = false) (D : va_G) (cI cJ cR : ClassId) (ad : Nat → Nat) (cv : CavT) (g : SndT) (q : QueT) (u : CaveT) (h k : EchT) (hB : cOk u) (hH : hOk h) (i : Nat) (hi : i < 4294967296) : ek_MX (S := Unit) l yX4_first wsX4_first rm_X4_first D (tyW cI cJ cR) nestW [.ref (ad 46), .int (nI i)] (wV ad cI cJ cR cv g q u h k) (fun r9 _ => ∃ v : Int32, r9 = some (.int v) ∧ xLt i (hPl h) = 0 ∧ v = hFi h i) (fun _ => wV ad cI cJ cR cv g q u h k) (fun E9 => (xLt i (hPl h) = 1 ∧ E9 = eIX)) := by
  refine ek_MX.of (cc := cX4_first) (maxL := 2) (ret := (some .int)) (by decide) rfl (Nat.le_of_ble_eq_true rfl) ?_
  intro p9 e9 s9 m9 args9 below9 meth9 c9 A X hZ hT
  obtain ⟨⟨hC1, hC2⟩, hPs, hWt, bWal, bHgt, bBat, bSyl, bDel, bDrs, bFrm, bTo, bLen, bNar, bPb⟩ := id hB
  have hp6 := hH.1
  refine ek_castL (lv' := [(0, .ref (ad 46)), (1, .int (nI i))]) rfl ?_
  refine ek_iln X 1 rfl dX4_first_0 ?_
  refine ek_ic (v := nI 0) X (by decide) dX4_first_1 ?_
  refine ek_aln X 0 rfl dX4_first_2 ?_
  refine ek_get X hin_X4_first_X4 0 rfl rfl 2 (by decide) (List.mem_of_getElem? (i := 1) rfl) rfl dX4_first_3 ?_
  refine ek_getN X hin_X4_first_X2 32 rfl rfl 2 (by decide) (List.mem_of_getElem? (i := 15) rfl) rfl dX4_first_6 ?_
  refine ek_ic (v := nI 1) X (by decide) dX4_first_9 ?_
  refine ek_sub X dX4_first_10 ?_
  refine ek_doRi (ek_runS (As := [.int (nI i), .int (nI 0), .int ((nI (hPl h)) - (nI 1))]) (rest := []) X (c_X4_isWithinB l D cI cJ cR i (hPl h) (by omega) (by omega)) gX4_first_X4_isWithin rfl hd_X4_isWithin ⟨Nat.le_of_ble_eq_true rfl, Nat.le_of_ble_eq_true rfl⟩ ⟨Nat.le_of_ble_eq_true rfl, Nat.le_of_ble_eq_true rfl⟩ [] rfl (by decide) (Nat.le_of_ble_eq_true rfl) dX4_first_11) (fun v_11 hv_11 => ?_)
  subst hv_11
  by_cases c_11 : i < hPl h
  · refine ek_top (v' := nI 1) (congrArg nI (if_pos c_11)) ?_
    refine ek_doXv X (ek_runSX (As := [.int (nI 1)]) (rest := []) X hZ (c_X4_requireIndex l hl D cI cJ cR 1 (by omega)) gX4_first_X4_requireIndex rfl hd_X4_requireIndex ⟨Nat.le_of_ble_eq_true rfl, Nat.le_of_ble_eq_true rfl⟩ ⟨Nat.le_of_ble_eq_true rfl, Nat.le_of_ble_eq_true rfl⟩ [] rfl (by decide) (Nat.le_of_ble_eq_true rfl) dX4_first_14) [0, 1, 2, 3, 4, 5, 6, 7, 8, 9, 10, 11, 12, 13, 14, 15, 16, 17, 18, 19, 20, 21, 22, 23, 24, 25, 26, 27, 28, 29, 30, 31, 32, 33, 34, 35, 36, 37] rfl (by decide) (fun E hE => absurd hE.1 (by decide)) (fun _ => ?_)
    refine ek_aln X 0 rfl dX4_first_17 ?_
    refine ek_get X hin_X4_first_X4 0 rfl rfl 2 (by decide) (List.mem_of_getElem? (i := 1) rfl) rfl dX4_first_18 ?_
    refine ek_getN X hin_X4_first_X2 32 rfl rfl 1 (by decide) (List.mem_of_getElem? (i := 14) rfl) rfl dX4_first_21 ?_
    refine ek_iln X 1 rfl dX4_first_24 ?_
    refine ek_ald X 34 0 rfl rfl (by omega) (by omega) dX4_first_25 ?_
    refine ek_ret ?_
    refine ek_widen (k' := 1) (n' := 6) (Nat.le_of_ble_eq_true rfl) (Nat.le_of_ble_eq_true rfl) ?_
    exact ek_reti X () ⟨_, rfl, ⟨(by unfold xLt; (repeat' split) <;> first | rfl | omega | (exfalso; omega)), rfl⟩⟩ rfl dX4_first_26
  · refine ek_top (v' := nI 0) (congrArg nI (if_neg c_11)) ?_
    exact ek_doXv X (ek_runSX (As := [.int (nI 0)]) (rest := []) X hZ (c_X4_requireIndex l hl D cI cJ cR 0 (by omega)) gX4_first_X4_requireIndex rfl hd_X4_requireIndex ⟨Nat.le_of_ble_eq_true rfl, Nat.le_of_ble_eq_true rfl⟩ ⟨Nat.le_of_ble_eq_true rfl, Nat.le_of_ble_eq_true rfl⟩ [] rfl (by decide) (Nat.le_of_ble_eq_true rfl) dX4_first_14) [0, 1, 2, 3, 4, 5, 6, 7, 8, 9, 10, 11, 12, 13, 14, 15, 16, 17, 18, 19, 20, 21, 22, 23, 24, 25, 26, 27, 28, 29, 30, 31, 32, 33, 34, 35, 36, 37] rfl (by decide) (fun E hE => ek_xout X hT (⟨(by unfold xLt; (repeat' split) <;> first | rfl | omega | (exfalso; omega)), hE.2⟩) ⟨Nat.le_of_ble_eq_true rfl, Nat.le_of_ble_eq_true rfl⟩) (fun hv => absurd hv (by decide))

abbrev rm_X4_count : Room := { frames := 7, cells := 1, slots := 6, locals := 102 }
set_option maxHeartbeats 4000000 in
set_option maxRecDepth 100000 in
theorem c_X4_count (l : Launch) (hl : l.stackTraces = false) (D : va_G) (cI cJ cR : ClassId) (ad : Nat → Nat) (cv : CavT) (g : SndT) (q : QueT) (u : CaveT) (h k : EchT) (hB : cOk u) (w : Nat) (hw : w < 4294967296) : ek_MX (S := Unit) l yX4_count wsX4_count rm_X4_count D (tyW cI cJ cR) nestW [.ref (ad 46), .int (nI w)] (wV ad cI cJ cR cv g q u h k) (fun r9 _ => ∃ v : Int32, r9 = some (.int v) ∧ xLe w 9 = 0 ∧ v = nI (vCtd cv u h w)) (fun _ => wV ad cI cJ cR cv g q u h k) (fun E9 => (xLe w 9 = 1 ∧ E9 = eIX)) := by
  refine ek_MX.of (cc := cX4_count) (maxL := 2) (ret := (some .int)) (by decide) rfl (Nat.le_of_ble_eq_true rfl) ?_
  intro p9 e9 s9 m9 args9 below9 meth9 c9 A X hZ hT
  obtain ⟨⟨hC1, hC2⟩, hPs, hWt, bWal, bHgt, bBat, bSyl, bDel, bDrs, bFrm, bTo, bLen, bNar, bPb⟩ := id hB
  refine ek_castL (lv' := [(0, .ref (ad 46)), (1, .int (nI w))]) rfl ?_
  refine ek_iln X 1 rfl dX4_count_0 ?_
  refine ek_ic (v := nI 0) X (by decide) dX4_count_1 ?_
  refine ek_bp (v := nI 9) X (by decide) dX4_count_2 ?_
  refine ek_doRi (ek_runS (As := [.int (nI w), .int (nI 0), .int (nI 9)]) (rest := []) X (c_X4_isWithinN l D cI cJ cR w 0 9 (by omega) (by omega) (by omega)) gX4_count_X4_isWithin rfl hd_X4_isWithin ⟨Nat.le_of_ble_eq_true rfl, Nat.le_of_ble_eq_true rfl⟩ ⟨Nat.le_of_ble_eq_true rfl, Nat.le_of_ble_eq_true rfl⟩ [] rfl (by decide) (Nat.le_of_ble_eq_true rfl) dX4_count_4) (fun v_4 hv_4 => ?_)
  subst hv_4
  by_cases c_4 : 0 ≤ w ∧ w ≤ 9
  · refine ek_top (v' := nI 1) (congrArg nI (if_pos c_4)) ?_
    refine ek_doXv X (ek_runSX (As := [.int (nI 1)]) (rest := []) X hZ (c_X4_requireIndex l hl D cI cJ cR 1 (by omega)) gX4_count_X4_requireIndex rfl hd_X4_requireIndex ⟨Nat.le_of_ble_eq_true rfl, Nat.le_of_ble_eq_true rfl⟩ ⟨Nat.le_of_ble_eq_true rfl, Nat.le_of_ble_eq_true rfl⟩ [] rfl (by decide) (Nat.le_of_ble_eq_true rfl) dX4_count_7) [0, 1, 2, 3, 4, 5, 6, 7, 8, 9, 10, 11, 12, 13, 14, 15, 16, 17, 18, 19, 20, 21, 22, 23, 24, 25, 26, 27, 28, 29, 30, 31, 32, 33, 34, 35, 36, 37] rfl (by decide) (fun E hE => absurd hE.1 (by decide)) (fun _ => ?_)
    refine ek_aln X 0 rfl dX4_count_10 ?_
    refine ek_iln X 1 rfl dX4_count_11 ?_
    refine ek_doRi (ek_runV (As := [.int (nI w)]) (rest := []) X (c_X4_countFact l D cI cJ cR ad cv g q u h k hB w (by omega)) gX4_count_X4_countFact rfl hdV_X4_countFact ⟨Nat.le_of_ble_eq_true rfl, Nat.le_of_ble_eq_true rfl⟩ ⟨Nat.le_of_ble_eq_true rfl, Nat.le_of_ble_eq_true rfl⟩ [0, 1, 2, 3, 4, 5, 6, 7, 8, 9, 10, 11, 12, 13, 14, 15, 16, 17, 18, 19, 20, 21, 22, 23, 24, 25, 26, 27, 28, 29, 30, 31, 32, 33, 34, 35, 36, 37] rfl (by decide) 0 4 rfl rfl (Nat.le_of_ble_eq_true rfl) dX4_count_12) (fun v_12 hv_12 => ?_)
    subst hv_12
    refine ek_ret ?_
    refine ek_widen (k' := 1) (n' := 6) (Nat.le_of_ble_eq_true rfl) (Nat.le_of_ble_eq_true rfl) ?_
    exact ek_reti X () ⟨_, rfl, ⟨(by unfold xLe; (repeat' split) <;> first | rfl | omega | (exfalso; omega)), rfl⟩⟩ rfl dX4_count_15
  · refine ek_top (v' := nI 0) (congrArg nI (if_neg c_4)) ?_
    exact ek_doXv X (ek_runSX (As := [.int (nI 0)]) (rest := []) X hZ (c_X4_requireIndex l hl D cI cJ cR 0 (by omega)) gX4_count_X4_requireIndex rfl hd_X4_requireIndex ⟨Nat.le_of_ble_eq_true rfl, Nat.le_of_ble_eq_true rfl⟩ ⟨Nat.le_of_ble_eq_true rfl, Nat.le_of_ble_eq_true rfl⟩ [] rfl (by decide) (Nat.le_of_ble_eq_true rfl) dX4_count_7) [0, 1, 2, 3, 4, 5, 6, 7, 8, 9, 10, 11, 12, 13, 14, 15, 16, 17, 18, 19, 20, 21, 22, 23, 24, 25, 26, 27, 28, 29, 30, 31, 32, 33, 34, 35, 36, 37] rfl (by decide) (fun E hE => ek_xout X hT (⟨(by unfold xLe; (repeat' split) <;> first | rfl | omega | (exfalso; omega)), hE.2⟩) ⟨Nat.le_of_ble_eq_true rfl, Nat.le_of_ble_eq_true rfl⟩) (fun hv => absurd hv (by decide))
