/-! ===== EchoCave.Echo ===== -/
abbrev hIn (h : EchT) : Prop := 0 < hPl h ∧ hOr h = hPl h
def hBegin (h : EchT) (n x : Nat) : EchT := (n, x, 0, 0, 0, -1, hFa h, eFill 6 (-1) (hFi h))
def hCount (h : EchT) (t p : Nat) : EchT := (hPl h, hEar h, hK h, hCt h + 1, if p = hOr h then hOr h + 1 else hOr h, nI t, hFa h, if hFi h p < 0 then eN (hFi h) p (nI t) else hFi h)
def hKeep (h : EchT) (t p y z : Nat) : EchT := (hPl h, hEar h, hK h + 1, hCt h, hOr h, hLa h, eN (eN (eN (eN (eN (hFa h) (hK h * 5) t) (hK h * 5 + 1) p) (hK h * 5 + 2) y) (hK h * 5 + 3) z) (hK h * 5 + 4) (if hEar h ≤ z then 1 else 0), hFi h)
def hHear (h : EchT) (t p y z : Nat) : EchT := if 60 ≤ hK h then h else if hEar h ≤ z then hCount (hKeep h t p y z) t p else hKeep h t p y z
abbrev hOk (h : EchT) : Prop := hPl h ≤ 6 ∧ hEar h ≤ 50 ∧ hK h ≤ 60 ∧ hCt h ≤ hK h ∧ hOr h ≤ hCt h ∧ ∀ j, hFa h j < 1024

theorem hin_X2_begin_X2 : ∀ x ∈ wsX20, x ∈ wsX2_begin := fun x h => List.mem_cons_of_mem _ (List.mem_append_right _ h)
abbrev rm_X2_begin : Room := { frames := 2, cells := 0, slots := 0, locals := 35 }
set_option maxHeartbeats 4000000 in
set_option maxRecDepth 100000 in
theorem c_X2_begin (l : Launch) (D : va_G) (cI cJ cR : ClassId) (ad : Nat → Nat) (e : Nat) (h : EchT) (n x : Nat) : ek_M (S := Unit) l yX2_begin wsX2_begin rm_X2_begin D (tyW cI cJ cR) nestW [.ref (ad e), .int (nI n), .int (nI x)] (wE ad e cI h) (fun r9 _ => r9 = none ∧ True) (fun _ => wE ad e cI (hBegin h n x)) := by
  refine ek_M.of (cc := cX2_begin) (maxL := 3) (ret := none) (by decide) rfl (Nat.le_of_ble_eq_true rfl) ?_
  intro p9 e9 s9 m9 args9 below9 meth9 c9 A X hin
  refine ek_castL (lv' := [(0, .ref (ad e)), (1, .int (nI n)), (2, .int (nI x))]) rfl ?_
  refine ek_aln X 0 rfl dX2_begin_0 ?_
  refine ek_iln X 1 rfl dX2_begin_1 ?_
  refine ek_put (w' := wE ad e cI (n, hEar h, hK h, hCt h, hOr h, hLa h, hFa h, hFi h)) X hin_X2_begin_X2 tyX2 tyX2_ok nmX2 0 rfl rfl 2 (by decide) (List.mem_of_getElem? (i := 1) rfl) rfl rfl rfl rfl (Nat.le_of_ble_eq_true rfl) rfl dX2_begin_2 ?_
  refine ek_aln X 0 rfl dX2_begin_5 ?_
  refine ek_iln X 2 rfl dX2_begin_6 ?_
  refine ek_put (w' := wE ad e cI (n, x, hK h, hCt h, hOr h, hLa h, hFa h, hFi h)) X hin_X2_begin_X2 tyX2 tyX2_ok nmX2 0 rfl rfl 3 (by decide) (List.mem_of_getElem? (i := 2) rfl) rfl rfl rfl rfl (Nat.le_of_ble_eq_true rfl) rfl dX2_begin_7 ?_
  refine ek_aln X 0 rfl dX2_begin_10 ?_
  refine ek_ic (v := nI 0) X (by decide) dX2_begin_11 ?_
  refine ek_put (w' := wE ad e cI (n, x, 0, hCt h, hOr h, hLa h, hFa h, hFi h)) X hin_X2_begin_X2 tyX2 tyX2_ok nmX2 0 rfl rfl 4 (by decide) (List.mem_of_getElem? (i := 3) rfl) rfl rfl rfl rfl (Nat.le_of_ble_eq_true rfl) rfl dX2_begin_12 ?_
  refine ek_aln X 0 rfl dX2_begin_15 ?_
  refine ek_ic (v := nI 0) X (by decide) dX2_begin_16 ?_
  refine ek_put (w' := wE ad e cI (n, x, 0, 0, hOr h, hLa h, hFa h, hFi h)) X hin_X2_begin_X2 tyX2 tyX2_ok nmX2 0 rfl rfl 5 (by decide) (List.mem_of_getElem? (i := 4) rfl) rfl rfl rfl rfl (Nat.le_of_ble_eq_true rfl) rfl dX2_begin_17 ?_
  refine ek_aln X 0 rfl dX2_begin_20 ?_
  refine ek_ic (v := nI 0) X (by decide) dX2_begin_21 ?_
  refine ek_put (w' := wE ad e cI (n, x, 0, 0, 0, hLa h, hFa h, hFi h)) X hin_X2_begin_X2 tyX2 tyX2_ok nmX2 0 rfl rfl 6 (by decide) (List.mem_of_getElem? (i := 5) rfl) rfl rfl rfl rfl (Nat.le_of_ble_eq_true rfl) rfl dX2_begin_22 ?_
  refine ek_aln X 0 rfl dX2_begin_25 ?_
  refine ek_ic (v := -1) X (by decide) dX2_begin_26 ?_
  refine ek_put (w' := wE ad e cI (n, x, 0, 0, 0, -1, hFa h, hFi h)) X hin_X2_begin_X2 tyX2 tyX2_ok nmX2 0 rfl rfl 7 (by decide) (List.mem_of_getElem? (i := 6) rfl) rfl rfl rfl rfl (Nat.le_of_ble_eq_true rfl) rfl dX2_begin_27 ?_
  refine ek_aln X 0 rfl dX2_begin_30 ?_
  refine ek_get X hin_X2_begin_X2 0 rfl rfl 1 (by decide) (List.mem_of_getElem? (i := 7) rfl) rfl dX2_begin_31 ?_
  refine ek_ic (v := -1) X (by decide) dX2_begin_34 ?_
  refine ek_doWv X (ek_runS (As := [.ref (ad (e + 2)), .int (-1)]) (rest := []) X (c_J7_fill_53178 l D cI cJ cR (ad (e + 2)) 6 (-1) (hFi h) (by decide)) gX2_begin_J7_fill_53178 rfl hd_J7_fill_53178 ⟨Nat.le_of_ble_eq_true rfl, Nat.le_of_ble_eq_true rfl⟩ ⟨Nat.le_of_ble_eq_true rfl, Nat.le_of_ble_eq_true rfl⟩ [2] rfl (by decide) (Nat.le_of_ble_eq_true rfl) dX2_begin_35) [2] [0, 1] rfl rfl (by decide) (by decide) (fun _ => wE ad e cI (n, x, 0, 0, 0, -1, hFa h, eFill 6 (-1) (hFi h))) [0, 1, 2] (by decide) (fun _ => rfl) (fun u_35 hv_35 => ?_)
  exact ek_retv X () ⟨rfl, trivial⟩ rfl dX2_begin_38

theorem hin_X2_letCount_X2 : ∀ x ∈ wsX20, x ∈ wsX2_letCount := fun x h => List.mem_cons_of_mem _ (List.mem_append_right _ h)
set_option maxRecDepth 20000 in
theorem gn_X2_letCount_X4_isWithin : GoodIn wsX2_letCount wsX4_isWithin := goodIn_r _ [7] (by decide +kernel) (by decide +kernel)
abbrev rm_X2_letCount : Room := { frames := 2, cells := 0, slots := 0, locals := 34 }
set_option maxHeartbeats 4000000 in
set_option maxRecDepth 100000 in
theorem c_X2_letCount (l : Launch) (D : va_G) (cI cJ cR : ClassId) (ad : Nat → Nat) (e : Nat) (h : EchT) (t p : Nat) (hp : p < 6) (ho : hOr h < 2147483648) : ek_M (S := Unit) l yX2_letCount wsX2_letCount rm_X2_letCount D (tyW cI cJ cR) nestW [.ref (ad e), .int (nI t), .int (nI p)] (wE ad e cI h) (fun r9 _ => r9 = none ∧ True) (fun _ => wE ad e cI (hCount h t p)) := by
  refine ek_M.of (cc := cX2_letCount) (maxL := 3) (ret := none) (by decide) rfl (Nat.le_of_ble_eq_true rfl) ?_
  intro p9 e9 s9 m9 args9 below9 meth9 c9 A X hin
  refine ek_castL (lv' := [(0, .ref (ad e)), (1, .int (nI t)), (2, .int (nI p))]) rfl ?_
  refine ek_aln X 0 rfl dX2_letCount_0 ?_
  refine ek_dup X rfl dX2_letCount_1 ?_
  refine ek_get X hin_X2_letCount_X2 0 rfl rfl 5 (by decide) (List.mem_of_getElem? (i := 1) rfl) rfl dX2_letCount_2 ?_
  refine ek_ic (v := nI 1) X (by decide) dX2_letCount_5 ?_
  refine ek_Nadd X dX2_letCount_6 ?_
  refine ek_put (w' := wE ad e cI (hPl h, hEar h, hK h, (hCt h) + 1, hOr h, hLa h, hFa h, hFi h)) X hin_X2_letCount_X2 tyX2 tyX2_ok nmX2 0 rfl rfl 5 (by decide) (List.mem_of_getElem? (i := 1) rfl) rfl rfl rfl rfl (Nat.le_of_ble_eq_true rfl) rfl dX2_letCount_7 ?_
  refine ek_aln X 0 rfl dX2_letCount_10 ?_
  refine ek_iln X 1 rfl dX2_letCount_11 ?_
  refine ek_put (w' := wE ad e cI (hPl h, hEar h, hK h, (hCt h) + 1, hOr h, nI t, hFa h, hFi h)) X hin_X2_letCount_X2 tyX2 tyX2_ok nmX2 0 rfl rfl 7 (by decide) (List.mem_of_getElem? (i := 2) rfl) rfl rfl rfl rfl (Nat.le_of_ble_eq_true rfl) rfl dX2_letCount_12 ?_
  refine ek_iln X 2 rfl dX2_letCount_15 ?_
  refine ek_ic (v := nI 0) X (by decide) dX2_letCount_16 ?_
  refine ek_ic (v := nI 5) X (by decide) dX2_letCount_17 ?_
  refine ek_doRi (ek_runSN (As := [.int (nI p), .int (nI 0), .int (nI 5)]) (rest := []) X (c_X4_isWithin l D cI cJ cR (nI p) (nI 0) (nI 5)) gn_X2_letCount_X4_isWithin rfl (List.mem_of_getElem? (i := 21) rfl) (List.mem_of_getElem? (i := 6) rfl) (List.mem_of_getElem? (i := 5) rfl) hd_X4_isWithin ⟨Nat.le_of_ble_eq_true rfl, Nat.le_of_ble_eq_true rfl⟩ ⟨Nat.le_of_ble_eq_true rfl, Nat.le_of_ble_eq_true rfl⟩ [] rfl (by decide) (Nat.le_of_ble_eq_true rfl) dX2_letCount_18) (fun v_18 hv_18 => ?_)
  subst hv_18
  by_cases c_18 : nI 0 ≤ nI p ∧ nI p ≤ nI 5
  · refine ek_top (v' := nI 1) (congrArg nI (if_pos c_18)) ?_
    refine ek_Zeq X (by omega) 40 (by decide) dX2_letCount_21 (fun h => absurd h (by omega)) (fun _ => ?_)
    refine ek_aln X 0 rfl dX2_letCount_24 ?_
    refine ek_get X hin_X2_letCount_X2 0 rfl rfl 1 (by decide) (List.mem_of_getElem? (i := 3) rfl) rfl dX2_letCount_25 ?_
    refine ek_iln X 2 rfl dX2_letCount_28 ?_
    refine ek_ald X 2 0 rfl rfl (by omega) (by omega) dX2_letCount_29 ?_
    refine ek_top (v' := (hFi h) p) rfl ?_
    refine ek_if_ge X 40 (by decide) dX2_letCount_30 (fun c_30 => ?_) (fun c_30 => ?_)
    · skip
      refine ek_iln X 2 rfl dX2_letCount_40 ?_
      refine ek_aln X 0 rfl dX2_letCount_41 ?_
      refine ek_get X hin_X2_letCount_X2 0 rfl rfl 6 (by decide) (List.mem_of_getElem? (i := 4) rfl) rfl dX2_letCount_42 ?_
      refine ek_top (v' := nI (hOr h)) rfl ?_
      refine ek_Nne X (by omega) (by omega) 58 (by decide) dX2_letCount_45 (fun c_45 => ?_) (fun c_45 => ?_)
      · skip
        exact ek_retv X () ⟨rfl, trivial⟩ (by unfold hCount; first | (rw [if_pos (show p = hOr h by assumption), if_pos (show hFi h p < 0 from Int32.not_le.mp (by assumption))]) | (rw [if_pos (show p = hOr h by assumption), if_neg (show ¬ hFi h p < 0 from Int32.not_lt.mpr (by assumption))]) | (rw [if_neg (show ¬ p = hOr h by assumption), if_pos (show hFi h p < 0 from Int32.not_le.mp (by assumption))]) | (rw [if_neg (show ¬ p = hOr h by assumption), if_neg (show ¬ hFi h p < 0 from Int32.not_lt.mpr (by assumption))]) | exact absurd ⟨by rw [nI_leI (by omega) (by omega)]; omega, by rw [nI_leI (by omega) (by omega)]; omega⟩ c_18) dX2_letCount_58
      · skip
        refine ek_aln X 0 rfl dX2_letCount_48 ?_
        refine ek_dup X rfl dX2_letCount_49 ?_
        refine ek_get X hin_X2_letCount_X2 0 rfl rfl 6 (by decide) (List.mem_of_getElem? (i := 4) rfl) rfl dX2_letCount_50 ?_
        refine ek_top (v' := nI (hOr h)) rfl ?_
        refine ek_ic (v := nI 1) X (by decide) dX2_letCount_53 ?_
        refine ek_Nadd X dX2_letCount_54 ?_
        refine ek_put (w' := wE ad e cI (hPl h, hEar h, hK h, (hCt h) + 1, (hOr h) + 1, nI t, hFa h, hFi h)) X hin_X2_letCount_X2 tyX2 tyX2_ok nmX2 0 rfl rfl 6 (by decide) (List.mem_of_getElem? (i := 4) rfl) rfl rfl rfl rfl (Nat.le_of_ble_eq_true rfl) rfl dX2_letCount_55 ?_
        exact ek_retv X () ⟨rfl, trivial⟩ (by unfold hCount; first | (rw [if_pos (show p = hOr h by assumption), if_pos (show hFi h p < 0 from Int32.not_le.mp (by assumption))]) | (rw [if_pos (show p = hOr h by assumption), if_neg (show ¬ hFi h p < 0 from Int32.not_lt.mpr (by assumption))]) | (rw [if_neg (show ¬ p = hOr h by assumption), if_pos (show hFi h p < 0 from Int32.not_le.mp (by assumption))]) | (rw [if_neg (show ¬ p = hOr h by assumption), if_neg (show ¬ hFi h p < 0 from Int32.not_lt.mpr (by assumption))]) | exact absurd ⟨by rw [nI_leI (by omega) (by omega)]; omega, by rw [nI_leI (by omega) (by omega)]; omega⟩ c_18) dX2_letCount_58
    · skip
      refine ek_aln X 0 rfl dX2_letCount_33 ?_
      refine ek_get X hin_X2_letCount_X2 0 rfl rfl 1 (by decide) (List.mem_of_getElem? (i := 3) rfl) rfl dX2_letCount_34 ?_
      refine ek_iln X 2 rfl dX2_letCount_37 ?_
      refine ek_iln X 1 rfl dX2_letCount_38 ?_
      refine ek_ast (w' := wE ad e cI (hPl h, hEar h, hK h, (hCt h) + 1, hOr h, nI t, hFa h, eN (hFi h) p (nI t))) X 2 0 rfl rfl (by omega) (by omega) rfl dX2_letCount_39 ?_
      refine ek_iln X 2 rfl dX2_letCount_40 ?_
      refine ek_aln X 0 rfl dX2_letCount_41 ?_
      refine ek_get X hin_X2_letCount_X2 0 rfl rfl 6 (by decide) (List.mem_of_getElem? (i := 4) rfl) rfl dX2_letCount_42 ?_
      refine ek_top (v' := nI (hOr h)) rfl ?_
      refine ek_Nne X (by omega) (by omega) 58 (by decide) dX2_letCount_45 (fun c_45 => ?_) (fun c_45 => ?_)
      · skip
        exact ek_retv X () ⟨rfl, trivial⟩ (by unfold hCount; first | (rw [if_pos (show p = hOr h by assumption), if_pos (show hFi h p < 0 from Int32.not_le.mp (by assumption))]) | (rw [if_pos (show p = hOr h by assumption), if_neg (show ¬ hFi h p < 0 from Int32.not_lt.mpr (by assumption))]) | (rw [if_neg (show ¬ p = hOr h by assumption), if_pos (show hFi h p < 0 from Int32.not_le.mp (by assumption))]) | (rw [if_neg (show ¬ p = hOr h by assumption), if_neg (show ¬ hFi h p < 0 from Int32.not_lt.mpr (by assumption))]) | exact absurd ⟨by rw [nI_leI (by omega) (by omega)]; omega, by rw [nI_leI (by omega) (by omega)]; omega⟩ c_18) dX2_letCount_58
      · skip
        refine ek_aln X 0 rfl dX2_letCount_48 ?_
        refine ek_dup X rfl dX2_letCount_49 ?_
        refine ek_get X hin_X2_letCount_X2 0 rfl rfl 6 (by decide) (List.mem_of_getElem? (i := 4) rfl) rfl dX2_letCount_50 ?_
        refine ek_top (v' := nI (hOr h)) rfl ?_
        refine ek_ic (v := nI 1) X (by decide) dX2_letCount_53 ?_
        refine ek_Nadd X dX2_letCount_54 ?_
        refine ek_put (w' := wE ad e cI (hPl h, hEar h, hK h, (hCt h) + 1, (hOr h) + 1, nI t, hFa h, eN (hFi h) p (nI t))) X hin_X2_letCount_X2 tyX2 tyX2_ok nmX2 0 rfl rfl 6 (by decide) (List.mem_of_getElem? (i := 4) rfl) rfl rfl rfl rfl (Nat.le_of_ble_eq_true rfl) rfl dX2_letCount_55 ?_
        exact ek_retv X () ⟨rfl, trivial⟩ (by unfold hCount; first | (rw [if_pos (show p = hOr h by assumption), if_pos (show hFi h p < 0 from Int32.not_le.mp (by assumption))]) | (rw [if_pos (show p = hOr h by assumption), if_neg (show ¬ hFi h p < 0 from Int32.not_lt.mpr (by assumption))]) | (rw [if_neg (show ¬ p = hOr h by assumption), if_pos (show hFi h p < 0 from Int32.not_le.mp (by assumption))]) | (rw [if_neg (show ¬ p = hOr h by assumption), if_neg (show ¬ hFi h p < 0 from Int32.not_lt.mpr (by assumption))]) | exact absurd ⟨by rw [nI_leI (by omega) (by omega)]; omega, by rw [nI_leI (by omega) (by omega)]; omega⟩ c_18) dX2_letCount_58
  · refine ek_top (v' := nI 0) (congrArg nI (if_neg c_18)) ?_
    refine ek_Zeq X (by omega) 40 (by decide) dX2_letCount_21 (fun _ => ?_) (fun h => absurd h (by omega))
    refine ek_iln X 2 rfl dX2_letCount_40 ?_
    refine ek_aln X 0 rfl dX2_letCount_41 ?_
    refine ek_get X hin_X2_letCount_X2 0 rfl rfl 6 (by decide) (List.mem_of_getElem? (i := 4) rfl) rfl dX2_letCount_42 ?_
    refine ek_top (v' := nI (hOr h)) rfl ?_
    refine ek_Nne X (by omega) (by omega) 58 (by decide) dX2_letCount_45 (fun c_45 => ?_) (fun c_45 => ?_)
    · skip
      exact ek_retv X () ⟨rfl, trivial⟩ (by unfold hCount; first | (rw [if_pos (show p = hOr h by assumption), if_pos (show hFi h p < 0 from Int32.not_le.mp (by assumption))]) | (rw [if_pos (show p = hOr h by assumption), if_neg (show ¬ hFi h p < 0 from Int32.not_lt.mpr (by assumption))]) | (rw [if_neg (show ¬ p = hOr h by assumption), if_pos (show hFi h p < 0 from Int32.not_le.mp (by assumption))]) | (rw [if_neg (show ¬ p = hOr h by assumption), if_neg (show ¬ hFi h p < 0 from Int32.not_lt.mpr (by assumption))]) | exact absurd ⟨by rw [nI_leI (by omega) (by omega)]; omega, by rw [nI_leI (by omega) (by omega)]; omega⟩ c_18) dX2_letCount_58
    · skip
      refine ek_aln X 0 rfl dX2_letCount_48 ?_
      refine ek_dup X rfl dX2_letCount_49 ?_
      refine ek_get X hin_X2_letCount_X2 0 rfl rfl 6 (by decide) (List.mem_of_getElem? (i := 4) rfl) rfl dX2_letCount_50 ?_
      refine ek_top (v' := nI (hOr h)) rfl ?_
      refine ek_ic (v := nI 1) X (by decide) dX2_letCount_53 ?_
      refine ek_Nadd X dX2_letCount_54 ?_
      refine ek_put (w' := wE ad e cI (hPl h, hEar h, hK h, (hCt h) + 1, (hOr h) + 1, nI t, hFa h, hFi h)) X hin_X2_letCount_X2 tyX2 tyX2_ok nmX2 0 rfl rfl 6 (by decide) (List.mem_of_getElem? (i := 4) rfl) rfl rfl rfl rfl (Nat.le_of_ble_eq_true rfl) rfl dX2_letCount_55 ?_
      exact ek_retv X () ⟨rfl, trivial⟩ (by unfold hCount; first | (rw [if_pos (show p = hOr h by assumption), if_pos (show hFi h p < 0 from Int32.not_le.mp (by assumption))]) | (rw [if_pos (show p = hOr h by assumption), if_neg (show ¬ hFi h p < 0 from Int32.not_lt.mpr (by assumption))]) | (rw [if_neg (show ¬ p = hOr h by assumption), if_pos (show hFi h p < 0 from Int32.not_le.mp (by assumption))]) | (rw [if_neg (show ¬ p = hOr h by assumption), if_neg (show ¬ hFi h p < 0 from Int32.not_lt.mpr (by assumption))]) | exact absurd ⟨by rw [nI_leI (by omega) (by omega)]; omega, by rw [nI_leI (by omega) (by omega)]; omega⟩ c_18) dX2_letCount_58

theorem hin_X2_hear_X2 : ∀ x ∈ wsX20, x ∈ wsX2_hear := fun x h => List.mem_cons_of_mem _ (List.mem_append_right _ h)
abbrev rm_X2_hear : Room := { frames := 3, cells := 0, slots := 0, locals := 56 }
set_option maxHeartbeats 4000000 in
set_option maxRecDepth 100000 in
theorem c_X2_hear (l : Launch) (D : va_G) (cI cJ cR : ClassId) (ad : Nat → Nat) (e : Nat) (h : EchT) (t p y z : Nat) (hh : hOk h) (hp : p < 6) (hz : z < 128) : ek_M (S := Unit) l yX2_hear wsX2_hear rm_X2_hear D (tyW cI cJ cR) nestW [.ref (ad e), .int (nI t), .int (nI p), .int (nI y), .int (nI z)] (wE ad e cI h) (fun r9 _ => r9 = none ∧ True) (fun _ => wE ad e cI (hHear h t p y z)) := by
  refine ek_M.of (cc := cX2_hear) (maxL := 6) (ret := none) (by decide) rfl (Nat.le_of_ble_eq_true rfl) ?_
  intro p9 e9 s9 m9 args9 below9 meth9 c9 A X hin
  obtain ⟨hp1, hp2, hp3, hp4, hp5, hp6⟩ := id hh
  refine ek_castL (lv' := [(0, .ref (ad e)), (1, .int (nI t)), (2, .int (nI p)), (3, .int (nI y)), (4, .int (nI z))]) rfl ?_
  refine ek_aln X 0 rfl dX2_hear_0 ?_
  refine ek_get X hin_X2_hear_X2 0 rfl rfl 4 (by decide) (List.mem_of_getElem? (i := 1) rfl) rfl dX2_hear_1 ?_
  refine ek_bp (v := nI 60) X (by decide) dX2_hear_4 ?_
  refine ek_Nlt X (by omega) (by omega) 10 (by decide) dX2_hear_6 (fun c_6 => ?_) (fun c_6 => ?_)
  · skip
    refine ek_aln X 0 rfl dX2_hear_10 ?_
    refine ek_get X hin_X2_hear_X2 0 rfl rfl 4 (by decide) (List.mem_of_getElem? (i := 1) rfl) rfl dX2_hear_11 ?_
    refine ek_ic (v := nI 5) X (by decide) dX2_hear_14 ?_
    refine ek_Nmul X dX2_hear_15 ?_
    refine ek_is (lv' := [(5, .int (nI ((hK h) * 5))), (0, .ref (ad e)), (1, .int (nI t)), (2, .int (nI p)), (3, .int (nI y)), (4, .int (nI z))]) X (by decide) rfl dX2_hear_16 ?_
    refine ek_aln X 1 rfl dX2_hear_18 ?_
    refine ek_get X hin_X2_hear_X2 0 rfl rfl 0 (by decide) (List.mem_of_getElem? (i := 2) rfl) rfl dX2_hear_19 ?_
    refine ek_il X 0 rfl dX2_hear_22 ?_
    refine ek_iln X 2 rfl dX2_hear_24 ?_
    refine ek_Nast (w' := wE ad e cI (hPl h, hEar h, hK h, hCt h, hOr h, hLa h, eN (hFa h) ((hK h) * 5) t, hFi h)) X 1 0 rfl rfl (by omega) (by omega) rfl dX2_hear_25 ?_
    refine ek_aln X 1 rfl dX2_hear_26 ?_
    refine ek_get X hin_X2_hear_X2 0 rfl rfl 0 (by decide) (List.mem_of_getElem? (i := 2) rfl) rfl dX2_hear_27 ?_
    refine ek_il X 0 rfl dX2_hear_30 ?_
    refine ek_ic (v := nI 1) X (by decide) dX2_hear_32 ?_
    refine ek_Nadd X dX2_hear_33 ?_
    refine ek_iln X 3 rfl dX2_hear_34 ?_
    refine ek_Nast (w' := wE ad e cI (hPl h, hEar h, hK h, hCt h, hOr h, hLa h, eN (eN (hFa h) ((hK h) * 5) t) (((hK h) * 5) + 1) p, hFi h)) X 1 0 rfl rfl (by omega) (by omega) rfl dX2_hear_35 ?_
    refine ek_aln X 1 rfl dX2_hear_36 ?_
    refine ek_get X hin_X2_hear_X2 0 rfl rfl 0 (by decide) (List.mem_of_getElem? (i := 2) rfl) rfl dX2_hear_37 ?_
    refine ek_il X 0 rfl dX2_hear_40 ?_
    refine ek_ic (v := nI 2) X (by decide) dX2_hear_42 ?_
    refine ek_Nadd X dX2_hear_43 ?_
    refine ek_iln X 4 rfl dX2_hear_44 ?_
    refine ek_Nast (w' := wE ad e cI (hPl h, hEar h, hK h, hCt h, hOr h, hLa h, eN (eN (eN (hFa h) ((hK h) * 5) t) (((hK h) * 5) + 1) p) (((hK h) * 5) + 2) y, hFi h)) X 1 0 rfl rfl (by omega) (by omega) rfl dX2_hear_45 ?_
    refine ek_aln X 1 rfl dX2_hear_46 ?_
    refine ek_get X hin_X2_hear_X2 0 rfl rfl 0 (by decide) (List.mem_of_getElem? (i := 2) rfl) rfl dX2_hear_47 ?_
    refine ek_il X 0 rfl dX2_hear_50 ?_
    refine ek_ic (v := nI 3) X (by decide) dX2_hear_52 ?_
    refine ek_Nadd X dX2_hear_53 ?_
    refine ek_il X 5 rfl dX2_hear_54 ?_
    refine ek_Nast (w' := wE ad e cI (hPl h, hEar h, hK h, hCt h, hOr h, hLa h, eN (eN (eN (eN (hFa h) ((hK h) * 5) t) (((hK h) * 5) + 1) p) (((hK h) * 5) + 2) y) (((hK h) * 5) + 3) z, hFi h)) X 1 0 rfl rfl (by omega) (by omega) rfl dX2_hear_56 ?_
    refine ek_aln X 1 rfl dX2_hear_57 ?_
    refine ek_get X hin_X2_hear_X2 0 rfl rfl 0 (by decide) (List.mem_of_getElem? (i := 2) rfl) rfl dX2_hear_58 ?_
    refine ek_il X 0 rfl dX2_hear_61 ?_
    refine ek_ic (v := nI 4) X (by decide) dX2_hear_63 ?_
    refine ek_Nadd X dX2_hear_64 ?_
    refine ek_il X 5 rfl dX2_hear_65 ?_
    refine ek_aln X 1 rfl dX2_hear_67 ?_
    refine ek_get X hin_X2_hear_X2 0 rfl rfl 3 (by decide) (List.mem_of_getElem? (i := 3) rfl) rfl dX2_hear_68 ?_
    refine ek_top (v' := nI (hEar h)) rfl ?_
    refine ek_Nlt X (by omega) (by omega) 78 (by decide) dX2_hear_71 (fun c_71 => ?_) (fun c_71 => ?_)
    · skip
      refine ek_ic (v := nI 0) X (by decide) dX2_hear_78 ?_
      refine ek_Nast (w' := wE ad e cI (hPl h, hEar h, hK h, hCt h, hOr h, hLa h, eN (eN (eN (eN (eN (hFa h) ((hK h) * 5) t) (((hK h) * 5) + 1) p) (((hK h) * 5) + 2) y) (((hK h) * 5) + 3) z) (((hK h) * 5) + 4) 0, hFi h)) X 1 0 rfl rfl (by omega) (by omega) rfl dX2_hear_79 ?_
      refine ek_aln X 1 rfl dX2_hear_80 ?_
      refine ek_dup X rfl dX2_hear_81 ?_
      refine ek_get X hin_X2_hear_X2 0 rfl rfl 4 (by decide) (List.mem_of_getElem? (i := 1) rfl) rfl dX2_hear_82 ?_
      refine ek_top (v' := nI (hK h)) rfl ?_
      refine ek_ic (v := nI 1) X (by decide) dX2_hear_85 ?_
      refine ek_Nadd X dX2_hear_86 ?_
      refine ek_put (w' := wE ad e cI (hPl h, hEar h, (hK h) + 1, hCt h, hOr h, hLa h, eN (eN (eN (eN (eN (hFa h) ((hK h) * 5) t) (((hK h) * 5) + 1) p) (((hK h) * 5) + 2) y) (((hK h) * 5) + 3) z) (((hK h) * 5) + 4) 0, hFi h)) X hin_X2_hear_X2 tyX2 tyX2_ok nmX2 0 rfl rfl 4 (by decide) (List.mem_of_getElem? (i := 1) rfl) rfl rfl rfl rfl (Nat.le_of_ble_eq_true rfl) rfl dX2_hear_87 ?_
      refine ek_il X 5 rfl dX2_hear_90 ?_
      refine ek_aln X 1 rfl dX2_hear_92 ?_
      refine ek_get X hin_X2_hear_X2 0 rfl rfl 3 (by decide) (List.mem_of_getElem? (i := 3) rfl) rfl dX2_hear_93 ?_
      refine ek_top (v' := nI (hEar h)) rfl ?_
      refine ek_Nlt X (by omega) (by omega) 105 (by decide) dX2_hear_96 (fun c_96 => ?_) (fun c_96 => ?_)
      · skip
        exact ek_retv X () ⟨rfl, trivial⟩ (by unfold hHear; first | (exfalso; omega) | rw [if_pos (by omega)] | (rw [if_neg (by omega), if_pos (by omega)]; unfold hKeep; rw [if_pos (by omega)]) | (rw [if_neg (by omega), if_neg (by omega)]; unfold hKeep; rw [if_neg (by omega)])) dX2_hear_105
      · skip
        refine ek_aln X 1 rfl dX2_hear_99 ?_
        refine ek_iln X 2 rfl dX2_hear_100 ?_
        refine ek_iln X 3 rfl dX2_hear_101 ?_
        refine ek_doWv X (ek_runV (As := [.int (nI t), .int (nI p)]) (rest := []) X (c_X2_letCount l D cI cJ cR ad e ((hPl h, hEar h, (hK h) + 1, hCt h, hOr h, hLa h, eN (eN (eN (eN (eN (hFa h) ((hK h) * 5) t) (((hK h) * 5) + 1) p) (((hK h) * 5) + 2) y) (((hK h) * 5) + 3) z) (((hK h) * 5) + 4) 0, hFi h)) t p hp (by show hOr h < 2147483648; omega)) gX2_hear_X2_letCount rfl hdV_X2_letCount ⟨Nat.le_of_ble_eq_true rfl, Nat.le_of_ble_eq_true rfl⟩ ⟨Nat.le_of_ble_eq_true rfl, Nat.le_of_ble_eq_true rfl⟩ [0, 1, 2] rfl (by decide) 0 2 rfl rfl (Nat.le_of_ble_eq_true rfl) dX2_hear_102) [0, 1, 2] [] rfl rfl (by decide) (by decide) (fun _ => wE ad e cI (hCount ((hPl h, hEar h, (hK h) + 1, hCt h, hOr h, hLa h, eN (eN (eN (eN (eN (hFa h) ((hK h) * 5) t) (((hK h) * 5) + 1) p) (((hK h) * 5) + 2) y) (((hK h) * 5) + 3) z) (((hK h) * 5) + 4) 0, hFi h)) t p)) [0, 1, 2] (by decide) (fun _ => rfl) (fun u_102 hv_102 => ?_)
        exact ek_retv X () ⟨rfl, trivial⟩ (by unfold hHear; first | (exfalso; omega) | rw [if_pos (by omega)] | (rw [if_neg (by omega), if_pos (by omega)]; unfold hKeep; rw [if_pos (by omega)]) | (rw [if_neg (by omega), if_neg (by omega)]; unfold hKeep; rw [if_neg (by omega)])) dX2_hear_105
    · skip
      refine ek_ic (v := nI 1) X (by decide) dX2_hear_74 ?_
      refine ek_goto X 79 (by decide) dX2_hear_75 ?_
      refine ek_Nast (w' := wE ad e cI (hPl h, hEar h, hK h, hCt h, hOr h, hLa h, eN (eN (eN (eN (eN (hFa h) ((hK h) * 5) t) (((hK h) * 5) + 1) p) (((hK h) * 5) + 2) y) (((hK h) * 5) + 3) z) (((hK h) * 5) + 4) 1, hFi h)) X 1 0 rfl rfl (by omega) (by omega) rfl dX2_hear_79 ?_
      refine ek_aln X 1 rfl dX2_hear_80 ?_
      refine ek_dup X rfl dX2_hear_81 ?_
      refine ek_get X hin_X2_hear_X2 0 rfl rfl 4 (by decide) (List.mem_of_getElem? (i := 1) rfl) rfl dX2_hear_82 ?_
      refine ek_top (v' := nI (hK h)) rfl ?_
      refine ek_ic (v := nI 1) X (by decide) dX2_hear_85 ?_
      refine ek_Nadd X dX2_hear_86 ?_
      refine ek_put (w' := wE ad e cI (hPl h, hEar h, (hK h) + 1, hCt h, hOr h, hLa h, eN (eN (eN (eN (eN (hFa h) ((hK h) * 5) t) (((hK h) * 5) + 1) p) (((hK h) * 5) + 2) y) (((hK h) * 5) + 3) z) (((hK h) * 5) + 4) 1, hFi h)) X hin_X2_hear_X2 tyX2 tyX2_ok nmX2 0 rfl rfl 4 (by decide) (List.mem_of_getElem? (i := 1) rfl) rfl rfl rfl rfl (Nat.le_of_ble_eq_true rfl) rfl dX2_hear_87 ?_
      refine ek_il X 5 rfl dX2_hear_90 ?_
      refine ek_aln X 1 rfl dX2_hear_92 ?_
      refine ek_get X hin_X2_hear_X2 0 rfl rfl 3 (by decide) (List.mem_of_getElem? (i := 3) rfl) rfl dX2_hear_93 ?_
      refine ek_top (v' := nI (hEar h)) rfl ?_
      refine ek_Nlt X (by omega) (by omega) 105 (by decide) dX2_hear_96 (fun c_96 => ?_) (fun c_96 => ?_)
      · skip
        exact ek_retv X () ⟨rfl, trivial⟩ (by unfold hHear; first | (exfalso; omega) | rw [if_pos (by omega)] | (rw [if_neg (by omega), if_pos (by omega)]; unfold hKeep; rw [if_pos (by omega)]) | (rw [if_neg (by omega), if_neg (by omega)]; unfold hKeep; rw [if_neg (by omega)])) dX2_hear_105
      · skip
        refine ek_aln X 1 rfl dX2_hear_99 ?_
        refine ek_iln X 2 rfl dX2_hear_100 ?_
        refine ek_iln X 3 rfl dX2_hear_101 ?_
        refine ek_doWv X (ek_runV (As := [.int (nI t), .int (nI p)]) (rest := []) X (c_X2_letCount l D cI cJ cR ad e ((hPl h, hEar h, (hK h) + 1, hCt h, hOr h, hLa h, eN (eN (eN (eN (eN (hFa h) ((hK h) * 5) t) (((hK h) * 5) + 1) p) (((hK h) * 5) + 2) y) (((hK h) * 5) + 3) z) (((hK h) * 5) + 4) 1, hFi h)) t p hp (by show hOr h < 2147483648; omega)) gX2_hear_X2_letCount rfl hdV_X2_letCount ⟨Nat.le_of_ble_eq_true rfl, Nat.le_of_ble_eq_true rfl⟩ ⟨Nat.le_of_ble_eq_true rfl, Nat.le_of_ble_eq_true rfl⟩ [0, 1, 2] rfl (by decide) 0 2 rfl rfl (Nat.le_of_ble_eq_true rfl) dX2_hear_102) [0, 1, 2] [] rfl rfl (by decide) (by decide) (fun _ => wE ad e cI (hCount ((hPl h, hEar h, (hK h) + 1, hCt h, hOr h, hLa h, eN (eN (eN (eN (eN (hFa h) ((hK h) * 5) t) (((hK h) * 5) + 1) p) (((hK h) * 5) + 2) y) (((hK h) * 5) + 3) z) (((hK h) * 5) + 4) 1, hFi h)) t p)) [0, 1, 2] (by decide) (fun _ => rfl) (fun u_102 hv_102 => ?_)
        exact ek_retv X () ⟨rfl, trivial⟩ (by unfold hHear; first | (exfalso; omega) | rw [if_pos (by omega)] | (rw [if_neg (by omega), if_pos (by omega)]; unfold hKeep; rw [if_pos (by omega)]) | (rw [if_neg (by omega), if_neg (by omega)]; unfold hKeep; rw [if_neg (by omega)])) dX2_hear_105
  · skip
    exact ek_retv X () ⟨rfl, trivial⟩ (by unfold hHear; first | (exfalso; omega) | rw [if_pos (by omega)] | (rw [if_neg (by omega), if_pos (by omega)]; unfold hKeep; rw [if_pos (by omega)]) | (rw [if_neg (by omega), if_neg (by omega)]; unfold hKeep; rw [if_neg (by omega)])) dX2_hear_9

theorem hin_X2_cameInOrder_X2 : ∀ x ∈ wsX20, x ∈ wsX2_cameInOrder := fun x h => List.mem_cons_of_mem _ (List.mem_append_right _ h)
abbrev rm_X2_cameInOrder : Room := { frames := 1, cells := 0, slots := 0, locals := 12 }
set_option maxHeartbeats 4000000 in
set_option maxRecDepth 100000 in
theorem c_X2_cameInOrder (l : Launch) (D : va_G) (cI cJ cR : ClassId) (ad : Nat → Nat) (e : Nat) (h : EchT) (hh : hOk h) : ek_R l yX2_cameInOrder wsX2_cameInOrder rm_X2_cameInOrder D (tyW cI cJ cR) nestW [.ref (ad e)] (wE ad e cI h) (fun r9 => ∃ v : Int32, r9 = some (.int v) ∧ v = nI (if hIn h then 1 else 0)) := by
  refine ek_R.of (cc := cX2_cameInOrder) (maxL := 1) (ret := (some .boolean)) (by decide) rfl (Nat.le_of_ble_eq_true rfl) ?_
  intro p9 e9 s9 m9 args9 below9 meth9 c9 X
  obtain ⟨hp1, hp2, hp3, hp4, hp5, hp6⟩ := id hh
  refine ek_castL (lv' := [(0, .ref (ad e))]) rfl ?_
  refine ek_aln X 0 rfl dX2_cameInOrder_0 ?_
  refine ek_get X hin_X2_cameInOrder_X2 0 rfl rfl 2 (by decide) (List.mem_of_getElem? (i := 1) rfl) rfl dX2_cameInOrder_1 ?_
  refine ek_Zle X (by omega) 22 (by decide) dX2_cameInOrder_4 (fun c_4 => ?_) (fun c_4 => ?_)
  · skip
    refine ek_ic (v := nI 0) X (by decide) dX2_cameInOrder_22 ?_
    exact ek_retzR X (by decide) ⟨_, rfl, (by first | exact (congrArg nI (if_pos (by omega))).symm | exact (congrArg nI (if_neg (by omega))).symm)⟩ dX2_cameInOrder_23
  · skip
    refine ek_aln X 0 rfl dX2_cameInOrder_7 ?_
    refine ek_get X hin_X2_cameInOrder_X2 0 rfl rfl 6 (by decide) (List.mem_of_getElem? (i := 2) rfl) rfl dX2_cameInOrder_8 ?_
    refine ek_aln X 0 rfl dX2_cameInOrder_11 ?_
    refine ek_get X hin_X2_cameInOrder_X2 0 rfl rfl 2 (by decide) (List.mem_of_getElem? (i := 1) rfl) rfl dX2_cameInOrder_12 ?_
    refine ek_Nne X (by omega) (by omega) 22 (by decide) dX2_cameInOrder_15 (fun c_15 => ?_) (fun c_15 => ?_)
    · skip
      refine ek_ic (v := nI 0) X (by decide) dX2_cameInOrder_22 ?_
      exact ek_retzR X (by decide) ⟨_, rfl, (by first | exact (congrArg nI (if_pos (by omega))).symm | exact (congrArg nI (if_neg (by omega))).symm)⟩ dX2_cameInOrder_23
    · skip
      refine ek_ic (v := nI 1) X (by decide) dX2_cameInOrder_18 ?_
      refine ek_goto X 23 (by decide) dX2_cameInOrder_19 ?_
      exact ek_retzR X (by decide) ⟨_, rfl, (by first | exact (congrArg nI (if_pos (by omega))).symm | exact (congrArg nI (if_neg (by omega))).symm)⟩ dX2_cameInOrder_23

theorem hin_X2_heardFact_X2 : ∀ x ∈ wsX20, x ∈ wsX2_heardFact := fun x h => List.mem_cons_of_mem _ (List.mem_append_right _ h)
abbrev rm_X2_heardFact : Room := { frames := 1, cells := 0, slots := 0, locals := 12 }
set_option maxHeartbeats 4000000 in
set_option maxRecDepth 100000 in
theorem c_X2_heardFact (l : Launch) (D : va_G) (cI cJ cR : ClassId) (ad : Nat → Nat) (e : Nat) (h : EchT) (i k : Nat) (hi : i < 60) (hk : k < 5) : ek_R l yX2_heardFact wsX2_heardFact rm_X2_heardFact D (tyW cI cJ cR) nestW [.ref (ad e), .int (nI i), .int (nI k)] (wE ad e cI h) (fun r9 => ∃ v : Int32, r9 = some (.int v) ∧ v = nI (hFa h (i * 5 + k))) := by
  refine ek_R.of (cc := cX2_heardFact) (maxL := 3) (ret := (some .int)) (by decide) rfl (Nat.le_of_ble_eq_true rfl) ?_
  intro p9 e9 s9 m9 args9 below9 meth9 c9 X
  refine ek_castL (lv' := [(0, .ref (ad e)), (1, .int (nI i)), (2, .int (nI k))]) rfl ?_
  refine ek_aln X 0 rfl dX2_heardFact_0 ?_
  refine ek_get X hin_X2_heardFact_X2 0 rfl rfl 0 (by decide) (List.mem_of_getElem? (i := 1) rfl) rfl dX2_heardFact_1 ?_
  refine ek_iln X 1 rfl dX2_heardFact_4 ?_
  refine ek_ic (v := nI 5) X (by decide) dX2_heardFact_5 ?_
  refine ek_Nmul X dX2_heardFact_6 ?_
  refine ek_iln X 2 rfl dX2_heardFact_7 ?_
  refine ek_Nadd X dX2_heardFact_8 ?_
  refine ek_ald X 1 0 rfl rfl (by omega) (by omega) dX2_heardFact_9 ?_
  exact ek_retiR X ⟨_, rfl, rfl⟩ dX2_heardFact_10
