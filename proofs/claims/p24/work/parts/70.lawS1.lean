/-! ===== the law's body, S1 ===== -/
set_option maxHeartbeats 4000000 in
set_option maxRecDepth 100000 in
theorem law_S1 {p : Program} {l : Launch} {e : Env} {s9 : State} {m9 : MethodId} {args9 : Array Value} {below9 : List Frame} {meth9 : Method} {c9 : Code} {D : va_G} {cI cJ cR : ClassId} {A : Nat → Prop} {Q : State → Prop} {ad : Nat → Nat} {b L : Nat} {xs : Nat → Int32} (X : ek_X p s9 m9 args9 meth9 c9 RL cL_law 29 (some .boolean) wsL_law nestW D (tyW cI cJ cR) A A True) (hl : l.stackTraces = false) (hZ : ek_Zt A s9) (hS9 : ek_S9 A b L xs s9) {C P t : Nat} {cv : CavT} {g : SndT} {q : QueT} {u : CaveT} {h k : EchT} (hA : cAll u) (hC : cC u = C) (hP : cP u = P) (hC2 : 2 ≤ C) (hI : sOk g q) (hH : hOk h) (hK : hOk k) (he1 : 1 ≤ vEar cv) (he : vEar cv ≤ 50) (ht : t < 24) (hv : vSaid cv = t)
    (kk : ∀ (cv' : CavT) (u' : CaveT) (x6 : Int32), cAll u' → cC u' = C → cP u' = P → 1 ≤ vEar cv' → vEar cv' ≤ 50 → vSaid cv' = t → ek_G p l e room_1 s9 m9 args9 below9 meth9 c9 29 D A A (1100 + 5000 * t + 20) (9000 + 40000 * t + 200) Q (wV ad cI cJ cR cv' g q u' h k) 190 [(0, .ref b), (1, .ref (ad 46)), (2, .int (nI C)), (3, .int (nI P)), (4, .int (nI t)), (5, .int (nI t)), (6, .int x6)] []) : ek_G p l e room_1 s9 m9 args9 below9 meth9 c9 29 D A A (1100 + 5000 * t) (9000 + 40000 * t) Q (wV ad cI cJ cR cv g q u h k) 30 [(0, .ref b), (1, .ref (ad 46)), (2, .int (nI C)), (3, .int (nI P)), (4, .int (nI t)), (5, .int (nI t))] [] := by
  have hC12 : C ≤ 12 := by have := hA.1.1.2; omega
  have hP18 : P ≤ 18 := by have := hA.1.2.1; omega
  refine ek_aln X 0 rfl dL_law_30 ?_
  refine ek_il X 5 rfl dL_law_31 ?_
  refine ek_bp (v := nI 16) X (by decide) dL_law_33 ?_
  refine ek_Nrem X (by omega) (by omega) (by omega) dL_law_35 ?_
  refine ek_doS (As := [.ref b, .int (nI (t % 16))]) (rest := []) X hS9 (c_L_cell l D cI cJ cR b L xs hS9.2.2.2 (t % 16) (by omega)) gL_law_L_cell rfl hd_L_cell ⟨Nat.le_of_ble_eq_true rfl, Nat.le_of_ble_eq_true rfl⟩ ⟨rfl, rfl⟩ ⟨(show (1100 + 5000 * t) ≤ 600104 by omega), (show (9000 + 40000 * t) ≤ 7301313 by omega)⟩ (Nat.le_of_ble_eq_true rfl) dL_law_36 (fun v_36 _ => ?_)
  refine ek_il X 5 rfl dL_law_39 ?_
  refine ek_bp (v := nI 16) X (by decide) dL_law_41 ?_
  refine ek_Ndiv X (by omega) (by omega) (by omega) dL_law_43 ?_
  refine ek_bp (v := nI 6) X (by decide) dL_law_44 ?_
  refine ek_Nmul X dL_law_46 ?_
  refine ek_shr X dL_law_47 ?_
  obtain ⟨x6, hx6⟩ : ∃ z : Int32, z = v_36 >>> ((nI ((t / 16) * 6)) &&& 31) := ⟨_, rfl⟩
  refine ek_top (v' := x6) hx6.symm ?_
  clear hx6
  refine ek_is (lv' := [(6, .int x6), (0, .ref b), (1, .ref (ad 46)), (2, .int (nI C)), (3, .int (nI P)), (4, .int (nI t)), (5, .int (nI t))]) X (by decide) rfl dL_law_48 ?_
  refine ek_il X 0 rfl dL_law_50 ?_
  refine ek_ic (v := nI 3) X (by decide) dL_law_52 ?_
  refine ek_shr X dL_law_53 ?_
  refine ek_iln X 3 rfl dL_law_54 ?_
  refine ek_doRi (ek_runS (As := [.int (x6 >>> ((nI 3) &&& 31)), .int (nI C)]) (rest := []) X (c_L_below l D cI cJ cR (x6 >>> ((nI 3) &&& 31)) C (by omega) (by omega)) gL_law_L_below rfl hd_L_below ⟨Nat.le_of_ble_eq_true rfl, Nat.le_of_ble_eq_true rfl⟩ ⟨(show (1100 + 5000 * t) + 0 ≤ 600104 by omega), (show (9000 + 40000 * t) + 0 ≤ 7301313 by omega)⟩ [] rfl (by decide) (Nat.le_of_ble_eq_true rfl) dL_law_55) (fun v_55 hv_55 => ?_)
  obtain ⟨r_55, hr_55, rfl⟩ := hv_55
  refine ek_is (lv' := [(7, .int (nI r_55)), (6, .int x6), (0, .ref b), (1, .ref (ad 46)), (2, .int (nI C)), (3, .int (nI P)), (4, .int (nI t)), (5, .int (nI t))]) X (by decide) rfl dL_law_58 ?_
  refine ek_il X 1 rfl dL_law_60 ?_
  refine ek_bp (v := nI 6) X (by decide) dL_law_62 ?_
  refine ek_doRi (ek_runS (As := [.int x6, .int (nI 6)]) (rest := []) X (c_L_below l D cI cJ cR x6 6 (by omega) (by omega)) gL_law_L_below rfl hd_L_below ⟨Nat.le_of_ble_eq_true rfl, Nat.le_of_ble_eq_true rfl⟩ ⟨(show (1100 + 5000 * t) + 0 ≤ 600104 by omega), (show (9000 + 40000 * t) + 0 ≤ 7301313 by omega)⟩ [] rfl (by decide) (Nat.le_of_ble_eq_true rfl) dL_law_64) (fun v_64 hv_64 => ?_)
  obtain ⟨r_64, hr_64, rfl⟩ := hv_64
  rcases (show r_64 = 0 ∨ r_64 = 1 ∨ r_64 = 2 ∨ r_64 = 3 ∨ 3 < r_64 by omega) with rfl | rfl | rfl | rfl | c_67
  · refine ek_tsN X 96 (by decide) (by decide) rfl (by decide) dL_law_67 ?_
    refine ek_aln X 3 rfl dL_law_96 ?_
    refine ek_il X 1 rfl dL_law_97 ?_
    refine ek_ic (v := nI 5) X (by decide) dL_law_99 ?_
    refine ek_shr X dL_law_100 ?_
    refine ek_bp (v := nI 31) X (by decide) dL_law_101 ?_
    refine ek_doRi (ek_runS (As := [.int (x6 >>> ((nI 5) &&& 31)), .int (nI 31)]) (rest := [.ref (ad 46)]) X (c_L_below l D cI cJ cR (x6 >>> ((nI 5) &&& 31)) 31 (by omega) (by omega)) gL_law_L_below rfl hd_L_below ⟨Nat.le_of_ble_eq_true rfl, Nat.le_of_ble_eq_true rfl⟩ ⟨(show (1100 + 5000 * t) + 0 ≤ 600104 by omega), (show (9000 + 40000 * t) + 0 ≤ 7301313 by omega)⟩ [] rfl (by decide) (Nat.le_of_ble_eq_true rfl) dL_law_103) (fun v_103 hv_103 => ?_)
    obtain ⟨r_103, hr_103, rfl⟩ := hv_103
    refine lx_call0 (As := [.int (nI r_103)]) (rest := []) (kc := 1) (ks := 6) X hZ (c_X4_setWater l hl D cI cJ cR ad cv g q u h k hA.1 r_103 (by omega)) (fun E => by rw [show xSetW r_103 = 0 from by unfold xSetW; rw [if_pos (by omega)]]; rintro ⟨h1, -⟩ <;> exact absurd h1 (by decide)) ⟨rfl, rfl⟩ gL_law_X4_setWater rfl hdV_X4_setWater ⟨Nat.le_of_ble_eq_true rfl, Nat.le_of_ble_eq_true rfl⟩ ⟨(show (1100 + 5000 * t) + 1 ≤ 600104 by omega), (show (9000 + 40000 * t) + 6 ≤ 7301313 by omega)⟩ (Nat.le_of_ble_eq_true rfl) dL_law_106 (fun v_106 hv_106 => ?_)
    obtain ⟨-, rfl⟩ := hv_106
    refine ek_pop X rfl dL_law_109 ?_
    refine ek_goto X 190 (by decide) dL_law_110 ?_
    refine ek_widen (k' := (1100 + 5000 * t + 20)) (n' := (9000 + 40000 * t + 200)) (show ((1100 + 5000 * t) + 1) ≤ (1100 + 5000 * t + 20) by omega) (show ((9000 + 40000 * t) + 6) ≤ (9000 + 40000 * t + 200) by omega) ?_
    refine ek_re [2, 3, 4, 5, 6, 7, 1] rfl ?_
    exact kk cv ((cC u, cP u, r_103, cWal u, cHgt u, cBat u, cSyl u, cDel u, cDrs u, cFrm u, cTo u, cLen u, cNar u, cPb u, cFnd u)) x6 (by first | exact cAll_water hA (by omega) | exact cAll_bats hA (by omega) | exact cAll_clap hA (by omega) (by omega)) hC hP he1 he hv
  · refine ek_tsN X 113 (by decide) (by decide) rfl (by decide) dL_law_67 ?_
    refine ek_aln X 3 rfl dL_law_113 ?_
    refine ek_il X 0 rfl dL_law_114 ?_
    refine ek_il X 1 rfl dL_law_116 ?_
    refine ek_ic (v := nI 5) X (by decide) dL_law_118 ?_
    refine ek_shr X dL_law_119 ?_
    refine ek_bp (v := nI 21) X (by decide) dL_law_120 ?_
    refine ek_doRi (ek_runS (As := [.int (x6 >>> ((nI 5) &&& 31)), .int (nI 21)]) (rest := [.int (nI r_55), .ref (ad 46)]) X (c_L_below l D cI cJ cR (x6 >>> ((nI 5) &&& 31)) 21 (by omega) (by omega)) gL_law_L_below rfl hd_L_below ⟨Nat.le_of_ble_eq_true rfl, Nat.le_of_ble_eq_true rfl⟩ ⟨(show (1100 + 5000 * t) + 0 ≤ 600104 by omega), (show (9000 + 40000 * t) + 0 ≤ 7301313 by omega)⟩ [] rfl (by decide) (Nat.le_of_ble_eq_true rfl) dL_law_122) (fun v_122 hv_122 => ?_)
    obtain ⟨r_122, hr_122, rfl⟩ := hv_122
    refine lx_call0 (As := [.int (nI r_55), .int (nI r_122)]) (rest := []) (kc := 2) (ks := 12) X hZ (c_X4_setBats l hl D cI cJ cR ad cv g q u h k hA.1 r_55 r_122 (by omega) (by omega)) (fun E => by rw [show xSetB r_55 r_122 (cC u) = 0 from by unfold xSetB; rw [if_pos (by omega), if_pos (by omega)]]; rintro (⟨h1, -⟩ | ⟨h1, -⟩) <;> exact absurd h1 (by decide)) ⟨rfl, rfl⟩ gL_law_X4_setBats rfl hdV_X4_setBats ⟨Nat.le_of_ble_eq_true rfl, Nat.le_of_ble_eq_true rfl⟩ ⟨(show (1100 + 5000 * t) + 2 ≤ 600104 by omega), (show (9000 + 40000 * t) + 12 ≤ 7301313 by omega)⟩ (Nat.le_of_ble_eq_true rfl) dL_law_125 (fun v_125 hv_125 => ?_)
    obtain ⟨-, rfl⟩ := hv_125
    refine ek_pop X rfl dL_law_128 ?_
    refine ek_goto X 190 (by decide) dL_law_129 ?_
    refine ek_widen (k' := (1100 + 5000 * t + 20)) (n' := (9000 + 40000 * t + 200)) (show ((1100 + 5000 * t) + 2) ≤ (1100 + 5000 * t + 20) by omega) (show ((9000 + 40000 * t) + 12) ≤ (9000 + 40000 * t + 200) by omega) ?_
    refine ek_re [2, 3, 4, 5, 6, 7, 1] rfl ?_
    exact kk cv ((cC u, cP u, cW u, cWal u, cHgt u, eN (cBat u) r_55 r_122, cSyl u, cDel u, cDrs u, cFrm u, cTo u, cLen u, cNar u, cPb u, cFnd u)) x6 (by first | exact cAll_water hA (by omega) | exact cAll_bats hA (by omega) | exact cAll_clap hA (by omega) (by omega)) hC hP he1 he hv
  · refine ek_tsN X 132 (by decide) (by decide) rfl (by decide) dL_law_67 ?_
    refine ek_il X 0 rfl dL_law_132 ?_
    refine ek_Zle X (by omega) 190 (by decide) dL_law_134 (fun c_134 => ?_) (fun c_134 => ?_)
    · skip
      refine ek_widen (k' := (1100 + 5000 * t + 20)) (n' := (9000 + 40000 * t + 200)) (show (1100 + 5000 * t) ≤ (1100 + 5000 * t + 20) by omega) (show (9000 + 40000 * t) ≤ (9000 + 40000 * t + 200) by omega) ?_
      refine ek_re [2, 3, 4, 5, 6, 7, 1] rfl ?_
      exact kk cv u x6 hA hC hP he1 he hv
    · skip
      refine ek_aln X 3 rfl dL_law_137 ?_
      refine ek_il X 0 rfl dL_law_138 ?_
      refine ek_il X 1 rfl dL_law_140 ?_
      refine ek_ic (v := nI 5) X (by decide) dL_law_142 ?_
      refine ek_shr X dL_law_143 ?_
      refine ek_ic (v := nI 4) X (by decide) dL_law_144 ?_
      refine ek_doRi (ek_runS (As := [.int (x6 >>> ((nI 5) &&& 31)), .int (nI 4)]) (rest := [.int (nI r_55), .ref (ad 46)]) X (c_L_below l D cI cJ cR (x6 >>> ((nI 5) &&& 31)) 4 (by omega) (by omega)) gL_law_L_below rfl hd_L_below ⟨Nat.le_of_ble_eq_true rfl, Nat.le_of_ble_eq_true rfl⟩ ⟨(show (1100 + 5000 * t) + 0 ≤ 600104 by omega), (show (9000 + 40000 * t) + 0 ≤ 7301313 by omega)⟩ [] rfl (by decide) (Nat.le_of_ble_eq_true rfl) dL_law_145) (fun v_145 hv_145 => ?_)
      obtain ⟨r_145, hr_145, rfl⟩ := hv_145
      refine ek_il X 1 rfl dL_law_148 ?_
      refine ek_bp (v := nI 8) X (by decide) dL_law_150 ?_
      refine ek_shr X dL_law_152 ?_
      refine ek_bp (v := nI 21) X (by decide) dL_law_153 ?_
      refine ek_doRi (ek_runS (As := [.int (x6 >>> ((nI 8) &&& 31)), .int (nI 21)]) (rest := [.int (nI r_145), .int (nI r_55), .ref (ad 46)]) X (c_L_below l D cI cJ cR (x6 >>> ((nI 8) &&& 31)) 21 (by omega) (by omega)) gL_law_L_below rfl hd_L_below ⟨Nat.le_of_ble_eq_true rfl, Nat.le_of_ble_eq_true rfl⟩ ⟨(show (1100 + 5000 * t) + 0 ≤ 600104 by omega), (show (9000 + 40000 * t) + 0 ≤ 7301313 by omega)⟩ [] rfl (by decide) (Nat.le_of_ble_eq_true rfl) dL_law_155) (fun v_155 hv_155 => ?_)
      obtain ⟨r_155, hr_155, rfl⟩ := hv_155
      refine lx_call0 (As := [.int (nI r_55), .int (nI r_145), .int (nI r_155)]) (rest := []) (kc := 4) (ks := 24) X hZ (c_X4_setClapper l hl D cI cJ cR ad cv g q u h k hA.1 r_55 r_145 r_155 (by omega) (by omega) (by omega)) (fun E => by rw [show xSetC r_55 r_145 r_155 (cC u) = 0 from by unfold xSetC; rw [if_pos (by omega), if_pos (by omega)]]; rintro (⟨h1, -⟩ | ⟨h1, -⟩) <;> exact absurd h1 (by decide)) ⟨rfl, rfl⟩ gL_law_X4_setClapper rfl hdV_X4_setClapper ⟨Nat.le_of_ble_eq_true rfl, Nat.le_of_ble_eq_true rfl⟩ ⟨(show (1100 + 5000 * t) + 4 ≤ 600104 by omega), (show (9000 + 40000 * t) + 24 ≤ 7301313 by omega)⟩ (Nat.le_of_ble_eq_true rfl) dL_law_158 (fun v_158 hv_158 => ?_)
      obtain ⟨-, rfl⟩ := hv_158
      refine ek_pop X rfl dL_law_161 ?_
      refine ek_goto X 190 (by decide) dL_law_162 ?_
      refine ek_widen (k' := (1100 + 5000 * t + 20)) (n' := (9000 + 40000 * t + 200)) (show ((1100 + 5000 * t) + 4) ≤ (1100 + 5000 * t + 20) by omega) (show ((9000 + 40000 * t) + 24) ≤ (9000 + 40000 * t + 200) by omega) ?_
      refine ek_re [2, 3, 4, 5, 6, 7, 1] rfl ?_
      exact kk cv ((cClap u r_55 r_145 r_155)) x6 (by first | exact cAll_water hA (by omega) | exact cAll_bats hA (by omega) | exact cAll_clap hA (by omega) (by omega)) hC hP he1 he hv
  · refine ek_tsN X 165 (by decide) (by decide) rfl (by decide) dL_law_67 ?_
    refine ek_aln X 3 rfl dL_law_165 ?_
    refine ek_ic (v := nI 1) X (by decide) dL_law_166 ?_
    refine ek_il X 1 rfl dL_law_167 ?_
    refine ek_ic (v := nI 5) X (by decide) dL_law_169 ?_
    refine ek_shr X dL_law_170 ?_
    refine ek_bp (v := nI 50) X (by decide) dL_law_171 ?_
    refine ek_doRi (ek_runS (As := [.int (x6 >>> ((nI 5) &&& 31)), .int (nI 50)]) (rest := [.int (nI 1), .ref (ad 46)]) X (c_L_below l D cI cJ cR (x6 >>> ((nI 5) &&& 31)) 50 (by omega) (by omega)) gL_law_L_below rfl hd_L_below ⟨Nat.le_of_ble_eq_true rfl, Nat.le_of_ble_eq_true rfl⟩ ⟨(show (1100 + 5000 * t) + 0 ≤ 600104 by omega), (show (9000 + 40000 * t) + 0 ≤ 7301313 by omega)⟩ [] rfl (by decide) (Nat.le_of_ble_eq_true rfl) dL_law_173) (fun v_173 hv_173 => ?_)
    obtain ⟨r_173, hr_173, rfl⟩ := hv_173
    refine ek_Nadd X dL_law_176 ?_
    refine lx_call0 (As := [.int (nI (1 + r_173))]) (rest := []) (kc := 1) (ks := 6) X hZ (c_X4_setEar l hl D cI cJ cR ad cv g q u h k hA.1 (1 + r_173) (by omega)) (fun E => by rw [show xSetE (1 + r_173) = 0 from by unfold xSetE; rw [if_pos (by omega)]]; rintro ⟨h1, -⟩ <;> exact absurd h1 (by decide)) ⟨rfl, rfl⟩ gL_law_X4_setEar rfl hdV_X4_setEar ⟨Nat.le_of_ble_eq_true rfl, Nat.le_of_ble_eq_true rfl⟩ ⟨(show (1100 + 5000 * t) + 1 ≤ 600104 by omega), (show (9000 + 40000 * t) + 6 ≤ 7301313 by omega)⟩ (Nat.le_of_ble_eq_true rfl) dL_law_177 (fun v_177 hv_177 => ?_)
    obtain ⟨-, rfl⟩ := hv_177
    refine ek_pop X rfl dL_law_180 ?_
    refine ek_goto X 190 (by decide) dL_law_181 ?_
    refine ek_widen (k' := (1100 + 5000 * t + 20)) (n' := (9000 + 40000 * t + 200)) (show ((1100 + 5000 * t) + 1) ≤ (1100 + 5000 * t + 20) by omega) (show ((9000 + 40000 * t) + 6) ≤ (9000 + 40000 * t + 200) by omega) ?_
    refine ek_re [2, 3, 4, 5, 6, 7, 1] rfl ?_
    exact kk (((1 + r_173), vSaid cv, vWord cv)) u x6 hA hC hP (show 1 ≤ (1 + r_173) by omega) (show (1 + r_173) ≤ 50 by omega) hv
  · refine ek_tsO X 184 (by omega) (by omega) (by decide) dL_law_67 ?_
    refine ek_aln X 3 rfl dL_law_184 ?_
    refine ek_ic (v := nI 0) X (by decide) dL_law_185 ?_
    refine lx_call0 (As := [.int (nI 0)]) (rest := []) (kc := 1) (ks := 6) X hZ (c_X4_setWater l hl D cI cJ cR ad cv g q u h k hA.1 0 (by omega)) (fun E => by rw [show xSetW 0 = 0 from by unfold xSetW; rw [if_pos (by omega)]]; rintro ⟨h1, -⟩ <;> exact absurd h1 (by decide)) ⟨rfl, rfl⟩ gL_law_X4_setWater rfl hdV_X4_setWater ⟨Nat.le_of_ble_eq_true rfl, Nat.le_of_ble_eq_true rfl⟩ ⟨(show (1100 + 5000 * t) + 1 ≤ 600104 by omega), (show (9000 + 40000 * t) + 6 ≤ 7301313 by omega)⟩ (Nat.le_of_ble_eq_true rfl) dL_law_186 (fun v_186 hv_186 => ?_)
    obtain ⟨-, rfl⟩ := hv_186
    refine ek_pop X rfl dL_law_189 ?_
    refine ek_widen (k' := (1100 + 5000 * t + 20)) (n' := (9000 + 40000 * t + 200)) (show ((1100 + 5000 * t) + 1) ≤ (1100 + 5000 * t + 20) by omega) (show ((9000 + 40000 * t) + 6) ≤ (9000 + 40000 * t + 200) by omega) ?_
    refine ek_re [2, 3, 4, 5, 6, 7, 1] rfl ?_
    exact kk cv ((cC u, cP u, 0, cWal u, cHgt u, cBat u, cSyl u, cDel u, cDrs u, cFrm u, cTo u, cLen u, cNar u, cPb u, cFnd u)) x6 (by first | exact cAll_water hA (by omega) | exact cAll_bats hA (by omega) | exact cAll_clap hA (by omega) (by omega)) hC hP he1 he hv
