/-! ===== the law's cave ===== -/
theorem hin_L_cave_X4 : ∀ x ∈ wsX40, x ∈ wsL_cave := fun x h => List.mem_cons_of_mem _ (List.mem_append_left _ (List.mem_append_left _ (List.mem_append_left _ (List.mem_append_left _ (List.mem_append_left _ (List.mem_append_left _ (List.mem_append_left _ (List.mem_append_right _ h))))))))
theorem mod_apart {C a r : Nat} (h2 : 2 ≤ C) (ha : a < C) (hr : r < C - 1) : (a + 1 + r) % C < C ∧ ¬ a = (a + 1 + r) % C := by
  refine ⟨Nat.mod_lt _ (by omega), ?_⟩
  by_cases h : a + 1 + r < C
  · rw [Nat.mod_eq_of_lt h]
    omega
  · rw [Nat.mod_eq_sub_mod (by omega), Nat.mod_eq_of_lt (by omega)]
    omega
abbrev rm_L_cave : Room := { frames := 8, cells := 1000, slots := 8000, locals := 126 }
set_option maxHeartbeats 4000000 in
set_option maxRecDepth 100000 in
theorem c_L_cave (l : Launch) (hl : l.stackTraces = false) (D : va_G) (cI cJ cR : ClassId) (b L : Nat) (xs : Nat → Int32) (hL : L < 2147483648) : ek_MC (S := (Nat → Nat) × Nat × CaveT) l yL_cave wsL_cave rm_L_cave D (tyW cI cJ cR) nestW [.ref b] b L xs (fun r9 z => r9 = some (.ref (z.1 46)) ∧ cAll z.2.2 ∧ 2 ≤ cC z.2.2 ∧ 1 ≤ z.2.1 ∧ z.2.1 ≤ 50) (fun z => wV z.1 cI cJ cR (z.2.1, 0, 0) gInit qInit z.2.2 hInit hInit) := by
  refine ek_MC.of (cc := cL_cave) (maxL := 8) (ret := some (.object "EchoCave")) hL (by decide) rfl (Nat.le_of_ble_eq_true rfl) ?_
  intro p9 e9 s9 m9 args9 below9 meth9 c9 A X hZ hO hS9
  refine ek_castL (lv' := [(0, .ref b)]) rfl ?_
  refine ek_new (ci := 4) X [.null, .null, .null, .null, .int (nI 0), .int (nI 0), .int (nI 0)] hin_L_cave_X4 tyX4 tyX4_ok (List.mem_of_getElem? (i := 1) rfl) (List.mem_of_getElem? (i := 2) rfl) (List.mem_of_getElem? (i := 3) rfl) rfl (by decide) ⟨Nat.le_of_ble_eq_true rfl, Nat.le_of_ble_eq_true rfl⟩ dL_cave_0 (fun q0 => ?_)
  refine ek_cast (w' := [(q0, .inr (4, [.null, .null, .null, .null, .int (nI 0), .int (nI 0), .int (nI 0)]))]) rfl ?_
  refine ek_dup X rfl dL_cave_3 ?_
  refine ek_doW X (ek_runIO (rt := none) (As := []) (rest := [.ref q0]) X hO (c_X4_init l D cI cJ cR q0) gL_cave_X4_init rfl (List.mem_of_getElem? (i := 3) rfl) (List.mem_of_getElem? (i := 4) rfl) (List.mem_of_getElem? (i := 5) rfl) rfl hd_X4_init ⟨Nat.le_of_ble_eq_true rfl, Nat.le_of_ble_eq_true rfl⟩ ⟨Nat.le_of_ble_eq_true rfl, Nat.le_of_ble_eq_true rfl⟩ [0] rfl (by decide) (Nat.le_of_ble_eq_true rfl) dL_cave_4) [0] [] rfl (ek_at_map rfl) (by decide) (by decide) (fun ad => wV ad cI cJ cR vInit gInit qInit cInit hInit hInit) [0, 1, 2, 3, 4, 5, 6, 7, 8, 9, 10, 11, 12, 13, 14, 15, 16, 17, 18, 19, 20, 21, 22, 23, 24, 25, 26, 27, 28, 29, 30, 31, 32, 33, 34, 35, 36, 37] (by decide) (fun _ => rfl) (fun r9 ad hp9 => ?_)
  obtain ⟨rfl, hp9⟩ := hp9
  subst hp9
  refine ek_castS (st' := [.ref (ad 46)]) rfl ?_
  refine ek_asn (lv' := [(1, .ref (ad 46)), (0, .ref b)]) X (by decide) rfl dL_cave_7 ?_
  refine ek_widen (k' := 40) (n' := 1800) (Nat.le_of_ble_eq_true rfl) (Nat.le_of_ble_eq_true rfl) ?_
  refine ek_ic (v := nI 2) X (by decide) dL_cave_8 ?_
  refine ek_aln X 1 rfl dL_cave_9 ?_
  refine ek_ic (v := nI 0) X (by decide) dL_cave_10 ?_
  refine ek_doS (As := [.ref b, .int (nI 0)]) (rest := [.int (nI 2)]) X hS9 (c_L_cell l D cI cJ cR b L xs hS9.2.2.2 0 (by omega)) gL_cave_L_cell rfl hd_L_cell ⟨Nat.le_of_ble_eq_true rfl, Nat.le_of_ble_eq_true rfl⟩ ⟨rfl, rfl⟩ ⟨(show 40 ≤ 1000 by omega), (show 1800 ≤ 8000 by omega)⟩ (Nat.le_of_ble_eq_true rfl) dL_cave_11 (fun v_11 _ => ?_)
  refine ek_bp (v := nI 11) X (by decide) dL_cave_14 ?_
  refine ek_doRi (ek_runS (As := [.int v_11, .int (nI 11)]) (rest := [.int (nI 2)]) X (c_L_below l D cI cJ cR v_11 11 (by omega) (by omega)) gL_cave_L_below rfl hd_L_below ⟨Nat.le_of_ble_eq_true rfl, Nat.le_of_ble_eq_true rfl⟩ ⟨(show 40 + 0 ≤ 1000 by omega), (show 1800 + 0 ≤ 8000 by omega)⟩ [] rfl (by decide) (Nat.le_of_ble_eq_true rfl) dL_cave_16) (fun v_16 hv_16 => ?_)
  obtain ⟨r_16, hr_16, rfl⟩ := hv_16
  refine ek_Nadd X dL_cave_19 ?_
  obtain ⟨C, hC⟩ : ∃ z : Nat, z = 2 + r_16 := ⟨_, rfl⟩
  refine ek_top (v' := nI C) (congrArg nI hC.symm) ?_
  have hC2 : 2 ≤ C := by omega
  have hC12 : C ≤ 12 := by omega
  refine ek_isn (lv' := [(2, .int (nI C)), (1, .ref (ad 46)), (0, .ref b)]) X (by decide) rfl dL_cave_20 ?_
  refine ek_ic (v := nI 1) X (by decide) dL_cave_21 ?_
  refine ek_isn (lv' := [(3, .int (nI 1)), (2, .int (nI C)), (1, .ref (ad 46)), (0, .ref b)]) X (by decide) rfl dL_cave_22 ?_
  refine ek_loopKn (σ := Nat × CaveT) (fun zz => (fun (k : Nat) (u : CaveT) => (40 + 20 * k)) zz.1 zz.2) (fun zz => (fun (k : Nat) (u : CaveT) => (1800 + 120 * k)) zz.1 zz.2) (fun zz => (fun (k : Nat) (u : CaveT) => (1 ≤ k ∧ k ≤ C) ∧ cAll u ∧ cC u = k ∧ cP u = 0) zz.1 zz.2) (fun zz => (fun (k : Nat) (u : CaveT) => C - k) zz.1 zz.2) (fun zz => (fun (k : Nat) (u : CaveT) => wV ad cI cJ cR vInit gInit qInit u hInit hInit) zz.1 zz.2) (fun zz => (fun (k : Nat) (u : CaveT) => [(0, .ref b), (1, .ref (ad 46)), (2, .int (nI C)), (3, .int (nI k))]) zz.1 zz.2) ?_ (1, cInit) ⟨⟨by omega, by omega⟩, cAll_init, rfl, rfl⟩ rfl [3, 2, 1, 0] rfl (show 40 ≤ (40 + 20 * 1) by omega) (show 1800 ≤ (1800 + 120 * 1) by omega)
  intro zz ha_23 ih_23
  obtain ⟨k, u⟩ := zz
  replace ha_23 : (1 ≤ k ∧ k ≤ C) ∧ cAll u ∧ cC u = k ∧ cP u = 0 := ha_23
  refine ek_cast (w' := wV ad cI cJ cR vInit gInit qInit u hInit hInit) rfl ?_
  refine ek_castL (lv' := [(0, .ref b), (1, .ref (ad 46)), (2, .int (nI C)), (3, .int (nI k))]) rfl ?_
  obtain ⟨⟨hk1, hk2⟩, hA, hk3, hk4⟩ := ha_23
  refine ek_iln X 3 rfl dL_cave_23 ?_
  refine ek_iln X 2 rfl dL_cave_24 ?_
  refine ek_Nge X (by omega) (by omega) 124 (by decide) dL_cave_25 (fun c_25 => ?_) (fun c_25 => ?_)
  · skip
    have hCu : cC u = C := by omega
    refine ek_iln X 2 rfl dL_cave_124 ?_
    refine ek_ic (v := nI 1) X (by decide) dL_cave_125 ?_
    refine ek_Nsub X (by omega) dL_cave_126 ?_
    refine ek_aln X 0 rfl dL_cave_127 ?_
    refine ek_ic (v := nI 5) X (by decide) dL_cave_128 ?_
    refine ek_doS (As := [.ref b, .int (nI 5)]) (rest := [.int (nI (C - 1))]) X hS9 (c_L_cell l D cI cJ cR b L xs hS9.2.2.2 5 (by omega)) gL_cave_L_cell rfl hd_L_cell ⟨Nat.le_of_ble_eq_true rfl, Nat.le_of_ble_eq_true rfl⟩ ⟨rfl, rfl⟩ ⟨(show (40 + 20 * k) ≤ 1000 by omega), (show (1800 + 120 * k) ≤ 8000 by omega)⟩ (Nat.le_of_ble_eq_true rfl) dL_cave_129 (fun v_129 _ => ?_)
    refine ek_bp (v := nI 19) X (by decide) dL_cave_132 ?_
    refine ek_iln X 2 rfl dL_cave_134 ?_
    refine ek_Nsub X (by omega) dL_cave_135 ?_
    refine ek_ic (v := nI 1) X (by decide) dL_cave_136 ?_
    refine ek_Nadd X dL_cave_137 ?_
    refine ek_doRi (ek_runS (As := [.int v_129, .int (nI ((19 - C) + 1))]) (rest := [.int (nI (C - 1))]) X (c_L_below l D cI cJ cR v_129 ((19 - C) + 1) (by omega) (by omega)) gL_cave_L_below rfl hd_L_below ⟨Nat.le_of_ble_eq_true rfl, Nat.le_of_ble_eq_true rfl⟩ ⟨(show (40 + 20 * k) + 0 ≤ 1000 by omega), (show (1800 + 120 * k) + 0 ≤ 8000 by omega)⟩ [] rfl (by decide) (Nat.le_of_ble_eq_true rfl) dL_cave_138) (fun v_138 hv_138 => ?_)
    obtain ⟨r_138, hr_138, rfl⟩ := hv_138
    refine ek_Nadd X dL_cave_141 ?_
    obtain ⟨P, hP⟩ : ∃ z : Nat, z = (C - 1) + r_138 := ⟨_, rfl⟩
    refine ek_top (v' := nI P) (congrArg nI hP.symm) ?_
    have hP18 : P ≤ 18 := by omega
    refine ek_isn (lv' := [(3, .int (nI P)), (0, .ref b), (1, .ref (ad 46)), (2, .int (nI C))]) X (by decide) rfl dL_cave_142 ?_
    refine ek_ic (v := nI 0) X (by decide) dL_cave_143 ?_
    refine ek_is (lv' := [(4, .int (nI 0)), (3, .int (nI P)), (0, .ref b), (1, .ref (ad 46)), (2, .int (nI C))]) X (by decide) rfl dL_cave_144 ?_
    refine ek_loopKn (σ := Nat × CaveT) (fun zz => (fun (p : Nat) (u2 : CaveT) => (300 + 20 * p)) zz.1 zz.2) (fun zz => (fun (p : Nat) (u2 : CaveT) => (3300 + 120 * p)) zz.1 zz.2) (fun zz => (fun (p : Nat) (u2 : CaveT) => p ≤ P ∧ cAll u2 ∧ cC u2 = C ∧ cP u2 = p) zz.1 zz.2) (fun zz => (fun (p : Nat) (u2 : CaveT) => P - p) zz.1 zz.2) (fun zz => (fun (p : Nat) (u2 : CaveT) => wV ad cI cJ cR vInit gInit qInit u2 hInit hInit) zz.1 zz.2) (fun zz => (fun (p : Nat) (u2 : CaveT) => [(0, .ref b), (1, .ref (ad 46)), (2, .int (nI C)), (3, .int (nI P)), (4, .int (nI p))]) zz.1 zz.2) ?_ (0, u) ⟨Nat.zero_le _, hA, hCu, hk4⟩ rfl [2, 3, 4, 1, 0] rfl (show (40 + 20 * k) ≤ (300 + 20 * 0) by omega) (show (1800 + 120 * k) ≤ (3300 + 120 * 0) by omega)
    intro zz ha_146 ih_146
    obtain ⟨p, u2⟩ := zz
    replace ha_146 : p ≤ P ∧ cAll u2 ∧ cC u2 = C ∧ cP u2 = p := ha_146
    refine ek_cast (w' := wV ad cI cJ cR vInit gInit qInit u2 hInit hInit) rfl ?_
    refine ek_castL (lv' := [(0, .ref b), (1, .ref (ad 46)), (2, .int (nI C)), (3, .int (nI P)), (4, .int (nI p))]) rfl ?_
    clear hA
    obtain ⟨hp1, hA, hp2, hp3⟩ := ha_146
    refine ek_il X 4 rfl dL_cave_146 ?_
    refine ek_iln X 3 rfl dL_cave_148 ?_
    refine ek_Nge X (by omega) (by omega) 274 (by decide) dL_cave_149 (fun c_149 => ?_) (fun c_149 => ?_)
    · skip
      refine ek_ic (v := nI 1) X (by decide) dL_cave_274 ?_
      refine ek_is (lv' := [(4, .int (nI 1)), (0, .ref b), (1, .ref (ad 46)), (2, .int (nI C)), (3, .int (nI P))]) X (by decide) rfl dL_cave_275 ?_
      refine ek_loopKn (σ := Nat × CaveT) (fun zz => (fun (j : Nat) (u3 : CaveT) => (680 + 20 * j)) zz.1 zz.2) (fun zz => (fun (j : Nat) (u3 : CaveT) => (5500 + 120 * j)) zz.1 zz.2) (fun zz => (fun (j : Nat) (u3 : CaveT) => (1 ≤ j ∧ j ≤ C) ∧ cAll u3 ∧ cC u3 = C) zz.1 zz.2) (fun zz => (fun (j : Nat) (u3 : CaveT) => C - j) zz.1 zz.2) (fun zz => (fun (j : Nat) (u3 : CaveT) => wV ad cI cJ cR vInit gInit qInit u3 hInit hInit) zz.1 zz.2) (fun zz => (fun (j : Nat) (u3 : CaveT) => [(0, .ref b), (1, .ref (ad 46)), (2, .int (nI C)), (3, .int (nI P)), (4, .int (nI j))]) zz.1 zz.2) ?_ (1, u2) ⟨⟨by omega, by omega⟩, hA, hp2⟩ rfl [1, 2, 3, 4, 0] rfl (show (300 + 20 * p) ≤ (680 + 20 * 1) by omega) (show (3300 + 120 * p) ≤ (5500 + 120 * 1) by omega)
      intro zz ha_277 ih_277
      obtain ⟨j, u3⟩ := zz
      replace ha_277 : (1 ≤ j ∧ j ≤ C) ∧ cAll u3 ∧ cC u3 = C := ha_277
      refine ek_cast (w' := wV ad cI cJ cR vInit gInit qInit u3 hInit hInit) rfl ?_
      refine ek_castL (lv' := [(0, .ref b), (1, .ref (ad 46)), (2, .int (nI C)), (3, .int (nI P)), (4, .int (nI j))]) rfl ?_
      clear hA
      obtain ⟨⟨hj1, hj2⟩, hA, hj3⟩ := ha_277
      refine ek_il X 4 rfl dL_cave_277 ?_
      refine ek_iln X 2 rfl dL_cave_279 ?_
      refine ek_Nge X (by omega) (by omega) 343 (by decide) dL_cave_280 (fun c_280 => ?_) (fun c_280 => ?_)
      · skip
        refine ek_aln X 1 rfl dL_cave_343 ?_
        refine ek_aln X 0 rfl dL_cave_344 ?_
        refine ek_bp (v := nI 13) X (by decide) dL_cave_345 ?_
        refine ek_doS (As := [.ref b, .int (nI 13)]) (rest := [.ref (ad 46)]) X hS9 (c_L_cell l D cI cJ cR b L xs hS9.2.2.2 13 (by omega)) gL_cave_L_cell rfl hd_L_cell ⟨Nat.le_of_ble_eq_true rfl, Nat.le_of_ble_eq_true rfl⟩ ⟨rfl, rfl⟩ ⟨(show (680 + 20 * j) ≤ 1000 by omega), (show (5500 + 120 * j) ≤ 8000 by omega)⟩ (Nat.le_of_ble_eq_true rfl) dL_cave_347 (fun v_347 _ => ?_)
        refine ek_ic (v := nI 3) X (by decide) dL_cave_350 ?_
        refine ek_doRi (ek_runS (As := [.int v_347, .int (nI 3)]) (rest := [.ref (ad 46)]) X (c_L_below l D cI cJ cR v_347 3 (by omega) (by omega)) gL_cave_L_below rfl hd_L_below ⟨Nat.le_of_ble_eq_true rfl, Nat.le_of_ble_eq_true rfl⟩ ⟨(show (680 + 20 * j) + 0 ≤ 1000 by omega), (show (5500 + 120 * j) + 0 ≤ 8000 by omega)⟩ [] rfl (by decide) (Nat.le_of_ble_eq_true rfl) dL_cave_351) (fun v_351 hv_351 => ?_)
        obtain ⟨r_351, hr_351, rfl⟩ := hv_351
        refine ek_Zne X (by omega) 373 (by decide) dL_cave_354 (fun c_354 => ?_) (fun c_354 => ?_)
        · skip
          refine ek_ic (v := nI 0) X (by decide) dL_cave_373 ?_
          refine lx_call0 (As := [.int (nI 0)]) (rest := []) (kc := 1) (ks := 6) X hZ (c_X4_setWater l hl D cI cJ cR ad vInit gInit qInit u3 hInit hInit hA.1 0 (by omega)) (fun E => by rw [show xSetW 0 = 0 from by unfold xSetW; rw [if_pos (by omega)]]; rintro ⟨h1, -⟩ <;> exact absurd h1 (by decide)) ⟨rfl, rfl⟩ gL_cave_X4_setWater rfl hdV_X4_setWater ⟨Nat.le_of_ble_eq_true rfl, Nat.le_of_ble_eq_true rfl⟩ ⟨(show (680 + 20 * j) + 1 ≤ 1000 by omega), (show (5500 + 120 * j) + 6 ≤ 8000 by omega)⟩ (Nat.le_of_ble_eq_true rfl) dL_cave_374 (fun v_374 hv_374 => ?_)
          obtain ⟨-, rfl⟩ := hv_374
          refine ek_pop X rfl dL_cave_377 ?_
          refine ek_aln X 1 rfl dL_cave_378 ?_
          refine ek_ic (v := nI 1) X (by decide) dL_cave_379 ?_
          refine ek_aln X 0 rfl dL_cave_380 ?_
          refine ek_bp (v := nI 14) X (by decide) dL_cave_381 ?_
          refine ek_doS (As := [.ref b, .int (nI 14)]) (rest := [.int (nI 1), .ref (ad 46)]) X hS9 (c_L_cell l D cI cJ cR b L xs hS9.2.2.2 14 (by omega)) gL_cave_L_cell rfl hd_L_cell ⟨Nat.le_of_ble_eq_true rfl, Nat.le_of_ble_eq_true rfl⟩ ⟨rfl, rfl⟩ ⟨(show ((680 + 20 * j) + 1) ≤ 1000 by omega), (show ((5500 + 120 * j) + 6) ≤ 8000 by omega)⟩ (Nat.le_of_ble_eq_true rfl) dL_cave_383 (fun v_383 _ => ?_)
          refine ek_bp (v := nI 25) X (by decide) dL_cave_386 ?_
          refine ek_doRi (ek_runS (As := [.int v_383, .int (nI 25)]) (rest := [.int (nI 1), .ref (ad 46)]) X (c_L_below l D cI cJ cR v_383 25 (by omega) (by omega)) gL_cave_L_below rfl hd_L_below ⟨Nat.le_of_ble_eq_true rfl, Nat.le_of_ble_eq_true rfl⟩ ⟨(show ((680 + 20 * j) + 1) + 0 ≤ 1000 by omega), (show ((5500 + 120 * j) + 6) + 0 ≤ 8000 by omega)⟩ [] rfl (by decide) (Nat.le_of_ble_eq_true rfl) dL_cave_388) (fun v_388 hv_388 => ?_)
          obtain ⟨r_388, hr_388, rfl⟩ := hv_388
          refine ek_Nadd X dL_cave_391 ?_
          refine lx_call0 (As := [.int (nI (1 + r_388))]) (rest := []) (kc := 1) (ks := 6) X hZ (c_X4_setEar l hl D cI cJ cR ad vInit gInit qInit ((cC u3, cP u3, 0, cWal u3, cHgt u3, cBat u3, cSyl u3, cDel u3, cDrs u3, cFrm u3, cTo u3, cLen u3, cNar u3, cPb u3, cFnd u3)) hInit hInit (cAll_water hA (by omega)).1 (1 + r_388) (by omega)) (fun E => by rw [show xSetE (1 + r_388) = 0 from by unfold xSetE; rw [if_pos (by omega)]]; rintro ⟨h1, -⟩ <;> exact absurd h1 (by decide)) ⟨rfl, rfl⟩ gL_cave_X4_setEar rfl hdV_X4_setEar ⟨Nat.le_of_ble_eq_true rfl, Nat.le_of_ble_eq_true rfl⟩ ⟨(show ((680 + 20 * j) + 1) + 1 ≤ 1000 by omega), (show ((5500 + 120 * j) + 6) + 6 ≤ 8000 by omega)⟩ (Nat.le_of_ble_eq_true rfl) dL_cave_392 (fun v_392 hv_392 => ?_)
          obtain ⟨-, rfl⟩ := hv_392
          refine ek_pop X rfl dL_cave_395 ?_
          refine ek_aln X 1 rfl dL_cave_396 ?_
          refine ek_widen (k' := 1000) (n' := 8000) (show (((680 + 20 * j) + 1) + 1) ≤ 1000 by omega) (show (((5500 + 120 * j) + 6) + 6) ≤ 8000 by omega) ?_
          exact ek_reta X (ad, (1 + r_388), (cC u3, cP u3, 0, cWal u3, cHgt u3, cBat u3, cSyl u3, cDel u3, cDrs u3, cFrm u3, cTo u3, cLen u3, cNar u3, cPb u3, cFnd u3)) ⟨rfl, cAll_water hA (by omega), (show 2 ≤ cC u3 by omega), (show 1 ≤ (1 + r_388) by omega), (show (1 + r_388) ≤ 50 by omega)⟩ rfl dL_cave_397
        · skip
          refine ek_aln X 0 rfl dL_cave_357 ?_
          refine ek_bp (v := nI 13) X (by decide) dL_cave_358 ?_
          refine ek_doS (As := [.ref b, .int (nI 13)]) (rest := [.ref (ad 46)]) X hS9 (c_L_cell l D cI cJ cR b L xs hS9.2.2.2 13 (by omega)) gL_cave_L_cell rfl hd_L_cell ⟨Nat.le_of_ble_eq_true rfl, Nat.le_of_ble_eq_true rfl⟩ ⟨rfl, rfl⟩ ⟨(show (680 + 20 * j) ≤ 1000 by omega), (show (5500 + 120 * j) ≤ 8000 by omega)⟩ (Nat.le_of_ble_eq_true rfl) dL_cave_360 (fun v_360 _ => ?_)
          refine ek_ic (v := nI 4) X (by decide) dL_cave_363 ?_
          refine ek_shr X dL_cave_364 ?_
          refine ek_bp (v := nI 31) X (by decide) dL_cave_365 ?_
          refine ek_doRi (ek_runS (As := [.int (v_360 >>> ((nI 4) &&& 31)), .int (nI 31)]) (rest := [.ref (ad 46)]) X (c_L_below l D cI cJ cR (v_360 >>> ((nI 4) &&& 31)) 31 (by omega) (by omega)) gL_cave_L_below rfl hd_L_below ⟨Nat.le_of_ble_eq_true rfl, Nat.le_of_ble_eq_true rfl⟩ ⟨(show (680 + 20 * j) + 0 ≤ 1000 by omega), (show (5500 + 120 * j) + 0 ≤ 8000 by omega)⟩ [] rfl (by decide) (Nat.le_of_ble_eq_true rfl) dL_cave_367) (fun v_367 hv_367 => ?_)
          obtain ⟨r_367, hr_367, rfl⟩ := hv_367
          refine ek_goto X 374 (by decide) dL_cave_370 ?_
          refine lx_call0 (As := [.int (nI r_367)]) (rest := []) (kc := 1) (ks := 6) X hZ (c_X4_setWater l hl D cI cJ cR ad vInit gInit qInit u3 hInit hInit hA.1 r_367 (by omega)) (fun E => by rw [show xSetW r_367 = 0 from by unfold xSetW; rw [if_pos (by omega)]]; rintro ⟨h1, -⟩ <;> exact absurd h1 (by decide)) ⟨rfl, rfl⟩ gL_cave_X4_setWater rfl hdV_X4_setWater ⟨Nat.le_of_ble_eq_true rfl, Nat.le_of_ble_eq_true rfl⟩ ⟨(show (680 + 20 * j) + 1 ≤ 1000 by omega), (show (5500 + 120 * j) + 6 ≤ 8000 by omega)⟩ (Nat.le_of_ble_eq_true rfl) dL_cave_374 (fun v_374 hv_374 => ?_)
          obtain ⟨-, rfl⟩ := hv_374
          refine ek_pop X rfl dL_cave_377 ?_
          refine ek_aln X 1 rfl dL_cave_378 ?_
          refine ek_ic (v := nI 1) X (by decide) dL_cave_379 ?_
          refine ek_aln X 0 rfl dL_cave_380 ?_
          refine ek_bp (v := nI 14) X (by decide) dL_cave_381 ?_
          refine ek_doS (As := [.ref b, .int (nI 14)]) (rest := [.int (nI 1), .ref (ad 46)]) X hS9 (c_L_cell l D cI cJ cR b L xs hS9.2.2.2 14 (by omega)) gL_cave_L_cell rfl hd_L_cell ⟨Nat.le_of_ble_eq_true rfl, Nat.le_of_ble_eq_true rfl⟩ ⟨rfl, rfl⟩ ⟨(show ((680 + 20 * j) + 1) ≤ 1000 by omega), (show ((5500 + 120 * j) + 6) ≤ 8000 by omega)⟩ (Nat.le_of_ble_eq_true rfl) dL_cave_383 (fun v_383 _ => ?_)
          refine ek_bp (v := nI 25) X (by decide) dL_cave_386 ?_
          refine ek_doRi (ek_runS (As := [.int v_383, .int (nI 25)]) (rest := [.int (nI 1), .ref (ad 46)]) X (c_L_below l D cI cJ cR v_383 25 (by omega) (by omega)) gL_cave_L_below rfl hd_L_below ⟨Nat.le_of_ble_eq_true rfl, Nat.le_of_ble_eq_true rfl⟩ ⟨(show ((680 + 20 * j) + 1) + 0 ≤ 1000 by omega), (show ((5500 + 120 * j) + 6) + 0 ≤ 8000 by omega)⟩ [] rfl (by decide) (Nat.le_of_ble_eq_true rfl) dL_cave_388) (fun v_388 hv_388 => ?_)
          obtain ⟨r_388, hr_388, rfl⟩ := hv_388
          refine ek_Nadd X dL_cave_391 ?_
          refine lx_call0 (As := [.int (nI (1 + r_388))]) (rest := []) (kc := 1) (ks := 6) X hZ (c_X4_setEar l hl D cI cJ cR ad vInit gInit qInit ((cC u3, cP u3, r_367, cWal u3, cHgt u3, cBat u3, cSyl u3, cDel u3, cDrs u3, cFrm u3, cTo u3, cLen u3, cNar u3, cPb u3, cFnd u3)) hInit hInit (cAll_water hA (by omega)).1 (1 + r_388) (by omega)) (fun E => by rw [show xSetE (1 + r_388) = 0 from by unfold xSetE; rw [if_pos (by omega)]]; rintro ⟨h1, -⟩ <;> exact absurd h1 (by decide)) ⟨rfl, rfl⟩ gL_cave_X4_setEar rfl hdV_X4_setEar ⟨Nat.le_of_ble_eq_true rfl, Nat.le_of_ble_eq_true rfl⟩ ⟨(show ((680 + 20 * j) + 1) + 1 ≤ 1000 by omega), (show ((5500 + 120 * j) + 6) + 6 ≤ 8000 by omega)⟩ (Nat.le_of_ble_eq_true rfl) dL_cave_392 (fun v_392 hv_392 => ?_)
          obtain ⟨-, rfl⟩ := hv_392
          refine ek_pop X rfl dL_cave_395 ?_
          refine ek_aln X 1 rfl dL_cave_396 ?_
          refine ek_widen (k' := 1000) (n' := 8000) (show (((680 + 20 * j) + 1) + 1) ≤ 1000 by omega) (show (((5500 + 120 * j) + 6) + 6) ≤ 8000 by omega) ?_
          exact ek_reta X (ad, (1 + r_388), (cC u3, cP u3, r_367, cWal u3, cHgt u3, cBat u3, cSyl u3, cDel u3, cDrs u3, cFrm u3, cTo u3, cLen u3, cNar u3, cPb u3, cFnd u3)) ⟨rfl, cAll_water hA (by omega), (show 2 ≤ cC u3 by omega), (show 1 ≤ (1 + r_388) by omega), (show (1 + r_388) ≤ 50 by omega)⟩ rfl dL_cave_397
      · skip
        refine ek_aln X 0 rfl dL_cave_283 ?_
        refine ek_bp (v := nI 11) X (by decide) dL_cave_284 ?_
        refine ek_doS (As := [.ref b, .int (nI 11)]) (rest := []) X hS9 (c_L_cell l D cI cJ cR b L xs hS9.2.2.2 11 (by omega)) gL_cave_L_cell rfl hd_L_cell ⟨Nat.le_of_ble_eq_true rfl, Nat.le_of_ble_eq_true rfl⟩ ⟨rfl, rfl⟩ ⟨(show (680 + 20 * j) ≤ 1000 by omega), (show (5500 + 120 * j) ≤ 8000 by omega)⟩ (Nat.le_of_ble_eq_true rfl) dL_cave_286 (fun v_286 _ => ?_)
        refine ek_il X 4 rfl dL_cave_289 ?_
        refine ek_shr X dL_cave_291 ?_
        refine ek_ic (v := nI 3) X (by decide) dL_cave_292 ?_
        refine ek_doRi (ek_runS (As := [.int (v_286 >>> ((nI j) &&& 31)), .int (nI 3)]) (rest := []) X (c_L_below l D cI cJ cR (v_286 >>> ((nI j) &&& 31)) 3 (by omega) (by omega)) gL_cave_L_below rfl hd_L_below ⟨Nat.le_of_ble_eq_true rfl, Nat.le_of_ble_eq_true rfl⟩ ⟨(show (680 + 20 * j) + 0 ≤ 1000 by omega), (show (5500 + 120 * j) + 0 ≤ 8000 by omega)⟩ [] rfl (by decide) (Nat.le_of_ble_eq_true rfl) dL_cave_293) (fun v_293 hv_293 => ?_)
        obtain ⟨r_293, hr_293, rfl⟩ := hv_293
        refine ek_Zne X (by omega) 337 (by decide) dL_cave_296 (fun c_296 => ?_) (fun c_296 => ?_)
        · skip
          refine ek_Ninc (j := 4) (d := 1) (lv' := [(4, .int (nI (j + 1))), (0, .ref b), (1, .ref (ad 46)), (2, .int (nI C)), (3, .int (nI P))]) X rfl (by decide) rfl dL_cave_337 ?_
          refine ek_goto X 277 (by decide) dL_cave_340 ?_
          refine ek_widen (k' := (680 + 20 * (j + 1))) (n' := (5500 + 120 * (j + 1))) (show (680 + 20 * j) ≤ (680 + 20 * (j + 1)) by omega) (show (5500 + 120 * j) ≤ (5500 + 120 * (j + 1)) by omega) ?_
          refine ek_re [1, 2, 3, 4, 0] rfl ?_
          exact ih_277 (j + 1, u3) (show (1 ≤ (j + 1) ∧ (j + 1) ≤ C) ∧ cAll u3 ∧ cC u3 = C from ⟨⟨by omega, by omega⟩, (by first | exact hA | exact cAll_clap hA (by omega) (by omega)), hj3⟩) (by show C - (j + 1) < C - j; omega)
        · skip
          refine ek_aln X 1 rfl dL_cave_299 ?_
          refine ek_il X 4 rfl dL_cave_300 ?_
          refine ek_ic (v := nI 1) X (by decide) dL_cave_302 ?_
          refine ek_aln X 0 rfl dL_cave_303 ?_
          refine ek_bp (v := nI 12) X (by decide) dL_cave_304 ?_
          refine ek_doS (As := [.ref b, .int (nI 12)]) (rest := [.int (nI 1), .int (nI j), .ref (ad 46)]) X hS9 (c_L_cell l D cI cJ cR b L xs hS9.2.2.2 12 (by omega)) gL_cave_L_cell rfl hd_L_cell ⟨Nat.le_of_ble_eq_true rfl, Nat.le_of_ble_eq_true rfl⟩ ⟨rfl, rfl⟩ ⟨(show (680 + 20 * j) ≤ 1000 by omega), (show (5500 + 120 * j) ≤ 8000 by omega)⟩ (Nat.le_of_ble_eq_true rfl) dL_cave_306 (fun v_306 _ => ?_)
          refine ek_il X 4 rfl dL_cave_309 ?_
          refine ek_shr X dL_cave_311 ?_
          refine ek_ic (v := nI 3) X (by decide) dL_cave_312 ?_
          refine ek_doRi (ek_runS (As := [.int (v_306 >>> ((nI j) &&& 31)), .int (nI 3)]) (rest := [.int (nI 1), .int (nI j), .ref (ad 46)]) X (c_L_below l D cI cJ cR (v_306 >>> ((nI j) &&& 31)) 3 (by omega) (by omega)) gL_cave_L_below rfl hd_L_below ⟨Nat.le_of_ble_eq_true rfl, Nat.le_of_ble_eq_true rfl⟩ ⟨(show (680 + 20 * j) + 0 ≤ 1000 by omega), (show (5500 + 120 * j) + 0 ≤ 8000 by omega)⟩ [] rfl (by decide) (Nat.le_of_ble_eq_true rfl) dL_cave_313) (fun v_313 hv_313 => ?_)
          obtain ⟨r_313, hr_313, rfl⟩ := hv_313
          refine ek_Nadd X dL_cave_316 ?_
          refine ek_aln X 0 rfl dL_cave_317 ?_
          refine ek_bp (v := nI 12) X (by decide) dL_cave_318 ?_
          refine ek_doS (As := [.ref b, .int (nI 12)]) (rest := [.int (nI (1 + r_313)), .int (nI j), .ref (ad 46)]) X hS9 (c_L_cell l D cI cJ cR b L xs hS9.2.2.2 12 (by omega)) gL_cave_L_cell rfl hd_L_cell ⟨Nat.le_of_ble_eq_true rfl, Nat.le_of_ble_eq_true rfl⟩ ⟨rfl, rfl⟩ ⟨(show (680 + 20 * j) ≤ 1000 by omega), (show (5500 + 120 * j) ≤ 8000 by omega)⟩ (Nat.le_of_ble_eq_true rfl) dL_cave_320 (fun v_320 _ => ?_)
          refine ek_il X 4 rfl dL_cave_323 ?_
          refine ek_ic (v := nI 4) X (by decide) dL_cave_325 ?_
          refine ek_Nadd X dL_cave_326 ?_
          refine ek_shr X dL_cave_327 ?_
          refine ek_bp (v := nI 21) X (by decide) dL_cave_328 ?_
          refine ek_doRi (ek_runS (As := [.int (v_320 >>> ((nI (j + 4)) &&& 31)), .int (nI 21)]) (rest := [.int (nI (1 + r_313)), .int (nI j), .ref (ad 46)]) X (c_L_below l D cI cJ cR (v_320 >>> ((nI (j + 4)) &&& 31)) 21 (by omega) (by omega)) gL_cave_L_below rfl hd_L_below ⟨Nat.le_of_ble_eq_true rfl, Nat.le_of_ble_eq_true rfl⟩ ⟨(show (680 + 20 * j) + 0 ≤ 1000 by omega), (show (5500 + 120 * j) + 0 ≤ 8000 by omega)⟩ [] rfl (by decide) (Nat.le_of_ble_eq_true rfl) dL_cave_330) (fun v_330 hv_330 => ?_)
          obtain ⟨r_330, hr_330, rfl⟩ := hv_330
          refine lx_call0 (As := [.int (nI j), .int (nI (1 + r_313)), .int (nI r_330)]) (rest := []) (kc := 4) (ks := 24) X hZ (c_X4_setClapper l hl D cI cJ cR ad vInit gInit qInit u3 hInit hInit hA.1 j (1 + r_313) r_330 (by omega) (by omega) (by omega)) (fun E => by rw [show xSetC j (1 + r_313) r_330 (cC u3) = 0 from by unfold xSetC; rw [if_pos (by omega), if_pos (by omega)]]; rintro (⟨h1, -⟩ | ⟨h1, -⟩) <;> exact absurd h1 (by decide)) ⟨rfl, rfl⟩ gL_cave_X4_setClapper rfl hdV_X4_setClapper ⟨Nat.le_of_ble_eq_true rfl, Nat.le_of_ble_eq_true rfl⟩ ⟨(show (680 + 20 * j) + 4 ≤ 1000 by omega), (show (5500 + 120 * j) + 24 ≤ 8000 by omega)⟩ (Nat.le_of_ble_eq_true rfl) dL_cave_333 (fun v_333 hv_333 => ?_)
          obtain ⟨-, rfl⟩ := hv_333
          refine ek_pop X rfl dL_cave_336 ?_
          refine ek_Ninc (j := 4) (d := 1) (lv' := [(4, .int (nI (j + 1))), (0, .ref b), (1, .ref (ad 46)), (2, .int (nI C)), (3, .int (nI P))]) X rfl (by decide) rfl dL_cave_337 ?_
          refine ek_goto X 277 (by decide) dL_cave_340 ?_
          refine ek_widen (k' := (680 + 20 * (j + 1))) (n' := (5500 + 120 * (j + 1))) (show ((680 + 20 * j) + 4) ≤ (680 + 20 * (j + 1)) by omega) (show ((5500 + 120 * j) + 24) ≤ (5500 + 120 * (j + 1)) by omega) ?_
          refine ek_re [1, 2, 3, 4, 0] rfl ?_
          exact ih_277 (j + 1, (cClap u3 j (1 + r_313) r_330)) (show (1 ≤ (j + 1) ∧ (j + 1) ≤ C) ∧ cAll ((cClap u3 j (1 + r_313) r_330)) ∧ cC ((cClap u3 j (1 + r_313) r_330)) = C from ⟨⟨by omega, by omega⟩, (by first | exact hA | exact cAll_clap hA (by omega) (by omega)), hj3⟩) (by show C - (j + 1) < C - j; omega)
    · skip
      refine ek_aln X 0 rfl dL_cave_152 ?_
      refine ek_bp (v := nI 6) X (by decide) dL_cave_153 ?_
      refine ek_il X 4 rfl dL_cave_155 ?_
      refine ek_ic (v := nI 5) X (by decide) dL_cave_157 ?_
      refine ek_Nrem X (by omega) (by omega) (by omega) dL_cave_158 ?_
      refine ek_Nadd X dL_cave_159 ?_
      refine ek_doS (As := [.ref b, .int (nI (6 + (p % 5)))]) (rest := []) X hS9 (c_L_cell l D cI cJ cR b L xs hS9.2.2.2 (6 + (p % 5)) (by omega)) gL_cave_L_cell rfl hd_L_cell ⟨Nat.le_of_ble_eq_true rfl, Nat.le_of_ble_eq_true rfl⟩ ⟨rfl, rfl⟩ ⟨(show (300 + 20 * p) ≤ 1000 by omega), (show (3300 + 120 * p) ≤ 8000 by omega)⟩ (Nat.le_of_ble_eq_true rfl) dL_cave_160 (fun v_160 _ => ?_)
      refine ek_il X 4 rfl dL_cave_163 ?_
      refine ek_ic (v := nI 5) X (by decide) dL_cave_165 ?_
      refine ek_Ndiv X (by omega) (by omega) (by omega) dL_cave_166 ?_
      refine ek_bp (v := nI 6) X (by decide) dL_cave_167 ?_
      refine ek_Nmul X dL_cave_169 ?_
      refine ek_shr X dL_cave_170 ?_
      obtain ⟨x5, hx5⟩ : ∃ z : Int32, z = v_160 >>> ((nI ((p / 5) * 6)) &&& 31) := ⟨_, rfl⟩
      refine ek_top (v' := x5) hx5.symm ?_
      clear hx5
      refine ek_is (lv' := [(5, .int x5), (0, .ref b), (1, .ref (ad 46)), (2, .int (nI C)), (3, .int (nI P)), (4, .int (nI p))]) X (by decide) rfl dL_cave_171 ?_
      refine ek_il X 5 rfl dL_cave_173 ?_
      refine ek_iln X 3 rfl dL_cave_175 ?_
      refine ek_ic (v := nI 1) X (by decide) dL_cave_176 ?_
      refine ek_Nsub X (by omega) dL_cave_177 ?_
      refine ek_Nge X (by omega) (by omega) 188 (by decide) dL_cave_178 (fun c_178 => ?_) (fun c_178 => ?_)
      · skip
        refine ek_il X 0 rfl dL_cave_188 ?_
        refine ek_ic (v := nI 1) X (by decide) dL_cave_190 ?_
        refine ek_shr X dL_cave_191 ?_
        refine ek_iln X 3 rfl dL_cave_192 ?_
        refine ek_doRi (ek_runS (As := [.int (x5 >>> ((nI 1) &&& 31)), .int (nI C)]) (rest := []) X (c_L_below l D cI cJ cR (x5 >>> ((nI 1) &&& 31)) C (by omega) (by omega)) gL_cave_L_below rfl hd_L_below ⟨Nat.le_of_ble_eq_true rfl, Nat.le_of_ble_eq_true rfl⟩ ⟨(show (300 + 20 * p) + 0 ≤ 1000 by omega), (show (3300 + 120 * p) + 0 ≤ 8000 by omega)⟩ [] rfl (by decide) (Nat.le_of_ble_eq_true rfl) dL_cave_193) (fun v_193 hv_193 => ?_)
        obtain ⟨r_193, hr_193, rfl⟩ := hv_193
        refine ek_is (lv' := [(6, .int (nI r_193)), (5, .int x5), (0, .ref b), (1, .ref (ad 46)), (2, .int (nI C)), (3, .int (nI P)), (4, .int (nI p))]) X (by decide) rfl dL_cave_196 ?_
        refine ek_il X 6 rfl dL_cave_198 ?_
        refine ek_iln X 4 rfl dL_cave_200 ?_
        refine ek_ic (v := nI 1) X (by decide) dL_cave_201 ?_
        refine ek_Nsub X (by omega) dL_cave_202 ?_
        refine ek_Nge X (by omega) (by omega) 220 (by decide) dL_cave_203 (fun c_203 => ?_) (fun c_203 => ?_)
        · skip
          refine ek_il X 0 rfl dL_cave_220 ?_
          refine ek_ic (v := nI 1) X (by decide) dL_cave_222 ?_
          refine ek_Nadd X dL_cave_223 ?_
          refine ek_il X 1 rfl dL_cave_224 ?_
          refine ek_bp (v := nI 7) X (by decide) dL_cave_226 ?_
          refine ek_shr X dL_cave_228 ?_
          refine ek_iln X 4 rfl dL_cave_229 ?_
          refine ek_ic (v := nI 1) X (by decide) dL_cave_230 ?_
          refine ek_Nsub X (by omega) dL_cave_231 ?_
          refine ek_doRi (ek_runS (As := [.int (x5 >>> ((nI 7) &&& 31)), .int (nI (C - 1))]) (rest := [.int (nI (r_193 + 1))]) X (c_L_below l D cI cJ cR (x5 >>> ((nI 7) &&& 31)) (C - 1) (by omega) (by omega)) gL_cave_L_below rfl hd_L_below ⟨Nat.le_of_ble_eq_true rfl, Nat.le_of_ble_eq_true rfl⟩ ⟨(show (300 + 20 * p) + 0 ≤ 1000 by omega), (show (3300 + 120 * p) + 0 ≤ 8000 by omega)⟩ [] rfl (by decide) (Nat.le_of_ble_eq_true rfl) dL_cave_232) (fun v_232 hv_232 => ?_)
          obtain ⟨r_232, hr_232, rfl⟩ := hv_232
          refine ek_Nadd X dL_cave_235 ?_
          refine ek_iln X 4 rfl dL_cave_236 ?_
          obtain ⟨hm1, hm2⟩ := mod_apart hC2 (a := r_193) (r := r_232) (by omega) (by omega)
          refine ek_Nrem X (by omega) (by omega) (by omega) dL_cave_237 ?_
          refine ek_is (lv' := [(7, .int (nI (((r_193 + 1) + r_232) % C))), (6, .int (nI r_193)), (5, .int x5), (0, .ref b), (1, .ref (ad 46)), (2, .int (nI C)), (3, .int (nI P)), (4, .int (nI p))]) X (by decide) rfl dL_cave_238 ?_
          refine ek_aln X 4 rfl dL_cave_240 ?_
          refine ek_il X 1 rfl dL_cave_241 ?_
          refine ek_il X 0 rfl dL_cave_243 ?_
          refine ek_ic (v := nI 1) X (by decide) dL_cave_245 ?_
          refine ek_il X 2 rfl dL_cave_246 ?_
          refine ek_ic (v := nI 2) X (by decide) dL_cave_248 ?_
          refine ek_shr X dL_cave_249 ?_
          refine ek_bp (v := nI 9) X (by decide) dL_cave_250 ?_
          refine ek_doRi (ek_runS (As := [.int (x5 >>> ((nI 2) &&& 31)), .int (nI 9)]) (rest := [.int (nI 1), .int (nI (((r_193 + 1) + r_232) % C)), .int (nI r_193), .ref (ad 46)]) X (c_L_below l D cI cJ cR (x5 >>> ((nI 2) &&& 31)) 9 (by omega) (by omega)) gL_cave_L_below rfl hd_L_below ⟨Nat.le_of_ble_eq_true rfl, Nat.le_of_ble_eq_true rfl⟩ ⟨(show (300 + 20 * p) + 0 ≤ 1000 by omega), (show (3300 + 120 * p) + 0 ≤ 8000 by omega)⟩ [] rfl (by decide) (Nat.le_of_ble_eq_true rfl) dL_cave_252) (fun v_252 hv_252 => ?_)
          obtain ⟨r_252, hr_252, rfl⟩ := hv_252
          refine ek_Nadd X dL_cave_255 ?_
          refine ek_il X 2 rfl dL_cave_256 ?_
          refine ek_ic (v := nI 4) X (by decide) dL_cave_258 ?_
          refine ek_shr X dL_cave_259 ?_
          refine ek_ic (v := nI 5) X (by decide) dL_cave_260 ?_
          refine ek_doRi (ek_runS (As := [.int (x5 >>> ((nI 4) &&& 31)), .int (nI 5)]) (rest := [.int (nI (1 + r_252)), .int (nI (((r_193 + 1) + r_232) % C)), .int (nI r_193), .ref (ad 46)]) X (c_L_below l D cI cJ cR (x5 >>> ((nI 4) &&& 31)) 5 (by omega) (by omega)) gL_cave_L_below rfl hd_L_below ⟨Nat.le_of_ble_eq_true rfl, Nat.le_of_ble_eq_true rfl⟩ ⟨(show (300 + 20 * p) + 0 ≤ 1000 by omega), (show (3300 + 120 * p) + 0 ≤ 8000 by omega)⟩ [] rfl (by decide) (Nat.le_of_ble_eq_true rfl) dL_cave_261) (fun v_261 hv_261 => ?_)
          obtain ⟨r_261, hr_261, rfl⟩ := hv_261
          refine lx_call0 (As := [.int (nI r_193), .int (nI (((r_193 + 1) + r_232) % C)), .int (nI (1 + r_252)), .int (nI r_261)]) (rest := []) (kc := 6) (ks := 36) X hZ (c_X4_addPassage l hl D cI cJ cR ad vInit gInit qInit u2 hInit hInit hA.1 r_193 (((r_193 + 1) + r_232) % C) (1 + r_252) r_261 (by omega) (by omega) (by omega) (by omega)) (fun E => by rw [show xAddP r_193 (((r_193 + 1) + r_232) % C) (1 + r_252) r_261 (cC u2) (cP u2) = 0 from by unfold xAddP; rw [if_pos (by omega), if_pos (by omega), if_pos (by omega)]]; rintro (⟨h1, -⟩ | ⟨h1, -⟩ | ⟨h1, -⟩) <;> exact absurd h1 (by decide)) ⟨rfl, rfl⟩ gL_cave_X4_addPassage rfl hdV_X4_addPassage ⟨Nat.le_of_ble_eq_true rfl, Nat.le_of_ble_eq_true rfl⟩ ⟨(show (300 + 20 * p) + 6 ≤ 1000 by omega), (show (3300 + 120 * p) + 36 ≤ 8000 by omega)⟩ (Nat.le_of_ble_eq_true rfl) dL_cave_264 (fun v_264 hv_264 => ?_)
          obtain ⟨-, rfl⟩ := hv_264
          refine ek_pop X rfl dL_cave_267 ?_
          refine ek_Ninc (j := 7) (d := 1) (lv' := [(4, .int (nI (p + 1))), (7, .int (nI (((r_193 + 1) + r_232) % C))), (6, .int (nI r_193)), (5, .int x5), (0, .ref b), (1, .ref (ad 46)), (2, .int (nI C)), (3, .int (nI P))]) X rfl (by decide) rfl dL_cave_268 ?_
          refine ek_goto X 146 (by decide) dL_cave_271 ?_
          refine ek_widen (k' := (300 + 20 * (p + 1))) (n' := (3300 + 120 * (p + 1))) (show ((300 + 20 * p) + 6) ≤ (300 + 20 * (p + 1)) by omega) (show ((3300 + 120 * p) + 36) ≤ (3300 + 120 * (p + 1)) by omega) ?_
          refine ek_re [4, 5, 6, 7, 0] rfl ?_
          exact ih_146 (p + 1, (cPass u2 r_193 (((r_193 + 1) + r_232) % C) (1 + r_252) r_261)) (show (p + 1) ≤ P ∧ cAll ((cPass u2 r_193 (((r_193 + 1) + r_232) % C) (1 + r_252) r_261)) ∧ cC ((cPass u2 r_193 (((r_193 + 1) + r_232) % C) (1 + r_252) r_261)) = C ∧ cP ((cPass u2 r_193 (((r_193 + 1) + r_232) % C) (1 + r_252) r_261)) = (p + 1) from ⟨by omega, cAll_pass hA (by omega) (by omega) (by omega) (by omega) (by omega) (by omega) (by omega), hp2, congrArg (· + 1) hp3⟩) (by show P - (p + 1) < P - p; omega)
        · exact absurd c_203 (by omega)
      · skip
        refine ek_il X 5 rfl dL_cave_181 ?_
        refine ek_ic (v := nI 1) X (by decide) dL_cave_183 ?_
        refine ek_Nadd X dL_cave_184 ?_
        refine ek_goto X 196 (by decide) dL_cave_185 ?_
        refine ek_is (lv' := [(6, .int (nI (p + 1))), (5, .int x5), (0, .ref b), (1, .ref (ad 46)), (2, .int (nI C)), (3, .int (nI P)), (4, .int (nI p))]) X (by decide) rfl dL_cave_196 ?_
        refine ek_il X 6 rfl dL_cave_198 ?_
        refine ek_iln X 4 rfl dL_cave_200 ?_
        refine ek_ic (v := nI 1) X (by decide) dL_cave_201 ?_
        refine ek_Nsub X (by omega) dL_cave_202 ?_
        refine ek_Nge X (by omega) (by omega) 220 (by decide) dL_cave_203 (fun c_203 => ?_) (fun c_203 => ?_)
        · exact absurd c_203 (by omega)
        · skip
          refine ek_il X 1 rfl dL_cave_206 ?_
          refine ek_ic (v := nI 3) X (by decide) dL_cave_208 ?_
          refine ek_shr X dL_cave_209 ?_
          refine ek_il X 6 rfl dL_cave_210 ?_
          refine ek_ic (v := nI 1) X (by decide) dL_cave_212 ?_
          refine ek_Nadd X dL_cave_213 ?_
          refine ek_doRi (ek_runS (As := [.int (x5 >>> ((nI 3) &&& 31)), .int (nI (p + 1))]) (rest := []) X (c_L_below l D cI cJ cR (x5 >>> ((nI 3) &&& 31)) (p + 1) (by omega) (by omega)) gL_cave_L_below rfl hd_L_below ⟨Nat.le_of_ble_eq_true rfl, Nat.le_of_ble_eq_true rfl⟩ ⟨(show (300 + 20 * p) + 0 ≤ 1000 by omega), (show (3300 + 120 * p) + 0 ≤ 8000 by omega)⟩ [] rfl (by decide) (Nat.le_of_ble_eq_true rfl) dL_cave_214) (fun v_214 hv_214 => ?_)
          obtain ⟨r_214, hr_214, rfl⟩ := hv_214
          refine ek_goto X 238 (by decide) dL_cave_217 ?_
          refine ek_is (lv' := [(7, .int (nI r_214)), (6, .int (nI (p + 1))), (5, .int x5), (0, .ref b), (1, .ref (ad 46)), (2, .int (nI C)), (3, .int (nI P)), (4, .int (nI p))]) X (by decide) rfl dL_cave_238 ?_
          refine ek_aln X 4 rfl dL_cave_240 ?_
          refine ek_il X 1 rfl dL_cave_241 ?_
          refine ek_il X 0 rfl dL_cave_243 ?_
          refine ek_ic (v := nI 1) X (by decide) dL_cave_245 ?_
          refine ek_il X 2 rfl dL_cave_246 ?_
          refine ek_ic (v := nI 2) X (by decide) dL_cave_248 ?_
          refine ek_shr X dL_cave_249 ?_
          refine ek_bp (v := nI 9) X (by decide) dL_cave_250 ?_
          refine ek_doRi (ek_runS (As := [.int (x5 >>> ((nI 2) &&& 31)), .int (nI 9)]) (rest := [.int (nI 1), .int (nI r_214), .int (nI (p + 1)), .ref (ad 46)]) X (c_L_below l D cI cJ cR (x5 >>> ((nI 2) &&& 31)) 9 (by omega) (by omega)) gL_cave_L_below rfl hd_L_below ⟨Nat.le_of_ble_eq_true rfl, Nat.le_of_ble_eq_true rfl⟩ ⟨(show (300 + 20 * p) + 0 ≤ 1000 by omega), (show (3300 + 120 * p) + 0 ≤ 8000 by omega)⟩ [] rfl (by decide) (Nat.le_of_ble_eq_true rfl) dL_cave_252) (fun v_252 hv_252 => ?_)
          obtain ⟨r_252, hr_252, rfl⟩ := hv_252
          refine ek_Nadd X dL_cave_255 ?_
          refine ek_il X 2 rfl dL_cave_256 ?_
          refine ek_ic (v := nI 4) X (by decide) dL_cave_258 ?_
          refine ek_shr X dL_cave_259 ?_
          refine ek_ic (v := nI 5) X (by decide) dL_cave_260 ?_
          refine ek_doRi (ek_runS (As := [.int (x5 >>> ((nI 4) &&& 31)), .int (nI 5)]) (rest := [.int (nI (1 + r_252)), .int (nI r_214), .int (nI (p + 1)), .ref (ad 46)]) X (c_L_below l D cI cJ cR (x5 >>> ((nI 4) &&& 31)) 5 (by omega) (by omega)) gL_cave_L_below rfl hd_L_below ⟨Nat.le_of_ble_eq_true rfl, Nat.le_of_ble_eq_true rfl⟩ ⟨(show (300 + 20 * p) + 0 ≤ 1000 by omega), (show (3300 + 120 * p) + 0 ≤ 8000 by omega)⟩ [] rfl (by decide) (Nat.le_of_ble_eq_true rfl) dL_cave_261) (fun v_261 hv_261 => ?_)
          obtain ⟨r_261, hr_261, rfl⟩ := hv_261
          refine lx_call0 (As := [.int (nI (p + 1)), .int (nI r_214), .int (nI (1 + r_252)), .int (nI r_261)]) (rest := []) (kc := 6) (ks := 36) X hZ (c_X4_addPassage l hl D cI cJ cR ad vInit gInit qInit u2 hInit hInit hA.1 (p + 1) r_214 (1 + r_252) r_261 (by omega) (by omega) (by omega) (by omega)) (fun E => by rw [show xAddP (p + 1) r_214 (1 + r_252) r_261 (cC u2) (cP u2) = 0 from by unfold xAddP; rw [if_pos (by omega), if_pos (by omega), if_pos (by omega)]]; rintro (⟨h1, -⟩ | ⟨h1, -⟩ | ⟨h1, -⟩) <;> exact absurd h1 (by decide)) ⟨rfl, rfl⟩ gL_cave_X4_addPassage rfl hdV_X4_addPassage ⟨Nat.le_of_ble_eq_true rfl, Nat.le_of_ble_eq_true rfl⟩ ⟨(show (300 + 20 * p) + 6 ≤ 1000 by omega), (show (3300 + 120 * p) + 36 ≤ 8000 by omega)⟩ (Nat.le_of_ble_eq_true rfl) dL_cave_264 (fun v_264 hv_264 => ?_)
          obtain ⟨-, rfl⟩ := hv_264
          refine ek_pop X rfl dL_cave_267 ?_
          refine ek_Ninc (j := 7) (d := 1) (lv' := [(4, .int (nI (p + 1))), (7, .int (nI r_214)), (6, .int (nI (p + 1))), (5, .int x5), (0, .ref b), (1, .ref (ad 46)), (2, .int (nI C)), (3, .int (nI P))]) X rfl (by decide) rfl dL_cave_268 ?_
          refine ek_goto X 146 (by decide) dL_cave_271 ?_
          refine ek_widen (k' := (300 + 20 * (p + 1))) (n' := (3300 + 120 * (p + 1))) (show ((300 + 20 * p) + 6) ≤ (300 + 20 * (p + 1)) by omega) (show ((3300 + 120 * p) + 36) ≤ (3300 + 120 * (p + 1)) by omega) ?_
          refine ek_re [4, 5, 6, 7, 0] rfl ?_
          exact ih_146 (p + 1, (cPass u2 (p + 1) r_214 (1 + r_252) r_261)) (show (p + 1) ≤ P ∧ cAll ((cPass u2 (p + 1) r_214 (1 + r_252) r_261)) ∧ cC ((cPass u2 (p + 1) r_214 (1 + r_252) r_261)) = C ∧ cP ((cPass u2 (p + 1) r_214 (1 + r_252) r_261)) = (p + 1) from ⟨by omega, cAll_pass hA (by omega) (by omega) (by omega) (by omega) (by omega) (by omega) (by omega), hp2, congrArg (· + 1) hp3⟩) (by show P - (p + 1) < P - p; omega)
  · skip
    refine ek_aln X 0 rfl dL_cave_28 ?_
    refine ek_ic (v := nI 1) X (by decide) dL_cave_29 ?_
    refine ek_iln X 3 rfl dL_cave_30 ?_
    refine ek_ic (v := nI 4) X (by decide) dL_cave_31 ?_
    refine ek_Nrem X (by omega) (by omega) (by omega) dL_cave_32 ?_
    refine ek_Nadd X dL_cave_33 ?_
    refine ek_doS (As := [.ref b, .int (nI (1 + (k % 4)))]) (rest := []) X hS9 (c_L_cell l D cI cJ cR b L xs hS9.2.2.2 (1 + (k % 4)) (by omega)) gL_cave_L_cell rfl hd_L_cell ⟨Nat.le_of_ble_eq_true rfl, Nat.le_of_ble_eq_true rfl⟩ ⟨rfl, rfl⟩ ⟨(show (40 + 20 * k) ≤ 1000 by omega), (show (1800 + 120 * k) ≤ 8000 by omega)⟩ (Nat.le_of_ble_eq_true rfl) dL_cave_34 (fun v_34 _ => ?_)
    refine ek_iln X 3 rfl dL_cave_37 ?_
    refine ek_ic (v := nI 4) X (by decide) dL_cave_38 ?_
    refine ek_Ndiv X (by omega) (by omega) (by omega) dL_cave_39 ?_
    refine ek_bp (v := nI 8) X (by decide) dL_cave_40 ?_
    refine ek_Nmul X dL_cave_42 ?_
    refine ek_shr X dL_cave_43 ?_
    obtain ⟨x4, hx4⟩ : ∃ z : Int32, z = v_34 >>> ((nI ((k / 4) * 8)) &&& 31) := ⟨_, rfl⟩
    refine ek_top (v' := x4) hx4.symm ?_
    clear hx4
    refine ek_is (lv' := [(4, .int x4), (0, .ref b), (1, .ref (ad 46)), (2, .int (nI C)), (3, .int (nI k))]) X (by decide) rfl dL_cave_44 ?_
    refine ek_aln X 2 rfl dL_cave_46 ?_
    refine ek_bp (v := nI 100) X (by decide) dL_cave_47 ?_
    refine ek_il X 0 rfl dL_cave_49 ?_
    refine ek_bp (v := nI 6) X (by decide) dL_cave_51 ?_
    refine ek_doRi (ek_runS (As := [.int x4, .int (nI 6)]) (rest := [.int (nI 100), .ref (ad 46)]) X (c_L_below l D cI cJ cR x4 6 (by omega) (by omega)) gL_cave_L_below rfl hd_L_below ⟨Nat.le_of_ble_eq_true rfl, Nat.le_of_ble_eq_true rfl⟩ ⟨(show (40 + 20 * k) + 0 ≤ 1000 by omega), (show (1800 + 120 * k) + 0 ≤ 8000 by omega)⟩ [] rfl (by decide) (Nat.le_of_ble_eq_true rfl) dL_cave_53) (fun v_53 hv_53 => ?_)
    obtain ⟨r_53, hr_53, rfl⟩ := hv_53
    refine ek_il X 0 rfl dL_cave_56 ?_
    refine ek_ic (v := nI 3) X (by decide) dL_cave_58 ?_
    refine ek_shr X dL_cave_59 ?_
    refine ek_bp (v := nI 20) X (by decide) dL_cave_60 ?_
    refine ek_doRi (ek_runS (As := [.int (x4 >>> ((nI 3) &&& 31)), .int (nI 20)]) (rest := [.int (nI r_53), .int (nI 100), .ref (ad 46)]) X (c_L_below l D cI cJ cR (x4 >>> ((nI 3) &&& 31)) 20 (by omega) (by omega)) gL_cave_L_below rfl hd_L_below ⟨Nat.le_of_ble_eq_true rfl, Nat.le_of_ble_eq_true rfl⟩ ⟨(show (40 + 20 * k) + 0 ≤ 1000 by omega), (show (1800 + 120 * k) + 0 ≤ 8000 by omega)⟩ [] rfl (by decide) (Nat.le_of_ble_eq_true rfl) dL_cave_62) (fun v_62 hv_62 => ?_)
    obtain ⟨r_62, hr_62, rfl⟩ := hv_62
    refine ek_Nmul X dL_cave_65 ?_
    have hm_66 : r_53 * r_62 ≤ 5 * 19 := Nat.mul_le_mul (by omega) (by omega)
    refine ek_Nsub X (by omega) dL_cave_66 ?_
    refine ek_bp (v := nI 30) X (by decide) dL_cave_67 ?_
    refine ek_il X 0 rfl dL_cave_69 ?_
    refine ek_ic (v := nI 5) X (by decide) dL_cave_71 ?_
    refine ek_shr X dL_cave_72 ?_
    refine ek_ic (v := nI 4) X (by decide) dL_cave_73 ?_
    refine ek_doRi (ek_runS (As := [.int (x4 >>> ((nI 5) &&& 31)), .int (nI 4)]) (rest := [.int (nI 30), .int (nI (100 - (r_53 * r_62))), .ref (ad 46)]) X (c_L_below l D cI cJ cR (x4 >>> ((nI 5) &&& 31)) 4 (by omega) (by omega)) gL_cave_L_below rfl hd_L_below ⟨Nat.le_of_ble_eq_true rfl, Nat.le_of_ble_eq_true rfl⟩ ⟨(show (40 + 20 * k) + 0 ≤ 1000 by omega), (show (1800 + 120 * k) + 0 ≤ 8000 by omega)⟩ [] rfl (by decide) (Nat.le_of_ble_eq_true rfl) dL_cave_74) (fun v_74 hv_74 => ?_)
    obtain ⟨r_74, hr_74, rfl⟩ := hv_74
    refine ek_il X 0 rfl dL_cave_77 ?_
    refine ek_bp (v := nI 7) X (by decide) dL_cave_79 ?_
    refine ek_shr X dL_cave_81 ?_
    refine ek_bp (v := nI 10) X (by decide) dL_cave_82 ?_
    refine ek_doRi (ek_runS (As := [.int (x4 >>> ((nI 7) &&& 31)), .int (nI 10)]) (rest := [.int (nI r_74), .int (nI 30), .int (nI (100 - (r_53 * r_62))), .ref (ad 46)]) X (c_L_below l D cI cJ cR (x4 >>> ((nI 7) &&& 31)) 10 (by omega) (by omega)) gL_cave_L_below rfl hd_L_below ⟨Nat.le_of_ble_eq_true rfl, Nat.le_of_ble_eq_true rfl⟩ ⟨(show (40 + 20 * k) + 0 ≤ 1000 by omega), (show (1800 + 120 * k) + 0 ≤ 8000 by omega)⟩ [] rfl (by decide) (Nat.le_of_ble_eq_true rfl) dL_cave_84) (fun v_84 hv_84 => ?_)
    obtain ⟨r_84, hr_84, rfl⟩ := hv_84
    refine ek_Nmul X dL_cave_87 ?_
    have hm_88 : r_74 * r_84 ≤ 3 * 9 := Nat.mul_le_mul (by omega) (by omega)
    refine ek_Nsub X (by omega) dL_cave_88 ?_
    refine ek_il X 0 rfl dL_cave_89 ?_
    refine ek_ic (v := nI 2) X (by decide) dL_cave_91 ?_
    refine ek_shr X dL_cave_92 ?_
    refine ek_ic (v := nI 3) X (by decide) dL_cave_93 ?_
    refine ek_doRi (ek_runS (As := [.int (x4 >>> ((nI 2) &&& 31)), .int (nI 3)]) (rest := [.int (nI (30 - (r_74 * r_84))), .int (nI (100 - (r_53 * r_62))), .ref (ad 46)]) X (c_L_below l D cI cJ cR (x4 >>> ((nI 2) &&& 31)) 3 (by omega) (by omega)) gL_cave_L_below rfl hd_L_below ⟨Nat.le_of_ble_eq_true rfl, Nat.le_of_ble_eq_true rfl⟩ ⟨(show (40 + 20 * k) + 0 ≤ 1000 by omega), (show (1800 + 120 * k) + 0 ≤ 8000 by omega)⟩ [] rfl (by decide) (Nat.le_of_ble_eq_true rfl) dL_cave_94) (fun v_94 hv_94 => ?_)
    obtain ⟨r_94, hr_94, rfl⟩ := hv_94
    refine ek_Zne X (by omega) 113 (by decide) dL_cave_97 (fun c_97 => ?_) (fun c_97 => ?_)
    · skip
      refine ek_ic (v := nI 0) X (by decide) dL_cave_113 ?_
      refine lx_call0 (As := [.int (nI (100 - (r_53 * r_62))), .int (nI (30 - (r_74 * r_84))), .int (nI 0)]) (rest := []) (kc := 4) (ks := 24) X hZ (c_X4_addChamber l hl D cI cJ cR ad vInit gInit qInit u hInit hInit hA.1 (100 - (r_53 * r_62)) (30 - (r_74 * r_84)) 0 (by omega) (by omega) (by omega)) (fun E => by rw [show xAddC (100 - (r_53 * r_62)) (30 - (r_74 * r_84)) 0 (cC u) = 0 from by unfold xAddC; rw [if_pos (by omega), if_pos (by omega)]]; rintro (⟨h1, -⟩ | ⟨h1, -⟩) <;> exact absurd h1 (by decide)) ⟨rfl, rfl⟩ gL_cave_X4_addChamber rfl hdV_X4_addChamber ⟨Nat.le_of_ble_eq_true rfl, Nat.le_of_ble_eq_true rfl⟩ ⟨(show (40 + 20 * k) + 4 ≤ 1000 by omega), (show (1800 + 120 * k) + 24 ≤ 8000 by omega)⟩ (Nat.le_of_ble_eq_true rfl) dL_cave_114 (fun v_114 hv_114 => ?_)
      obtain ⟨-, rfl⟩ := hv_114
      refine ek_pop X rfl dL_cave_117 ?_
      refine ek_Ninc (j := 4) (d := 1) (lv' := [(3, .int (nI (k + 1))), (4, .int x4), (0, .ref b), (1, .ref (ad 46)), (2, .int (nI C))]) X rfl (by decide) rfl dL_cave_118 ?_
      refine ek_goto X 23 (by decide) dL_cave_121 ?_
      refine ek_widen (k' := (40 + 20 * (k + 1))) (n' := (1800 + 120 * (k + 1))) (show ((40 + 20 * k) + 4) ≤ (40 + 20 * (k + 1)) by omega) (show ((1800 + 120 * k) + 24) ≤ (1800 + 120 * (k + 1)) by omega) ?_
      refine ek_re [2, 3, 4, 0] rfl ?_
      exact ih_23 (k + 1, (cAdd u (100 - (r_53 * r_62)) (30 - (r_74 * r_84)) 0)) (show (1 ≤ (k + 1) ∧ (k + 1) ≤ C) ∧ cAll ((cAdd u (100 - (r_53 * r_62)) (30 - (r_74 * r_84)) 0)) ∧ cC ((cAdd u (100 - (r_53 * r_62)) (30 - (r_74 * r_84)) 0)) = (k + 1) ∧ cP ((cAdd u (100 - (r_53 * r_62)) (30 - (r_74 * r_84)) 0)) = 0 from ⟨⟨by omega, by omega⟩, cAll_add hA (by omega) (by omega) (by omega) (by omega), congrArg (· + 1) hk3, hk4⟩) (by show C - (k + 1) < C - k; omega)
    · skip
      refine ek_il X 0 rfl dL_cave_100 ?_
      refine ek_bp (v := nI 6) X (by decide) dL_cave_102 ?_
      refine ek_shr X dL_cave_104 ?_
      refine ek_bp (v := nI 21) X (by decide) dL_cave_105 ?_
      refine ek_doRi (ek_runS (As := [.int (x4 >>> ((nI 6) &&& 31)), .int (nI 21)]) (rest := [.int (nI (30 - (r_74 * r_84))), .int (nI (100 - (r_53 * r_62))), .ref (ad 46)]) X (c_L_below l D cI cJ cR (x4 >>> ((nI 6) &&& 31)) 21 (by omega) (by omega)) gL_cave_L_below rfl hd_L_below ⟨Nat.le_of_ble_eq_true rfl, Nat.le_of_ble_eq_true rfl⟩ ⟨(show (40 + 20 * k) + 0 ≤ 1000 by omega), (show (1800 + 120 * k) + 0 ≤ 8000 by omega)⟩ [] rfl (by decide) (Nat.le_of_ble_eq_true rfl) dL_cave_107) (fun v_107 hv_107 => ?_)
      obtain ⟨r_107, hr_107, rfl⟩ := hv_107
      refine ek_goto X 114 (by decide) dL_cave_110 ?_
      refine lx_call0 (As := [.int (nI (100 - (r_53 * r_62))), .int (nI (30 - (r_74 * r_84))), .int (nI r_107)]) (rest := []) (kc := 4) (ks := 24) X hZ (c_X4_addChamber l hl D cI cJ cR ad vInit gInit qInit u hInit hInit hA.1 (100 - (r_53 * r_62)) (30 - (r_74 * r_84)) r_107 (by omega) (by omega) (by omega)) (fun E => by rw [show xAddC (100 - (r_53 * r_62)) (30 - (r_74 * r_84)) r_107 (cC u) = 0 from by unfold xAddC; rw [if_pos (by omega), if_pos (by omega)]]; rintro (⟨h1, -⟩ | ⟨h1, -⟩) <;> exact absurd h1 (by decide)) ⟨rfl, rfl⟩ gL_cave_X4_addChamber rfl hdV_X4_addChamber ⟨Nat.le_of_ble_eq_true rfl, Nat.le_of_ble_eq_true rfl⟩ ⟨(show (40 + 20 * k) + 4 ≤ 1000 by omega), (show (1800 + 120 * k) + 24 ≤ 8000 by omega)⟩ (Nat.le_of_ble_eq_true rfl) dL_cave_114 (fun v_114 hv_114 => ?_)
      obtain ⟨-, rfl⟩ := hv_114
      refine ek_pop X rfl dL_cave_117 ?_
      refine ek_Ninc (j := 4) (d := 1) (lv' := [(3, .int (nI (k + 1))), (4, .int x4), (0, .ref b), (1, .ref (ad 46)), (2, .int (nI C))]) X rfl (by decide) rfl dL_cave_118 ?_
      refine ek_goto X 23 (by decide) dL_cave_121 ?_
      refine ek_widen (k' := (40 + 20 * (k + 1))) (n' := (1800 + 120 * (k + 1))) (show ((40 + 20 * k) + 4) ≤ (40 + 20 * (k + 1)) by omega) (show ((1800 + 120 * k) + 24) ≤ (1800 + 120 * (k + 1)) by omega) ?_
      refine ek_re [2, 3, 4, 0] rfl ?_
      exact ih_23 (k + 1, (cAdd u (100 - (r_53 * r_62)) (30 - (r_74 * r_84)) r_107)) (show (1 ≤ (k + 1) ∧ (k + 1) ≤ C) ∧ cAll ((cAdd u (100 - (r_53 * r_62)) (30 - (r_74 * r_84)) r_107)) ∧ cC ((cAdd u (100 - (r_53 * r_62)) (30 - (r_74 * r_84)) r_107)) = (k + 1) ∧ cP ((cAdd u (100 - (r_53 * r_62)) (30 - (r_74 * r_84)) r_107)) = 0 from ⟨⟨by omega, by omega⟩, cAll_add hA (by omega) (by omega) (by omega) (by omega), congrArg (· + 1) hk3, hk4⟩) (by show C - (k + 1) < C - k; omega)
