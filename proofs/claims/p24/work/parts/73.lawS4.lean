/-! ===== the law's body, S4 ===== -/
set_option maxHeartbeats 4000000 in
set_option maxRecDepth 100000 in
theorem law_S4 {p : Program} {l : Launch} {e : Env} {s9 : State} {m9 : MethodId} {args9 : Array Value} {below9 : List Frame} {meth9 : Method} {c9 : Code} {D : va_G} {cI cJ cR : ClassId} {A : Nat → Prop} {Q : State → Prop} {ad : Nat → Nat} {b L : Nat} {xs : Nat → Int32} (X : ek_X p s9 m9 args9 meth9 c9 RL cL_law 29 (some .boolean) wsL_law nestW D (tyW cI cJ cR) A A True) (hl : l.stackTraces = false) (hZ : ek_Zt A s9) (hS9 : ek_S9 A b L xs s9) {C P t : Nat} {cv : CavT} {g : SndT} {q : QueT} {u : CaveT} {h k : EchT} (hA : cAll u) (hC : cC u = C) (hP : cP u = P) (hC2 : 2 ≤ C) (hI : sOk g q) (hH : hOk h) (hK : hOk k) (he1 : 1 ≤ vEar cv) (he : vEar cv ≤ 50) (ht : t < 24) {w bt z : Nat} (hwb : wbOk w bt) (hz60 : z ≤ 60) {lst : Nat} (hL : cLst u lst) (hl9 : lst ≤ 99)
    (kk : ∀ (u4 : CaveT) (f4 : Nat → Int32), u4 = cSetF u f4 → ek_G p l e room_1 s9 m9 args9 below9 meth9 c9 29 D A A (1100 + 5000 * t + 1400) (9000 + 40000 * t + 9000) Q (wV ad cI cJ cR cv g q u4 h k) 521 [(0, .ref b), (1, .ref (ad 46)), (2, .int (nI C)), (3, .int (nI P)), (4, .int (nI t)), (5, .int (nI t)), (8, .int (nI w)), (9, .int (nI bt)), (12, .int (nI z)), (17, .int (nI lst))] []) : ek_G p l e room_1 s9 m9 args9 below9 meth9 c9 29 D A A (1100 + 5000 * t + 700) (9000 + 40000 * t + 4500) Q (wV ad cI cJ cR cv g q u h k) 433 [(0, .ref b), (1, .ref (ad 46)), (2, .int (nI C)), (3, .int (nI P)), (4, .int (nI t)), (5, .int (nI t)), (8, .int (nI w)), (9, .int (nI bt)), (12, .int (nI z)), (17, .int (nI lst))] [] := by
  have hC12 : C ≤ 12 := by have := hA.1.1.2; omega
  have hP18 : P ≤ 18 := by have := hA.1.2.1; omega
  have hb1 := hwb.2.1
  have hb2 := hwb.2.2
  have hw9 := hwb.1.1.2
  refine ek_ic (v := nI 0) X (by decide) dL_law_433 ?_
  refine ek_is (lv' := [(18, .int (nI 0)), (0, .ref b), (1, .ref (ad 46)), (2, .int (nI C)), (3, .int (nI P)), (4, .int (nI t)), (5, .int (nI t)), (8, .int (nI w)), (9, .int (nI bt)), (12, .int (nI z)), (17, .int (nI lst))]) X (by decide) rfl dL_law_434 ?_
  refine ek_loopKn (σ := Nat × CaveT) (fun zz => (fun (j : Nat) (u4 : CaveT) => (1100 + 5000 * t + 720 + 40 * j)) zz.1 zz.2) (fun zz => (fun (j : Nat) (u4 : CaveT) => (9000 + 40000 * t + 4600 + 240 * j)) zz.1 zz.2) (fun zz => (fun (j : Nat) (u4 : CaveT) => j ≤ C ∧ ∃ f4 : Nat → Int32, u4 = cSetF u f4) zz.1 zz.2) (fun zz => (fun (j : Nat) (u4 : CaveT) => C - j) zz.1 zz.2) (fun zz => (fun (j : Nat) (u4 : CaveT) => wV ad cI cJ cR cv g q u4 h k) zz.1 zz.2) (fun zz => (fun (j : Nat) (u4 : CaveT) => [(0, .ref b), (1, .ref (ad 46)), (2, .int (nI C)), (3, .int (nI P)), (4, .int (nI t)), (5, .int (nI t)), (8, .int (nI w)), (9, .int (nI bt)), (12, .int (nI z)), (17, .int (nI lst)), (18, .int (nI j))]) zz.1 zz.2) ?_ (0, u) ⟨Nat.zero_le _, cFnd u, rfl⟩ rfl [1, 2, 3, 4, 5, 6, 7, 8, 9, 10, 0] rfl (show (1100 + 5000 * t + 700) ≤ (1100 + 5000 * t + 720 + 40 * 0) by omega) (show (9000 + 40000 * t + 4500) ≤ (9000 + 40000 * t + 4600 + 240 * 0) by omega)
  intro zz ha_436 ih_436
  obtain ⟨j, u4⟩ := zz
  replace ha_436 : j ≤ C ∧ ∃ f4 : Nat → Int32, u4 = cSetF u f4 := ha_436
  refine ek_cast (w' := wV ad cI cJ cR cv g q u4 h k) rfl ?_
  refine ek_castL (lv' := [(0, .ref b), (1, .ref (ad 46)), (2, .int (nI C)), (3, .int (nI P)), (4, .int (nI t)), (5, .int (nI t)), (8, .int (nI w)), (9, .int (nI bt)), (12, .int (nI z)), (17, .int (nI lst)), (18, .int (nI j))]) rfl ?_
  obtain ⟨hj4, f4, hu4⟩ := ha_436
  have hA4 : cAll u4 := by rw [hu4]; exact cAll_F hA f4
  have hC4 : cC u4 = C := by rw [hu4]; exact hC
  have hL4 : cLst u4 lst := by rw [hu4]; exact hL
  have hW4 := hA4.1.2.2.1
  have hC5 : cC (cSetF u4 (wayOf u4 0)) = C := hC4
  have hC6 : cC (cSetF (cSetF u4 (wayOf u4 0)) (upOf (cSetF u4 (wayOf u4 0)))) = C := hC4
  have hW5 : cW (cSetF u4 (wayOf u4 0)) = cW u4 := rfl
  have hW6 : cW (cSetF (cSetF u4 (wayOf u4 0)) (upOf (cSetF u4 (wayOf u4 0)))) = cW u4 := rfl
  refine ek_il X 10 rfl dL_law_436 ?_
  refine ek_iln X 2 rfl dL_law_438 ?_
  refine ek_Nge X (by omega) (by omega) 521 (by decide) dL_law_439 (fun c_439 => ?_) (fun c_439 => ?_)
  · skip
    refine ek_widen (k' := (1100 + 5000 * t + 1400)) (n' := (9000 + 40000 * t + 9000)) (show (1100 + 5000 * t + 720 + 40 * j) ≤ (1100 + 5000 * t + 1400) by omega) (show (9000 + 40000 * t + 4600 + 240 * j) ≤ (9000 + 40000 * t + 9000) by omega) ?_
    refine ek_re [0, 1, 2, 3, 4, 5, 6, 7, 8, 9] rfl ?_
    exact kk u4 f4 hu4
  · skip
    obtain ⟨a, b9, ea, eb, ha1, hb1, hab, hal⟩ := jWay hA4.1 hA4.2.1 hL4 (c := j) (by omega)
    refine ek_aln X 1 rfl dL_law_442 ?_
    refine ek_ic (v := nI 0) X (by decide) dL_law_443 ?_
    refine ek_il X 10 rfl dL_law_444 ?_
    refine lx_call0 (As := [.int (nI 0), .int (nI j)]) (rest := []) (kc := 2) (ks := 12) X hZ (c_X4_way l hl D cI cJ cR ad cv g q u4 h k hA4.1 0 j (by omega) (by omega)) (fun E => by rw [show xWay 0 j (cC u4) = 0 from by unfold xWay; rw [if_pos (by omega)]]; rintro ⟨h1, -⟩ <;> exact absurd h1 (by decide)) ⟨rfl, rfl⟩ gL_law_X4_way rfl hdV_X4_way ⟨Nat.le_of_ble_eq_true rfl, Nat.le_of_ble_eq_true rfl⟩ ⟨(show (1100 + 5000 * t + 720 + 40 * j) + 2 ≤ 600104 by omega), (show (9000 + 40000 * t + 4600 + 240 * j) + 12 ≤ 7301313 by omega)⟩ (Nat.le_of_ble_eq_true rfl) dL_law_446 (fun v_446 hv_446 => ?_)
    obtain ⟨-, rfl⟩ := hv_446
    rcases Nat.eq_zero_or_pos a with ha0 | ha0
    · refine ek_top (v' := -1) (by rw [ea, ha0]; rfl) ?_
      refine ek_is (lv' := [(19, .int (-1)), (0, .ref b), (1, .ref (ad 46)), (2, .int (nI C)), (3, .int (nI P)), (4, .int (nI t)), (5, .int (nI t)), (8, .int (nI w)), (9, .int (nI bt)), (12, .int (nI z)), (17, .int (nI lst)), (18, .int (nI j))]) X (by decide) rfl dL_law_449 ?_
      refine ek_il X 0 rfl dL_law_451 ?_
      refine ek_if_lt X 460 (by decide) dL_law_453 (fun c_453 => ?_) (fun c_453 => ?_)
      · skip
        refine ek_ic (v := nI 0) X (by decide) dL_law_460 ?_
        refine ek_aln X 2 rfl dL_law_461 ?_
        refine ek_il X 11 rfl dL_law_462 ?_
        refine lx_call0 (As := [.int (nI j)]) (rest := [.int (nI 0)]) (kc := 1) (ks := 6) X hZ (c_X4_highest l hl D cI cJ cR ad cv g q ((cSetF u4 (wayOf u4 0))) h k hA4.1 j (by omega)) (fun E => by rw [show xLt j (cC ((cSetF u4 (wayOf u4 0)))) = 0 from by unfold xLt; rw [if_pos (by omega)]]; rintro ⟨h1, -⟩ <;> exact absurd h1 (by decide)) ⟨rfl, rfl⟩ gL_law_X4_highest rfl hdV_X4_highest ⟨Nat.le_of_ble_eq_true rfl, Nat.le_of_ble_eq_true rfl⟩ ⟨(show ((1100 + 5000 * t + 720 + 40 * j) + 2) + 1 ≤ 600104 by omega), (show ((9000 + 40000 * t + 4600 + 240 * j) + 12) + 6 ≤ 7301313 by omega)⟩ (Nat.le_of_ble_eq_true rfl) dL_law_464 (fun v_464 hv_464 => ?_)
        obtain ⟨-, rfl⟩ := hv_464
        rcases Nat.eq_zero_or_pos b9 with hb0 | hb0
        · refine ek_top (v' := -1) (by rw [upOf_F hA4.1 _ (by omega), eb, hb0]; rfl) ?_
          refine ek_aln X 2 rfl dL_law_467 ?_
          refine ek_ic (v := nI 4) X (by decide) dL_law_468 ?_
          refine lx_call0 (As := [.int (nI 4)]) (rest := [.int (-1), .int (nI 0)]) (kc := 1) (ks := 6) X hZ (c_X4_count l hl D cI cJ cR ad cv g q ((cSetF ((cSetF u4 (wayOf u4 0))) (upOf ((cSetF u4 (wayOf u4 0)))))) h k hA4.1 4 (by omega)) (fun E => by rw [show xLe 4 9 = 0 from by unfold xLe; rw [if_pos (by omega)]]; rintro ⟨h1, -⟩ <;> exact absurd h1 (by decide)) ⟨rfl, rfl⟩ gL_law_X4_count rfl hdV_X4_count ⟨Nat.le_of_ble_eq_true rfl, Nat.le_of_ble_eq_true rfl⟩ ⟨(show (((1100 + 5000 * t + 720 + 40 * j) + 2) + 1) + 1 ≤ 600104 by omega), (show (((9000 + 40000 * t + 4600 + 240 * j) + 12) + 6) + 6 ≤ 7301313 by omega)⟩ (Nat.le_of_ble_eq_true rfl) dL_law_469 (fun v_469 hv_469 => ?_)
          obtain ⟨-, rfl⟩ := hv_469
          refine ek_top (v' := nI (cW u4)) rfl ?_
          refine ek_icmp_lt X 479 (by decide) dL_law_472 (fun c_472 => ?_) (fun c_472 => ?_)
          · skip
            refine ek_ic (v := nI 0) X (by decide) dL_law_479 ?_
            refine ek_Nne X (by omega) (by omega) 513 (by decide) dL_law_480 (fun h => absurd h (by omega)) (fun _ => ?_)
            refine ek_aln X 2 rfl dL_law_483 ?_
            refine ek_il X 11 rfl dL_law_484 ?_
            refine ek_bp (v := nI 6) X (by decide) dL_law_486 ?_
            refine lx_call0 (As := [.int (nI j), .int (nI 6)]) (rest := []) (kc := 2) (ks := 12) X hZ (c_X4_chamber l hl D cI cJ cR ad cv g q ((cSetF ((cSetF u4 (wayOf u4 0))) (upOf ((cSetF u4 (wayOf u4 0)))))) h k hA4.1 j 6 (by omega) (by omega)) (fun E => by rw [show xTwo j (cC ((cSetF ((cSetF u4 (wayOf u4 0))) (upOf ((cSetF u4 (wayOf u4 0))))))) 6 6 = 0 from by unfold xTwo; rw [if_pos (by omega)]]; rintro ⟨h1, -⟩ <;> exact absurd h1 (by decide)) ⟨rfl, rfl⟩ gL_law_X4_chamber rfl hdV_X4_chamber ⟨Nat.le_of_ble_eq_true rfl, Nat.le_of_ble_eq_true rfl⟩ ⟨(show ((((1100 + 5000 * t + 720 + 40 * j) + 2) + 1) + 1) + 2 ≤ 600104 by omega), (show ((((9000 + 40000 * t + 4600 + 240 * j) + 12) + 6) + 6) + 12 ≤ 7301313 by omega)⟩ (Nat.le_of_ble_eq_true rfl) dL_law_488 (fun v_488 hv_488 => ?_)
            obtain ⟨-, rfl⟩ := hv_488
            refine ek_aln X 2 rfl dL_law_491 ?_
            refine ek_il X 11 rfl dL_law_492 ?_
            refine ek_ic (v := nI 5) X (by decide) dL_law_494 ?_
            refine lx_call0 (As := [.int (nI j), .int (nI 5)]) (rest := [.int (nI (cFact ((cSetF ((cSetF u4 (wayOf u4 0))) (upOf ((cSetF u4 (wayOf u4 0)))))) j 6))]) (kc := 2) (ks := 12) X hZ (c_X4_chamber l hl D cI cJ cR ad cv g q ((cSetF ((cSetF u4 (wayOf u4 0))) (upOf ((cSetF u4 (wayOf u4 0)))))) h k hA4.1 j 5 (by omega) (by omega)) (fun E => by rw [show xTwo j (cC ((cSetF ((cSetF u4 (wayOf u4 0))) (upOf ((cSetF u4 (wayOf u4 0))))))) 5 6 = 0 from by unfold xTwo; rw [if_pos (by omega)]]; rintro ⟨h1, -⟩ <;> exact absurd h1 (by decide)) ⟨rfl, rfl⟩ gL_law_X4_chamber rfl hdV_X4_chamber ⟨Nat.le_of_ble_eq_true rfl, Nat.le_of_ble_eq_true rfl⟩ ⟨(show (((((1100 + 5000 * t + 720 + 40 * j) + 2) + 1) + 1) + 2) + 2 ≤ 600104 by omega), (show (((((9000 + 40000 * t + 4600 + 240 * j) + 12) + 6) + 6) + 12) + 12 ≤ 7301313 by omega)⟩ (Nat.le_of_ble_eq_true rfl) dL_law_495 (fun v_495 hv_495 => ?_)
            obtain ⟨-, rfl⟩ := hv_495
            have hf5 : cFact (cSetF (cSetF u4 (wayOf u4 0)) (upOf (cSetF u4 (wayOf u4 0)))) j 5 ≤ 18 := Nat.le_trans (hA4.1.2.2.2.2.2.2.2.2.1 j) hA4.1.2.1
            have hf6 : cFact (cSetF (cSetF u4 (wayOf u4 0)) (upOf (cSetF u4 (wayOf u4 0)))) j 6 ≤ cFact (cSetF (cSetF u4 (wayOf u4 0)) (upOf (cSetF u4 (wayOf u4 0)))) j 5 := cF65 (cSetF (cSetF u4 (wayOf u4 0)) (upOf (cSetF u4 (wayOf u4 0)))) j
            refine ek_Ngt X (by omega) (by omega) 513 (by decide) dL_law_498 (fun c_498 => ?_) (fun c_498 => ?_)
            · exact absurd c_498 (Nat.not_lt.mpr hf6)
            · skip
              refine ek_il X 0 rfl dL_law_501 ?_
              refine ek_if_le X 515 (by decide) dL_law_503 (fun c_503 => ?_) (fun c_503 => ?_)
              · skip
                refine ek_Ninc (j := 11) (d := 1) (lv' := [(18, .int (nI (j + 1))), (19, .int (-1)), (0, .ref b), (1, .ref (ad 46)), (2, .int (nI C)), (3, .int (nI P)), (4, .int (nI t)), (5, .int (nI t)), (8, .int (nI w)), (9, .int (nI bt)), (12, .int (nI z)), (17, .int (nI lst))]) X rfl (by decide) rfl dL_law_515 ?_
                refine ek_goto X 436 (by decide) dL_law_518 ?_
                refine ek_widen (k' := (1100 + 5000 * t + 720 + 40 * (j + 1))) (n' := (9000 + 40000 * t + 4600 + 240 * (j + 1))) (show ((((((1100 + 5000 * t + 720 + 40 * j) + 2) + 1) + 1) + 2) + 2) ≤ (1100 + 5000 * t + 720 + 40 * (j + 1)) by omega) (show ((((((9000 + 40000 * t + 4600 + 240 * j) + 12) + 6) + 6) + 12) + 12) ≤ (9000 + 40000 * t + 4600 + 240 * (j + 1)) by omega) ?_
                refine ek_re [2, 3, 4, 5, 6, 7, 8, 9, 10, 11, 0] rfl ?_
                exact ih_436 (j + 1, (cSetF ((cSetF u4 (wayOf u4 0))) (upOf ((cSetF u4 (wayOf u4 0)))))) (show (j + 1) ≤ C ∧ ∃ f4 : Nat → Int32, ((cSetF ((cSetF u4 (wayOf u4 0))) (upOf ((cSetF u4 (wayOf u4 0)))))) = cSetF u f4 from ⟨by omega, _, cSetF_2 hu4⟩) (by show C - (j + 1) < C - j; omega)
              · exact absurd (show (-1 : Int32) ≤ 0 by decide) c_503
          · exact absurd (m1_lt (by omega)) c_472
        · refine ek_top (v' := nI (b9 - 1)) (by rw [upOf_F hA4.1 _ (by omega), eb]; exact pW_pos hb0) ?_
          refine ek_aln X 2 rfl dL_law_467 ?_
          refine ek_ic (v := nI 4) X (by decide) dL_law_468 ?_
          refine lx_call0 (As := [.int (nI 4)]) (rest := [.int (nI ((b9 - 1))), .int (nI 0)]) (kc := 1) (ks := 6) X hZ (c_X4_count l hl D cI cJ cR ad cv g q ((cSetF ((cSetF u4 (wayOf u4 0))) (upOf ((cSetF u4 (wayOf u4 0)))))) h k hA4.1 4 (by omega)) (fun E => by rw [show xLe 4 9 = 0 from by unfold xLe; rw [if_pos (by omega)]]; rintro ⟨h1, -⟩ <;> exact absurd h1 (by decide)) ⟨rfl, rfl⟩ gL_law_X4_count rfl hdV_X4_count ⟨Nat.le_of_ble_eq_true rfl, Nat.le_of_ble_eq_true rfl⟩ ⟨(show (((1100 + 5000 * t + 720 + 40 * j) + 2) + 1) + 1 ≤ 600104 by omega), (show (((9000 + 40000 * t + 4600 + 240 * j) + 12) + 6) + 6 ≤ 7301313 by omega)⟩ (Nat.le_of_ble_eq_true rfl) dL_law_469 (fun v_469 hv_469 => ?_)
          obtain ⟨-, rfl⟩ := hv_469
          refine ek_top (v' := nI (cW u4)) rfl ?_
          refine ek_Nlt X (by omega) (by omega) 479 (by decide) dL_law_472 (fun c_472 => ?_) (fun c_472 => ?_)
          · skip
            refine ek_ic (v := nI 0) X (by decide) dL_law_479 ?_
            refine ek_Nne X (by omega) (by omega) 513 (by decide) dL_law_480 (fun h => absurd h (by omega)) (fun _ => ?_)
            refine ek_aln X 2 rfl dL_law_483 ?_
            refine ek_il X 11 rfl dL_law_484 ?_
            refine ek_bp (v := nI 6) X (by decide) dL_law_486 ?_
            refine lx_call0 (As := [.int (nI j), .int (nI 6)]) (rest := []) (kc := 2) (ks := 12) X hZ (c_X4_chamber l hl D cI cJ cR ad cv g q ((cSetF ((cSetF u4 (wayOf u4 0))) (upOf ((cSetF u4 (wayOf u4 0)))))) h k hA4.1 j 6 (by omega) (by omega)) (fun E => by rw [show xTwo j (cC ((cSetF ((cSetF u4 (wayOf u4 0))) (upOf ((cSetF u4 (wayOf u4 0))))))) 6 6 = 0 from by unfold xTwo; rw [if_pos (by omega)]]; rintro ⟨h1, -⟩ <;> exact absurd h1 (by decide)) ⟨rfl, rfl⟩ gL_law_X4_chamber rfl hdV_X4_chamber ⟨Nat.le_of_ble_eq_true rfl, Nat.le_of_ble_eq_true rfl⟩ ⟨(show ((((1100 + 5000 * t + 720 + 40 * j) + 2) + 1) + 1) + 2 ≤ 600104 by omega), (show ((((9000 + 40000 * t + 4600 + 240 * j) + 12) + 6) + 6) + 12 ≤ 7301313 by omega)⟩ (Nat.le_of_ble_eq_true rfl) dL_law_488 (fun v_488 hv_488 => ?_)
            obtain ⟨-, rfl⟩ := hv_488
            refine ek_aln X 2 rfl dL_law_491 ?_
            refine ek_il X 11 rfl dL_law_492 ?_
            refine ek_ic (v := nI 5) X (by decide) dL_law_494 ?_
            refine lx_call0 (As := [.int (nI j), .int (nI 5)]) (rest := [.int (nI (cFact ((cSetF ((cSetF u4 (wayOf u4 0))) (upOf ((cSetF u4 (wayOf u4 0)))))) j 6))]) (kc := 2) (ks := 12) X hZ (c_X4_chamber l hl D cI cJ cR ad cv g q ((cSetF ((cSetF u4 (wayOf u4 0))) (upOf ((cSetF u4 (wayOf u4 0)))))) h k hA4.1 j 5 (by omega) (by omega)) (fun E => by rw [show xTwo j (cC ((cSetF ((cSetF u4 (wayOf u4 0))) (upOf ((cSetF u4 (wayOf u4 0))))))) 5 6 = 0 from by unfold xTwo; rw [if_pos (by omega)]]; rintro ⟨h1, -⟩ <;> exact absurd h1 (by decide)) ⟨rfl, rfl⟩ gL_law_X4_chamber rfl hdV_X4_chamber ⟨Nat.le_of_ble_eq_true rfl, Nat.le_of_ble_eq_true rfl⟩ ⟨(show (((((1100 + 5000 * t + 720 + 40 * j) + 2) + 1) + 1) + 2) + 2 ≤ 600104 by omega), (show (((((9000 + 40000 * t + 4600 + 240 * j) + 12) + 6) + 6) + 12) + 12 ≤ 7301313 by omega)⟩ (Nat.le_of_ble_eq_true rfl) dL_law_495 (fun v_495 hv_495 => ?_)
            obtain ⟨-, rfl⟩ := hv_495
            have hf5 : cFact (cSetF (cSetF u4 (wayOf u4 0)) (upOf (cSetF u4 (wayOf u4 0)))) j 5 ≤ 18 := Nat.le_trans (hA4.1.2.2.2.2.2.2.2.2.1 j) hA4.1.2.1
            have hf6 : cFact (cSetF (cSetF u4 (wayOf u4 0)) (upOf (cSetF u4 (wayOf u4 0)))) j 6 ≤ cFact (cSetF (cSetF u4 (wayOf u4 0)) (upOf (cSetF u4 (wayOf u4 0)))) j 5 := cF65 (cSetF (cSetF u4 (wayOf u4 0)) (upOf (cSetF u4 (wayOf u4 0)))) j
            refine ek_Ngt X (by omega) (by omega) 513 (by decide) dL_law_498 (fun c_498 => ?_) (fun c_498 => ?_)
            · exact absurd c_498 (Nat.not_lt.mpr hf6)
            · skip
              refine ek_il X 0 rfl dL_law_501 ?_
              refine ek_if_le X 515 (by decide) dL_law_503 (fun c_503 => ?_) (fun c_503 => ?_)
              · skip
                refine ek_Ninc (j := 11) (d := 1) (lv' := [(18, .int (nI (j + 1))), (19, .int (-1)), (0, .ref b), (1, .ref (ad 46)), (2, .int (nI C)), (3, .int (nI P)), (4, .int (nI t)), (5, .int (nI t)), (8, .int (nI w)), (9, .int (nI bt)), (12, .int (nI z)), (17, .int (nI lst))]) X rfl (by decide) rfl dL_law_515 ?_
                refine ek_goto X 436 (by decide) dL_law_518 ?_
                refine ek_widen (k' := (1100 + 5000 * t + 720 + 40 * (j + 1))) (n' := (9000 + 40000 * t + 4600 + 240 * (j + 1))) (show ((((((1100 + 5000 * t + 720 + 40 * j) + 2) + 1) + 1) + 2) + 2) ≤ (1100 + 5000 * t + 720 + 40 * (j + 1)) by omega) (show ((((((9000 + 40000 * t + 4600 + 240 * j) + 12) + 6) + 6) + 12) + 12) ≤ (9000 + 40000 * t + 4600 + 240 * (j + 1)) by omega) ?_
                refine ek_re [2, 3, 4, 5, 6, 7, 8, 9, 10, 11, 0] rfl ?_
                exact ih_436 (j + 1, (cSetF ((cSetF u4 (wayOf u4 0))) (upOf ((cSetF u4 (wayOf u4 0)))))) (show (j + 1) ≤ C ∧ ∃ f4 : Nat → Int32, ((cSetF ((cSetF u4 (wayOf u4 0))) (upOf ((cSetF u4 (wayOf u4 0)))))) = cSetF u f4 from ⟨by omega, _, cSetF_2 hu4⟩) (by show C - (j + 1) < C - j; omega)
              · exact absurd (show (-1 : Int32) ≤ 0 by decide) c_503
          · skip
            refine ek_ic (v := nI 1) X (by decide) dL_law_475 ?_
            refine ek_goto X 480 (by decide) dL_law_476 ?_
            refine ek_Nne X (by omega) (by omega) 513 (by decide) dL_law_480 (fun _ => ?_) (fun h => absurd h (by omega))
            exfalso
            omega
      · exact absurd (show (-1 : Int32) < 0 by decide) c_453
    · refine ek_top (v' := nI (a - 1)) (ea.trans (pW_pos ha0)) ?_
      refine ek_is (lv' := [(19, .int (nI ((a - 1)))), (0, .ref b), (1, .ref (ad 46)), (2, .int (nI C)), (3, .int (nI P)), (4, .int (nI t)), (5, .int (nI t)), (8, .int (nI w)), (9, .int (nI bt)), (12, .int (nI z)), (17, .int (nI lst)), (18, .int (nI j))]) X (by decide) rfl dL_law_449 ?_
      refine ek_il X 0 rfl dL_law_451 ?_
      refine ek_Zlt X (by omega) 460 (by decide) dL_law_453 (fun c_453 => ?_) (fun c_453 => ?_)
      · exact c_453.elim
      · skip
        refine ek_ic (v := nI 1) X (by decide) dL_law_456 ?_
        refine ek_goto X 461 (by decide) dL_law_457 ?_
        refine ek_aln X 2 rfl dL_law_461 ?_
        refine ek_il X 11 rfl dL_law_462 ?_
        refine lx_call0 (As := [.int (nI j)]) (rest := [.int (nI 1)]) (kc := 1) (ks := 6) X hZ (c_X4_highest l hl D cI cJ cR ad cv g q ((cSetF u4 (wayOf u4 0))) h k hA4.1 j (by omega)) (fun E => by rw [show xLt j (cC ((cSetF u4 (wayOf u4 0)))) = 0 from by unfold xLt; rw [if_pos (by omega)]]; rintro ⟨h1, -⟩ <;> exact absurd h1 (by decide)) ⟨rfl, rfl⟩ gL_law_X4_highest rfl hdV_X4_highest ⟨Nat.le_of_ble_eq_true rfl, Nat.le_of_ble_eq_true rfl⟩ ⟨(show ((1100 + 5000 * t + 720 + 40 * j) + 2) + 1 ≤ 600104 by omega), (show ((9000 + 40000 * t + 4600 + 240 * j) + 12) + 6 ≤ 7301313 by omega)⟩ (Nat.le_of_ble_eq_true rfl) dL_law_464 (fun v_464 hv_464 => ?_)
        obtain ⟨-, rfl⟩ := hv_464
        rcases Nat.eq_zero_or_pos b9 with hb0 | hb0
        · refine ek_top (v' := -1) (by rw [upOf_F hA4.1 _ (by omega), eb, hb0]; rfl) ?_
          refine ek_aln X 2 rfl dL_law_467 ?_
          refine ek_ic (v := nI 4) X (by decide) dL_law_468 ?_
          refine lx_call0 (As := [.int (nI 4)]) (rest := [.int (-1), .int (nI 1)]) (kc := 1) (ks := 6) X hZ (c_X4_count l hl D cI cJ cR ad cv g q ((cSetF ((cSetF u4 (wayOf u4 0))) (upOf ((cSetF u4 (wayOf u4 0)))))) h k hA4.1 4 (by omega)) (fun E => by rw [show xLe 4 9 = 0 from by unfold xLe; rw [if_pos (by omega)]]; rintro ⟨h1, -⟩ <;> exact absurd h1 (by decide)) ⟨rfl, rfl⟩ gL_law_X4_count rfl hdV_X4_count ⟨Nat.le_of_ble_eq_true rfl, Nat.le_of_ble_eq_true rfl⟩ ⟨(show (((1100 + 5000 * t + 720 + 40 * j) + 2) + 1) + 1 ≤ 600104 by omega), (show (((9000 + 40000 * t + 4600 + 240 * j) + 12) + 6) + 6 ≤ 7301313 by omega)⟩ (Nat.le_of_ble_eq_true rfl) dL_law_469 (fun v_469 hv_469 => ?_)
          obtain ⟨-, rfl⟩ := hv_469
          refine ek_top (v' := nI (cW u4)) rfl ?_
          refine ek_icmp_lt X 479 (by decide) dL_law_472 (fun c_472 => ?_) (fun c_472 => ?_)
          · skip
            refine ek_ic (v := nI 0) X (by decide) dL_law_479 ?_
            refine ek_Nne X (by omega) (by omega) 513 (by decide) dL_law_480 (fun _ => ?_) (fun h => absurd h (by omega))
            exfalso
            omega
          · exact absurd (m1_lt (by omega)) c_472
        · refine ek_top (v' := nI (b9 - 1)) (by rw [upOf_F hA4.1 _ (by omega), eb]; exact pW_pos hb0) ?_
          refine ek_aln X 2 rfl dL_law_467 ?_
          refine ek_ic (v := nI 4) X (by decide) dL_law_468 ?_
          refine lx_call0 (As := [.int (nI 4)]) (rest := [.int (nI ((b9 - 1))), .int (nI 1)]) (kc := 1) (ks := 6) X hZ (c_X4_count l hl D cI cJ cR ad cv g q ((cSetF ((cSetF u4 (wayOf u4 0))) (upOf ((cSetF u4 (wayOf u4 0)))))) h k hA4.1 4 (by omega)) (fun E => by rw [show xLe 4 9 = 0 from by unfold xLe; rw [if_pos (by omega)]]; rintro ⟨h1, -⟩ <;> exact absurd h1 (by decide)) ⟨rfl, rfl⟩ gL_law_X4_count rfl hdV_X4_count ⟨Nat.le_of_ble_eq_true rfl, Nat.le_of_ble_eq_true rfl⟩ ⟨(show (((1100 + 5000 * t + 720 + 40 * j) + 2) + 1) + 1 ≤ 600104 by omega), (show (((9000 + 40000 * t + 4600 + 240 * j) + 12) + 6) + 6 ≤ 7301313 by omega)⟩ (Nat.le_of_ble_eq_true rfl) dL_law_469 (fun v_469 hv_469 => ?_)
          obtain ⟨-, rfl⟩ := hv_469
          refine ek_top (v' := nI (cW u4)) rfl ?_
          refine ek_Nlt X (by omega) (by omega) 479 (by decide) dL_law_472 (fun c_472 => ?_) (fun c_472 => ?_)
          · skip
            refine ek_ic (v := nI 0) X (by decide) dL_law_479 ?_
            refine ek_Nne X (by omega) (by omega) 513 (by decide) dL_law_480 (fun _ => ?_) (fun h => absurd h (by omega))
            exfalso
            omega
          · skip
            refine ek_ic (v := nI 1) X (by decide) dL_law_475 ?_
            refine ek_goto X 480 (by decide) dL_law_476 ?_
            refine ek_Nne X (by omega) (by omega) 513 (by decide) dL_law_480 (fun h => absurd h (by omega)) (fun _ => ?_)
            refine ek_aln X 2 rfl dL_law_483 ?_
            refine ek_il X 11 rfl dL_law_484 ?_
            refine ek_bp (v := nI 6) X (by decide) dL_law_486 ?_
            refine lx_call0 (As := [.int (nI j), .int (nI 6)]) (rest := []) (kc := 2) (ks := 12) X hZ (c_X4_chamber l hl D cI cJ cR ad cv g q ((cSetF ((cSetF u4 (wayOf u4 0))) (upOf ((cSetF u4 (wayOf u4 0)))))) h k hA4.1 j 6 (by omega) (by omega)) (fun E => by rw [show xTwo j (cC ((cSetF ((cSetF u4 (wayOf u4 0))) (upOf ((cSetF u4 (wayOf u4 0))))))) 6 6 = 0 from by unfold xTwo; rw [if_pos (by omega)]]; rintro ⟨h1, -⟩ <;> exact absurd h1 (by decide)) ⟨rfl, rfl⟩ gL_law_X4_chamber rfl hdV_X4_chamber ⟨Nat.le_of_ble_eq_true rfl, Nat.le_of_ble_eq_true rfl⟩ ⟨(show ((((1100 + 5000 * t + 720 + 40 * j) + 2) + 1) + 1) + 2 ≤ 600104 by omega), (show ((((9000 + 40000 * t + 4600 + 240 * j) + 12) + 6) + 6) + 12 ≤ 7301313 by omega)⟩ (Nat.le_of_ble_eq_true rfl) dL_law_488 (fun v_488 hv_488 => ?_)
            obtain ⟨-, rfl⟩ := hv_488
            refine ek_aln X 2 rfl dL_law_491 ?_
            refine ek_il X 11 rfl dL_law_492 ?_
            refine ek_ic (v := nI 5) X (by decide) dL_law_494 ?_
            refine lx_call0 (As := [.int (nI j), .int (nI 5)]) (rest := [.int (nI (cFact ((cSetF ((cSetF u4 (wayOf u4 0))) (upOf ((cSetF u4 (wayOf u4 0)))))) j 6))]) (kc := 2) (ks := 12) X hZ (c_X4_chamber l hl D cI cJ cR ad cv g q ((cSetF ((cSetF u4 (wayOf u4 0))) (upOf ((cSetF u4 (wayOf u4 0)))))) h k hA4.1 j 5 (by omega) (by omega)) (fun E => by rw [show xTwo j (cC ((cSetF ((cSetF u4 (wayOf u4 0))) (upOf ((cSetF u4 (wayOf u4 0))))))) 5 6 = 0 from by unfold xTwo; rw [if_pos (by omega)]]; rintro ⟨h1, -⟩ <;> exact absurd h1 (by decide)) ⟨rfl, rfl⟩ gL_law_X4_chamber rfl hdV_X4_chamber ⟨Nat.le_of_ble_eq_true rfl, Nat.le_of_ble_eq_true rfl⟩ ⟨(show (((((1100 + 5000 * t + 720 + 40 * j) + 2) + 1) + 1) + 2) + 2 ≤ 600104 by omega), (show (((((9000 + 40000 * t + 4600 + 240 * j) + 12) + 6) + 6) + 12) + 12 ≤ 7301313 by omega)⟩ (Nat.le_of_ble_eq_true rfl) dL_law_495 (fun v_495 hv_495 => ?_)
            obtain ⟨-, rfl⟩ := hv_495
            have hf5 : cFact (cSetF (cSetF u4 (wayOf u4 0)) (upOf (cSetF u4 (wayOf u4 0)))) j 5 ≤ 18 := Nat.le_trans (hA4.1.2.2.2.2.2.2.2.2.1 j) hA4.1.2.1
            have hf6 : cFact (cSetF (cSetF u4 (wayOf u4 0)) (upOf (cSetF u4 (wayOf u4 0)))) j 6 ≤ cFact (cSetF (cSetF u4 (wayOf u4 0)) (upOf (cSetF u4 (wayOf u4 0)))) j 5 := cF65 (cSetF (cSetF u4 (wayOf u4 0)) (upOf (cSetF u4 (wayOf u4 0)))) j
            refine ek_Ngt X (by omega) (by omega) 513 (by decide) dL_law_498 (fun c_498 => ?_) (fun c_498 => ?_)
            · exact absurd c_498 (Nat.not_lt.mpr hf6)
            · skip
              refine ek_il X 0 rfl dL_law_501 ?_
              refine ek_Zle X (by omega) 515 (by decide) dL_law_503 (fun c_503 => ?_) (fun c_503 => ?_)
              · skip
                refine ek_Ninc (j := 11) (d := 1) (lv' := [(18, .int (nI (j + 1))), (19, .int (nI ((a - 1)))), (0, .ref b), (1, .ref (ad 46)), (2, .int (nI C)), (3, .int (nI P)), (4, .int (nI t)), (5, .int (nI t)), (8, .int (nI w)), (9, .int (nI bt)), (12, .int (nI z)), (17, .int (nI lst))]) X rfl (by decide) rfl dL_law_515 ?_
                refine ek_goto X 436 (by decide) dL_law_518 ?_
                refine ek_widen (k' := (1100 + 5000 * t + 720 + 40 * (j + 1))) (n' := (9000 + 40000 * t + 4600 + 240 * (j + 1))) (show ((((((1100 + 5000 * t + 720 + 40 * j) + 2) + 1) + 1) + 2) + 2) ≤ (1100 + 5000 * t + 720 + 40 * (j + 1)) by omega) (show ((((((9000 + 40000 * t + 4600 + 240 * j) + 12) + 6) + 6) + 12) + 12) ≤ (9000 + 40000 * t + 4600 + 240 * (j + 1)) by omega) ?_
                refine ek_re [2, 3, 4, 5, 6, 7, 8, 9, 10, 11, 0] rfl ?_
                exact ih_436 (j + 1, (cSetF ((cSetF u4 (wayOf u4 0))) (upOf ((cSetF u4 (wayOf u4 0)))))) (show (j + 1) ≤ C ∧ ∃ f4 : Nat → Int32, ((cSetF ((cSetF u4 (wayOf u4 0))) (upOf ((cSetF u4 (wayOf u4 0)))))) = cSetF u f4 from ⟨by omega, _, cSetF_2 hu4⟩) (by show C - (j + 1) < C - j; omega)
              · skip
                refine ek_il X 0 rfl dL_law_506 ?_
                refine ek_il X 10 rfl dL_law_508 ?_
                refine ek_Nge X (by omega) (by omega) 515 (by decide) dL_law_510 (fun c_510 => ?_) (fun c_510 => ?_)
                · skip
                  refine ek_Ninc (j := 11) (d := 1) (lv' := [(18, .int (nI (j + 1))), (19, .int (nI ((a - 1)))), (0, .ref b), (1, .ref (ad 46)), (2, .int (nI C)), (3, .int (nI P)), (4, .int (nI t)), (5, .int (nI t)), (8, .int (nI w)), (9, .int (nI bt)), (12, .int (nI z)), (17, .int (nI lst))]) X rfl (by decide) rfl dL_law_515 ?_
                  refine ek_goto X 436 (by decide) dL_law_518 ?_
                  refine ek_widen (k' := (1100 + 5000 * t + 720 + 40 * (j + 1))) (n' := (9000 + 40000 * t + 4600 + 240 * (j + 1))) (show ((((((1100 + 5000 * t + 720 + 40 * j) + 2) + 1) + 1) + 2) + 2) ≤ (1100 + 5000 * t + 720 + 40 * (j + 1)) by omega) (show ((((((9000 + 40000 * t + 4600 + 240 * j) + 12) + 6) + 6) + 12) + 12) ≤ (9000 + 40000 * t + 4600 + 240 * (j + 1)) by omega) ?_
                  refine ek_re [2, 3, 4, 5, 6, 7, 8, 9, 10, 11, 0] rfl ?_
                  exact ih_436 (j + 1, (cSetF ((cSetF u4 (wayOf u4 0))) (upOf ((cSetF u4 (wayOf u4 0)))))) (show (j + 1) ≤ C ∧ ∃ f4 : Nat → Int32, ((cSetF ((cSetF u4 (wayOf u4 0))) (upOf ((cSetF u4 (wayOf u4 0)))))) = cSetF u f4 from ⟨by omega, _, cSetF_2 hu4⟩) (by show C - (j + 1) < C - j; omega)
                · exact absurd c_510 (by omega)
