/-! ===== the law's body, S3 ===== -/
set_option maxHeartbeats 4000000 in
set_option maxRecDepth 100000 in
theorem law_S3 {p : Program} {l : Launch} {e : Env} {s9 : State} {m9 : MethodId} {args9 : Array Value} {below9 : List Frame} {meth9 : Method} {c9 : Code} {D : va_G} {cI cJ cR : ClassId} {A : Nat → Prop} {Q : State → Prop} {ad : Nat → Nat} {b L : Nat} {xs : Nat → Int32} (X : ek_X p s9 m9 args9 meth9 c9 RL cL_law 29 (some .boolean) wsL_law nestW D (tyW cI cJ cR) A A True) (hl : l.stackTraces = false) (hZ : ek_Zt A s9) (hS9 : ek_S9 A b L xs s9) {C P t : Nat} {cv : CavT} {g : SndT} {q : QueT} {u : CaveT} {h k : EchT} (hA : cAll u) (hC : cC u = C) (hP : cP u = P) (hC2 : 2 ≤ C) (hI : sOk g q) (hH : hOk h) (hK : hOk k) (he1 : 1 ≤ vEar cv) (he : vEar cv ≤ 50) (ht : t < 24) {w bt z : Nat} (hwb : wbOk w bt) (hz60 : z ≤ 60)
    (kk : ∀ lst : Nat, lst = lLst u (cP u) → ek_G p l e room_1 s9 m9 args9 below9 meth9 c9 29 D A A (1100 + 5000 * t + 700) (9000 + 40000 * t + 4500) Q (wV ad cI cJ cR cv g q u h k) 433 [(0, .ref b), (1, .ref (ad 46)), (2, .int (nI C)), (3, .int (nI P)), (4, .int (nI t)), (5, .int (nI t)), (8, .int (nI w)), (9, .int (nI bt)), (12, .int (nI z)), (17, .int (nI lst))] []) : ek_G p l e room_1 s9 m9 args9 below9 meth9 c9 29 D A A (1100 + 5000 * t + 80) (9000 + 40000 * t + 700) Q (wV ad cI cJ cR cv g q u h k) 342 [(0, .ref b), (1, .ref (ad 46)), (2, .int (nI C)), (3, .int (nI P)), (4, .int (nI t)), (5, .int (nI t)), (8, .int (nI w)), (9, .int (nI bt)), (12, .int (nI z))] [] := by
  have hC12 : C ≤ 12 := by have := hA.1.1.2; omega
  have hP18 : P ≤ 18 := by have := hA.1.2.1; omega
  have hb1 := hwb.2.1
  have hb2 := hwb.2.2
  have hw9 := hwb.1.1.2
  refine ek_ic (v := nI 0) X (by decide) dL_law_342 ?_
  refine ek_is (lv' := [(16, .int (nI 0)), (0, .ref b), (1, .ref (ad 46)), (2, .int (nI C)), (3, .int (nI P)), (4, .int (nI t)), (5, .int (nI t)), (8, .int (nI w)), (9, .int (nI bt)), (12, .int (nI z))]) X (by decide) rfl dL_law_343 ?_
  refine ek_bp (v := nI 99) X (by decide) dL_law_345 ?_
  refine ek_is (lv' := [(17, .int (nI 99)), (16, .int (nI 0)), (0, .ref b), (1, .ref (ad 46)), (2, .int (nI C)), (3, .int (nI P)), (4, .int (nI t)), (5, .int (nI t)), (8, .int (nI w)), (9, .int (nI bt)), (12, .int (nI z))]) X (by decide) rfl dL_law_347 ?_
  refine ek_ic (v := nI 0) X (by decide) dL_law_349 ?_
  refine ek_is (lv' := [(18, .int (nI 0)), (17, .int (nI 99)), (16, .int (nI 0)), (0, .ref b), (1, .ref (ad 46)), (2, .int (nI C)), (3, .int (nI P)), (4, .int (nI t)), (5, .int (nI t)), (8, .int (nI w)), (9, .int (nI bt)), (12, .int (nI z))]) X (by decide) rfl dL_law_350 ?_
  refine ek_loopKn (σ := Nat × Nat × Nat) (fun zz => (fun (i3 : Nat) (op : Nat) (ls : Nat) => (1100 + 5000 * t + 100 + 20 * i3)) zz.1 zz.2.1 zz.2.2) (fun zz => (fun (i3 : Nat) (op : Nat) (ls : Nat) => (9000 + 40000 * t + 900 + 120 * i3)) zz.1 zz.2.1 zz.2.2) (fun zz => (fun (i3 : Nat) (op : Nat) (ls : Nat) => i3 ≤ P ∧ op = eC (fun j => cOpen u j) i3 ∧ ls = lLst u i3) zz.1 zz.2.1 zz.2.2) (fun zz => (fun (i3 : Nat) (op : Nat) (ls : Nat) => P - i3) zz.1 zz.2.1 zz.2.2) (fun zz => (fun (i3 : Nat) (op : Nat) (ls : Nat) => wV ad cI cJ cR cv g q u h k) zz.1 zz.2.1 zz.2.2) (fun zz => (fun (i3 : Nat) (op : Nat) (ls : Nat) => [(0, .ref b), (1, .ref (ad 46)), (2, .int (nI C)), (3, .int (nI P)), (4, .int (nI t)), (5, .int (nI t)), (8, .int (nI w)), (9, .int (nI bt)), (12, .int (nI z)), (16, .int (nI op)), (17, .int (nI ls)), (18, .int (nI i3))]) zz.1 zz.2.1 zz.2.2) ?_ (0, 0, 99) ⟨Nat.zero_le _, rfl, rfl⟩ rfl [3, 4, 5, 6, 7, 8, 9, 10, 11, 2, 1, 0] rfl (show (1100 + 5000 * t + 80) ≤ (1100 + 5000 * t + 100 + 20 * 0) by omega) (show (9000 + 40000 * t + 700) ≤ (9000 + 40000 * t + 900 + 120 * 0) by omega)
  intro zz ha_352 ih_352
  obtain ⟨i3, op, ls⟩ := zz
  replace ha_352 : i3 ≤ P ∧ op = eC (fun j => cOpen u j) i3 ∧ ls = lLst u i3 := ha_352
  refine ek_cast (w' := wV ad cI cJ cR cv g q u h k) rfl ?_
  refine ek_castL (lv' := [(0, .ref b), (1, .ref (ad 46)), (2, .int (nI C)), (3, .int (nI P)), (4, .int (nI t)), (5, .int (nI t)), (8, .int (nI w)), (9, .int (nI bt)), (12, .int (nI z)), (16, .int (nI op)), (17, .int (nI ls)), (18, .int (nI i3))]) rfl ?_
  obtain ⟨hi3, hop, hls2⟩ := ha_352
  have hp4 : pFact u i3 4 ≤ 1 := pF4 u i3
  have hp0 : pFact u i3 0 < 12 := hA.1.2.2.2.2.2.2.2.2.2.1 i3
  have hp1 : pFact u i3 1 < 12 := hA.1.2.2.2.2.2.2.2.2.2.2.1 i3
  have hp2 : pFact u i3 2 ≤ 9 := hA.1.2.2.2.2.2.2.2.2.2.2.2.1 i3
  have hls9 : ls ≤ 99 := by rw [hls2]; exact lLst_99 u i3
  have hop18 : op ≤ i3 := by rw [hop]; exact eC_le (fun j => cOpen u j) i3
  refine ek_il X 11 rfl dL_law_352 ?_
  refine ek_iln X 3 rfl dL_law_354 ?_
  refine ek_Nge X (by omega) (by omega) 421 (by decide) dL_law_355 (fun c_355 => ?_) (fun c_355 => ?_)
  · skip
    have hi9 : i3 = cP u := by omega
    have hv2 : vCtd cv u h 2 = op := by rw [hop, hi9]; rfl
    refine ek_il X 9 rfl dL_law_421 ?_
    refine ek_aln X 1 rfl dL_law_423 ?_
    refine ek_ic (v := nI 2) X (by decide) dL_law_424 ?_
    refine lx_call0 (As := [.int (nI 2)]) (rest := [.int (nI op)]) (kc := 1) (ks := 6) X hZ (c_X4_count l hl D cI cJ cR ad cv g q u h k hA.1 2 (by omega)) (fun E => by rw [show xLe 2 9 = 0 from by unfold xLe; rw [if_pos (by omega)]]; rintro ⟨h1, -⟩ <;> exact absurd h1 (by decide)) ⟨rfl, rfl⟩ gL_law_X4_count rfl hdV_X4_count ⟨Nat.le_of_ble_eq_true rfl, Nat.le_of_ble_eq_true rfl⟩ ⟨(show (1100 + 5000 * t + 100 + 20 * i3) + 1 ≤ 600104 by omega), (show (9000 + 40000 * t + 900 + 120 * i3) + 6 ≤ 7301313 by omega)⟩ (Nat.le_of_ble_eq_true rfl) dL_law_425 (fun v_425 hv_425 => ?_)
    obtain ⟨-, rfl⟩ := hv_425
    refine ek_Neq X (by omega) (by omega) 433 (by decide) dL_law_428 (fun c_428 => ?_) (fun c_428 => ?_)
    · skip
      refine ek_widen (k' := (1100 + 5000 * t + 700)) (n' := (9000 + 40000 * t + 4500)) (show ((1100 + 5000 * t + 100 + 20 * i3) + 1) ≤ (1100 + 5000 * t + 700) by omega) (show ((9000 + 40000 * t + 900 + 120 * i3) + 6) ≤ (9000 + 40000 * t + 4500) by omega) ?_
      refine ek_re [0, 1, 2, 3, 4, 5, 6, 7, 8, 10] rfl ?_
      exact kk ls (hls2.trans (by rw [hi9]))
    · exact absurd hv2.symm c_428
  · skip
    refine ek_il X 9 rfl dL_law_358 ?_
    refine ek_aln X 1 rfl dL_law_360 ?_
    refine ek_il X 11 rfl dL_law_361 ?_
    refine ek_ic (v := nI 4) X (by decide) dL_law_363 ?_
    refine lx_call0 (As := [.int (nI i3), .int (nI 4)]) (rest := [.int (nI op)]) (kc := 2) (ks := 12) X hZ (c_X4_passage l hl D cI cJ cR ad cv g q u h k hA.1 i3 4 (by omega) (by omega)) (fun E => by rw [show xTwo i3 (cP u) 4 4 = 0 from by unfold xTwo; rw [if_pos (by omega)]]; rintro ⟨h1, -⟩ <;> exact absurd h1 (by decide)) ⟨rfl, rfl⟩ gL_law_X4_passage rfl hdV_X4_passage ⟨Nat.le_of_ble_eq_true rfl, Nat.le_of_ble_eq_true rfl⟩ ⟨(show (1100 + 5000 * t + 100 + 20 * i3) + 2 ≤ 600104 by omega), (show (9000 + 40000 * t + 900 + 120 * i3) + 12 ≤ 7301313 by omega)⟩ (Nat.le_of_ble_eq_true rfl) dL_law_364 (fun v_364 hv_364 => ?_)
    obtain ⟨-, rfl⟩ := hv_364
    refine ek_Nadd X dL_law_367 ?_
    refine ek_is (lv' := [(16, .int (nI (op + (pFact u i3 4)))), (0, .ref b), (1, .ref (ad 46)), (2, .int (nI C)), (3, .int (nI P)), (4, .int (nI t)), (5, .int (nI t)), (8, .int (nI w)), (9, .int (nI bt)), (12, .int (nI z)), (17, .int (nI ls)), (18, .int (nI i3))]) X (by decide) rfl dL_law_368 ?_
    refine ek_aln X 2 rfl dL_law_370 ?_
    refine ek_il X 11 rfl dL_law_371 ?_
    refine ek_ic (v := nI 4) X (by decide) dL_law_373 ?_
    refine lx_call0 (As := [.int (nI i3), .int (nI 4)]) (rest := []) (kc := 2) (ks := 12) X hZ (c_X4_passage l hl D cI cJ cR ad cv g q u h k hA.1 i3 4 (by omega) (by omega)) (fun E => by rw [show xTwo i3 (cP u) 4 4 = 0 from by unfold xTwo; rw [if_pos (by omega)]]; rintro ⟨h1, -⟩ <;> exact absurd h1 (by decide)) ⟨rfl, rfl⟩ gL_law_X4_passage rfl hdV_X4_passage ⟨Nat.le_of_ble_eq_true rfl, Nat.le_of_ble_eq_true rfl⟩ ⟨(show ((1100 + 5000 * t + 100 + 20 * i3) + 2) + 2 ≤ 600104 by omega), (show ((9000 + 40000 * t + 900 + 120 * i3) + 12) + 12 ≤ 7301313 by omega)⟩ (Nat.le_of_ble_eq_true rfl) dL_law_374 (fun v_374 hv_374 => ?_)
    obtain ⟨-, rfl⟩ := hv_374
    refine ek_ic (v := nI 1) X (by decide) dL_law_377 ?_
    refine ek_Nne X (by omega) (by omega) 415 (by decide) dL_law_378 (fun c_378 => ?_) (fun c_378 => ?_)
    · skip
      refine ek_Ninc (j := 11) (d := 1) (lv' := [(18, .int (nI (i3 + 1))), (16, .int (nI (op + (pFact u i3 4)))), (0, .ref b), (1, .ref (ad 46)), (2, .int (nI C)), (3, .int (nI P)), (4, .int (nI t)), (5, .int (nI t)), (8, .int (nI w)), (9, .int (nI bt)), (12, .int (nI z)), (17, .int (nI ls))]) X rfl (by decide) rfl dL_law_415 ?_
      refine ek_goto X 352 (by decide) dL_law_418 ?_
      refine ek_widen (k' := (1100 + 5000 * t + 100 + 20 * (i3 + 1))) (n' := (9000 + 40000 * t + 900 + 120 * (i3 + 1))) (show (((1100 + 5000 * t + 100 + 20 * i3) + 2) + 2) ≤ (1100 + 5000 * t + 100 + 20 * (i3 + 1)) by omega) (show (((9000 + 40000 * t + 900 + 120 * i3) + 12) + 12) ≤ (9000 + 40000 * t + 900 + 120 * (i3 + 1)) by omega) ?_
      refine ek_re [2, 3, 4, 5, 6, 7, 8, 9, 10, 1, 11, 0] rfl ?_
      exact ih_352 (i3 + 1, op + (pFact u i3 4), ls) (show (i3 + 1) ≤ P ∧ (op + (pFact u i3 4)) = eC (fun j => cOpen u j) (i3 + 1) ∧ ls = lLst u (i3 + 1) from ⟨by omega, (by rw [hop]; rfl), (by first | exact lLst_A c_378 hls2 | exact lLst_B c_378 (Or.inl c_388) hls2 | exact lLst_B c_378 (Or.inr c_398) hls2 | exact lLst_C c_388 c_398 hls2)⟩) (by show P - (i3 + 1) < P - i3; omega)
    · skip
      refine ek_aln X 2 rfl dL_law_381 ?_
      refine ek_il X 11 rfl dL_law_382 ?_
      refine ek_ic (v := nI 0) X (by decide) dL_law_384 ?_
      refine lx_call0 (As := [.int (nI i3), .int (nI 0)]) (rest := []) (kc := 2) (ks := 12) X hZ (c_X4_passage l hl D cI cJ cR ad cv g q u h k hA.1 i3 0 (by omega) (by omega)) (fun E => by rw [show xTwo i3 (cP u) 0 4 = 0 from by unfold xTwo; rw [if_pos (by omega)]]; rintro ⟨h1, -⟩ <;> exact absurd h1 (by decide)) ⟨rfl, rfl⟩ gL_law_X4_passage rfl hdV_X4_passage ⟨Nat.le_of_ble_eq_true rfl, Nat.le_of_ble_eq_true rfl⟩ ⟨(show (((1100 + 5000 * t + 100 + 20 * i3) + 2) + 2) + 2 ≤ 600104 by omega), (show (((9000 + 40000 * t + 900 + 120 * i3) + 12) + 12) + 12 ≤ 7301313 by omega)⟩ (Nat.le_of_ble_eq_true rfl) dL_law_385 (fun v_385 hv_385 => ?_)
      obtain ⟨-, rfl⟩ := hv_385
      refine ek_Zeq X (by omega) 401 (by decide) dL_law_388 (fun c_388 => ?_) (fun c_388 => ?_)
      · skip
        refine ek_il X 10 rfl dL_law_401 ?_
        refine ek_aln X 2 rfl dL_law_403 ?_
        refine ek_il X 11 rfl dL_law_404 ?_
        refine ek_ic (v := nI 2) X (by decide) dL_law_406 ?_
        refine lx_call0 (As := [.int (nI i3), .int (nI 2)]) (rest := [.int (nI ls)]) (kc := 2) (ks := 12) X hZ (c_X4_passage l hl D cI cJ cR ad cv g q u h k hA.1 i3 2 (by omega) (by omega)) (fun E => by rw [show xTwo i3 (cP u) 2 4 = 0 from by unfold xTwo; rw [if_pos (by omega)]]; rintro ⟨h1, -⟩ <;> exact absurd h1 (by decide)) ⟨rfl, rfl⟩ gL_law_X4_passage rfl hdV_X4_passage ⟨Nat.le_of_ble_eq_true rfl, Nat.le_of_ble_eq_true rfl⟩ ⟨(show ((((1100 + 5000 * t + 100 + 20 * i3) + 2) + 2) + 2) + 2 ≤ 600104 by omega), (show ((((9000 + 40000 * t + 900 + 120 * i3) + 12) + 12) + 12) + 12 ≤ 7301313 by omega)⟩ (Nat.le_of_ble_eq_true rfl) dL_law_407 (fun v_407 hv_407 => ?_)
        obtain ⟨-, rfl⟩ := hv_407
        refine ek_mmin X (List.mem_of_getElem? (i := 0) rfl) (List.mem_of_getElem? (i := 1) rfl) (List.mem_of_getElem? (i := 2) rfl) (List.mem_of_getElem? (i := 3) rfl) (by decide) (Nat.le_of_ble_eq_true rfl) ⟨(show (((((1100 + 5000 * t + 100 + 20 * i3) + 2) + 2) + 2) + 2) ≤ 600104 by omega), (show (((((9000 + 40000 * t + 900 + 120 * i3) + 12) + 12) + 12) + 12) ≤ 7301313 by omega)⟩ dL_law_410 ?_
        refine ek_top (v' := nI (min ls (pFact u i3 2))) (e_min _ _ (by omega) (by omega)) ?_
        refine ek_is (lv' := [(17, .int (nI (min ls (pFact u i3 2)))), (16, .int (nI (op + (pFact u i3 4)))), (0, .ref b), (1, .ref (ad 46)), (2, .int (nI C)), (3, .int (nI P)), (4, .int (nI t)), (5, .int (nI t)), (8, .int (nI w)), (9, .int (nI bt)), (12, .int (nI z)), (18, .int (nI i3))]) X (by decide) rfl dL_law_413 ?_
        refine ek_Ninc (j := 11) (d := 1) (lv' := [(18, .int (nI (i3 + 1))), (17, .int (nI (min ls (pFact u i3 2)))), (16, .int (nI (op + (pFact u i3 4)))), (0, .ref b), (1, .ref (ad 46)), (2, .int (nI C)), (3, .int (nI P)), (4, .int (nI t)), (5, .int (nI t)), (8, .int (nI w)), (9, .int (nI bt)), (12, .int (nI z))]) X rfl (by decide) rfl dL_law_415 ?_
        refine ek_goto X 352 (by decide) dL_law_418 ?_
        refine ek_widen (k' := (1100 + 5000 * t + 100 + 20 * (i3 + 1))) (n' := (9000 + 40000 * t + 900 + 120 * (i3 + 1))) (show (((((1100 + 5000 * t + 100 + 20 * i3) + 2) + 2) + 2) + 2) ≤ (1100 + 5000 * t + 100 + 20 * (i3 + 1)) by omega) (show (((((9000 + 40000 * t + 900 + 120 * i3) + 12) + 12) + 12) + 12) ≤ (9000 + 40000 * t + 900 + 120 * (i3 + 1)) by omega) ?_
        refine ek_re [3, 4, 5, 6, 7, 8, 9, 10, 11, 2, 1, 0] rfl ?_
        exact ih_352 (i3 + 1, op + (pFact u i3 4), min ls (pFact u i3 2)) (show (i3 + 1) ≤ P ∧ (op + (pFact u i3 4)) = eC (fun j => cOpen u j) (i3 + 1) ∧ (min ls (pFact u i3 2)) = lLst u (i3 + 1) from ⟨by omega, (by rw [hop]; rfl), (by first | exact lLst_A c_378 hls2 | exact lLst_B c_378 (Or.inl c_388) hls2 | exact lLst_B c_378 (Or.inr c_398) hls2 | exact lLst_C c_388 c_398 hls2)⟩) (by show P - (i3 + 1) < P - i3; omega)
      · skip
        refine ek_aln X 2 rfl dL_law_391 ?_
        refine ek_il X 11 rfl dL_law_392 ?_
        refine ek_ic (v := nI 1) X (by decide) dL_law_394 ?_
        refine lx_call0 (As := [.int (nI i3), .int (nI 1)]) (rest := []) (kc := 2) (ks := 12) X hZ (c_X4_passage l hl D cI cJ cR ad cv g q u h k hA.1 i3 1 (by omega) (by omega)) (fun E => by rw [show xTwo i3 (cP u) 1 4 = 0 from by unfold xTwo; rw [if_pos (by omega)]]; rintro ⟨h1, -⟩ <;> exact absurd h1 (by decide)) ⟨rfl, rfl⟩ gL_law_X4_passage rfl hdV_X4_passage ⟨Nat.le_of_ble_eq_true rfl, Nat.le_of_ble_eq_true rfl⟩ ⟨(show ((((1100 + 5000 * t + 100 + 20 * i3) + 2) + 2) + 2) + 2 ≤ 600104 by omega), (show ((((9000 + 40000 * t + 900 + 120 * i3) + 12) + 12) + 12) + 12 ≤ 7301313 by omega)⟩ (Nat.le_of_ble_eq_true rfl) dL_law_395 (fun v_395 hv_395 => ?_)
        obtain ⟨-, rfl⟩ := hv_395
        refine ek_Zne X (by omega) 415 (by decide) dL_law_398 (fun c_398 => ?_) (fun c_398 => ?_)
        · skip
          refine ek_Ninc (j := 11) (d := 1) (lv' := [(18, .int (nI (i3 + 1))), (16, .int (nI (op + (pFact u i3 4)))), (0, .ref b), (1, .ref (ad 46)), (2, .int (nI C)), (3, .int (nI P)), (4, .int (nI t)), (5, .int (nI t)), (8, .int (nI w)), (9, .int (nI bt)), (12, .int (nI z)), (17, .int (nI ls))]) X rfl (by decide) rfl dL_law_415 ?_
          refine ek_goto X 352 (by decide) dL_law_418 ?_
          refine ek_widen (k' := (1100 + 5000 * t + 100 + 20 * (i3 + 1))) (n' := (9000 + 40000 * t + 900 + 120 * (i3 + 1))) (show (((((1100 + 5000 * t + 100 + 20 * i3) + 2) + 2) + 2) + 2) ≤ (1100 + 5000 * t + 100 + 20 * (i3 + 1)) by omega) (show (((((9000 + 40000 * t + 900 + 120 * i3) + 12) + 12) + 12) + 12) ≤ (9000 + 40000 * t + 900 + 120 * (i3 + 1)) by omega) ?_
          refine ek_re [2, 3, 4, 5, 6, 7, 8, 9, 10, 1, 11, 0] rfl ?_
          exact ih_352 (i3 + 1, op + (pFact u i3 4), ls) (show (i3 + 1) ≤ P ∧ (op + (pFact u i3 4)) = eC (fun j => cOpen u j) (i3 + 1) ∧ ls = lLst u (i3 + 1) from ⟨by omega, (by rw [hop]; rfl), (by first | exact lLst_A c_378 hls2 | exact lLst_B c_378 (Or.inl c_388) hls2 | exact lLst_B c_378 (Or.inr c_398) hls2 | exact lLst_C c_388 c_398 hls2)⟩) (by show P - (i3 + 1) < P - i3; omega)
        · skip
          refine ek_il X 10 rfl dL_law_401 ?_
          refine ek_aln X 2 rfl dL_law_403 ?_
          refine ek_il X 11 rfl dL_law_404 ?_
          refine ek_ic (v := nI 2) X (by decide) dL_law_406 ?_
          refine lx_call0 (As := [.int (nI i3), .int (nI 2)]) (rest := [.int (nI ls)]) (kc := 2) (ks := 12) X hZ (c_X4_passage l hl D cI cJ cR ad cv g q u h k hA.1 i3 2 (by omega) (by omega)) (fun E => by rw [show xTwo i3 (cP u) 2 4 = 0 from by unfold xTwo; rw [if_pos (by omega)]]; rintro ⟨h1, -⟩ <;> exact absurd h1 (by decide)) ⟨rfl, rfl⟩ gL_law_X4_passage rfl hdV_X4_passage ⟨Nat.le_of_ble_eq_true rfl, Nat.le_of_ble_eq_true rfl⟩ ⟨(show (((((1100 + 5000 * t + 100 + 20 * i3) + 2) + 2) + 2) + 2) + 2 ≤ 600104 by omega), (show (((((9000 + 40000 * t + 900 + 120 * i3) + 12) + 12) + 12) + 12) + 12 ≤ 7301313 by omega)⟩ (Nat.le_of_ble_eq_true rfl) dL_law_407 (fun v_407 hv_407 => ?_)
          obtain ⟨-, rfl⟩ := hv_407
          refine ek_mmin X (List.mem_of_getElem? (i := 0) rfl) (List.mem_of_getElem? (i := 1) rfl) (List.mem_of_getElem? (i := 2) rfl) (List.mem_of_getElem? (i := 3) rfl) (by decide) (Nat.le_of_ble_eq_true rfl) ⟨(show ((((((1100 + 5000 * t + 100 + 20 * i3) + 2) + 2) + 2) + 2) + 2) ≤ 600104 by omega), (show ((((((9000 + 40000 * t + 900 + 120 * i3) + 12) + 12) + 12) + 12) + 12) ≤ 7301313 by omega)⟩ dL_law_410 ?_
          refine ek_top (v' := nI (min ls (pFact u i3 2))) (e_min _ _ (by omega) (by omega)) ?_
          refine ek_is (lv' := [(17, .int (nI (min ls (pFact u i3 2)))), (16, .int (nI (op + (pFact u i3 4)))), (0, .ref b), (1, .ref (ad 46)), (2, .int (nI C)), (3, .int (nI P)), (4, .int (nI t)), (5, .int (nI t)), (8, .int (nI w)), (9, .int (nI bt)), (12, .int (nI z)), (18, .int (nI i3))]) X (by decide) rfl dL_law_413 ?_
          refine ek_Ninc (j := 11) (d := 1) (lv' := [(18, .int (nI (i3 + 1))), (17, .int (nI (min ls (pFact u i3 2)))), (16, .int (nI (op + (pFact u i3 4)))), (0, .ref b), (1, .ref (ad 46)), (2, .int (nI C)), (3, .int (nI P)), (4, .int (nI t)), (5, .int (nI t)), (8, .int (nI w)), (9, .int (nI bt)), (12, .int (nI z))]) X rfl (by decide) rfl dL_law_415 ?_
          refine ek_goto X 352 (by decide) dL_law_418 ?_
          refine ek_widen (k' := (1100 + 5000 * t + 100 + 20 * (i3 + 1))) (n' := (9000 + 40000 * t + 900 + 120 * (i3 + 1))) (show ((((((1100 + 5000 * t + 100 + 20 * i3) + 2) + 2) + 2) + 2) + 2) ≤ (1100 + 5000 * t + 100 + 20 * (i3 + 1)) by omega) (show ((((((9000 + 40000 * t + 900 + 120 * i3) + 12) + 12) + 12) + 12) + 12) ≤ (9000 + 40000 * t + 900 + 120 * (i3 + 1)) by omega) ?_
          refine ek_re [3, 4, 5, 6, 7, 8, 9, 10, 11, 2, 1, 0] rfl ?_
          exact ih_352 (i3 + 1, op + (pFact u i3 4), min ls (pFact u i3 2)) (show (i3 + 1) ≤ P ∧ (op + (pFact u i3 4)) = eC (fun j => cOpen u j) (i3 + 1) ∧ (min ls (pFact u i3 2)) = lLst u (i3 + 1) from ⟨by omega, (by rw [hop]; rfl), (by first | exact lLst_A c_378 hls2 | exact lLst_B c_378 (Or.inl c_388) hls2 | exact lLst_B c_378 (Or.inr c_398) hls2 | exact lLst_C c_388 c_398 hls2)⟩) (by show P - (i3 + 1) < P - i3; omega)
