/-! ===== constructors that make others ===== -/
theorem hin_X3_init_X1 : ∀ x ∈ wsX10, x ∈ wsX3_init := fun x h => List.mem_cons_of_mem _ (List.mem_append_right _ h)
theorem hin_X3_init_X3 : ∀ x ∈ wsX30, x ∈ wsX3_init := fun x h => List.mem_cons_of_mem _ (List.mem_append_left _ (List.mem_append_right _ h))
abbrev rm_X3_init : Room := { frames := 3, cells := 5, slots := 682, locals := 40 }
set_option maxHeartbeats 4000000 in
set_option maxRecDepth 100000 in
theorem c_X3_init (l : Launch) (D : va_G) (cI cJ cR : ClassId) (a b : Nat) : ek_M (S := Nat → Nat) l yX3_init wsX3_init rm_X3_init D (tyW cI cJ cR) nestW [.ref a, .ref b] [(a, .inr (3, [.null, .null, .null, .null, .null, .int (nI 0), .int (nI 0)]))] (fun r9 _ => r9 = none ∧ True) (fun u => [(a, .inr (3, [.ref b, .ref (u 0), .ref (u 2), .ref (u 3), .ref (u 4), .int (nI 0), .int (nI 0)])), ((u 0), .inr (1, [.ref (u 1), .int (nI 0)])), ((u 1), .inl (cI, 629, .inl (fun _ => nI 0))), ((u 2), .inl (cI, 17, .inl (fun _ => nI 0))), ((u 3), .inl (cI, 17, .inl (fun _ => nI 0))), ((u 4), .inl (cJ, 17, .inr (.inl (fun _ => lN 0))))]) := by
  refine ek_M.of (cc := cX3_init) (maxL := 2) (ret := none) (by decide) rfl (Nat.le_of_ble_eq_true rfl) ?_
  intro p9 e9 s9 m9 args9 below9 meth9 c9 A X hin
  refine ek_castL (lv' := [(0, .ref a), (1, .ref b)]) rfl ?_
  refine ek_aln X 0 rfl dX3_init_0 ?_
  refine ek_oinit X (List.mem_of_getElem? (i := 1) rfl) (List.mem_of_getElem? (i := 2) rfl) (List.mem_of_getElem? (i := 3) rfl) (by decide) (Nat.le_of_ble_eq_true rfl) dX3_init_1 ?_
  refine ek_aln X 0 rfl dX3_init_4 ?_
  refine ek_aln X 1 rfl dX3_init_5 ?_
  refine ek_putF (w' := [(a, .inr (3, [.ref b, .null, .null, .null, .null, .int (nI 0), .int (nI 0)]))]) X hin_X3_init_X3 tyX3 tyX3_ok nmX3 0 rfl rfl 0 (by decide) (List.mem_of_getElem? (i := 4) rfl) rfl (hin rfl) rfl rfl rfl rfl (Nat.le_of_ble_eq_true rfl) rfl dX3_init_6 ?_
  refine ek_aln X 0 rfl dX3_init_9 ?_
  refine ek_new (ci := 1) X [.null, .int (nI 0)] hin_X3_init_X1 tyX1 tyX1_ok (List.mem_of_getElem? (i := 5) rfl) (List.mem_of_getElem? (i := 6) rfl) (List.mem_of_getElem? (i := 7) rfl) rfl (by decide) ⟨Nat.le_of_ble_eq_true rfl, Nat.le_of_ble_eq_true rfl⟩ dX3_init_10 (fun q10 => ?_)
  refine ek_cast (w' := [(a, .inr (3, [.ref b, .null, .null, .null, .null, .int (nI 0), .int (nI 0)])), (q10, .inr (1, [.null, .int (nI 0)]))]) rfl ?_
  refine ek_dup X rfl dX3_init_13 ?_
  refine ek_doW X (ek_runI (As := []) (rest := [.ref q10, .ref a]) X (c_X1_init l D cI cJ cR q10 ) gX3_init_X1_init rfl (List.mem_of_getElem? (i := 7) rfl) (List.mem_of_getElem? (i := 16) rfl) (List.mem_of_getElem? (i := 17) rfl) rfl hd_X1_init ⟨Nat.le_of_ble_eq_true rfl, Nat.le_of_ble_eq_true rfl⟩ ⟨Nat.le_of_ble_eq_true rfl, Nat.le_of_ble_eq_true rfl⟩ [1] rfl (by decide) (Nat.le_of_ble_eq_true rfl) dX3_init_14) [1] [0] rfl (ek_at_map rfl) (by decide) (by decide) (fun u14 => [(a, .inr (3, [.ref b, .null, .null, .null, .null, .int (nI 0), .int (nI 0)])), (q10, .inr (1, [.ref (u14 0), .int (nI 0)])), ((u14 0), .inl (cI, 629, .inl (fun _ => nI 0)))]) [0, 1, 2] (by decide) (fun _ => rfl) (fun r9 u14 hp9 => ?_)
  obtain ⟨rfl, -⟩ := hp9
  refine ek_castS (st' := [.ref q10, .ref a]) rfl ?_
  refine ek_putF (w' := [(a, .inr (3, [.ref b, .ref q10, .null, .null, .null, .int (nI 0), .int (nI 0)])), (q10, .inr (1, [.ref (u14 0), .int (nI 0)])), ((u14 0), .inl (cI, 629, .inl (fun _ => nI 0)))]) X hin_X3_init_X3 tyX3 tyX3_ok nmX3 0 rfl rfl 1 (by decide) (List.mem_of_getElem? (i := 8) rfl) rfl (hin rfl) rfl rfl rfl rfl (Nat.le_of_ble_eq_true rfl) rfl dX3_init_17 ?_
  refine ek_aln X 0 rfl dX3_init_20 ?_
  refine ek_bp (v := nI 17) X (by decide) dX3_init_21 ?_
  refine ek_newI X 0 rfl (List.mem_of_getElem? (i := 9) rfl) (by omega) ⟨Nat.le_of_ble_eq_true rfl, Nat.le_of_ble_eq_true rfl⟩ dX3_init_23 (fun q23 => ?_)
  refine ek_cast (w' := [(a, .inr (3, [.ref b, .ref q10, .null, .null, .null, .int (nI 0), .int (nI 0)])), (q10, .inr (1, [.ref (u14 0), .int (nI 0)])), ((u14 0), .inl (cI, 629, .inl (fun _ => nI 0))), (q23, .inl (cI, 17, .inl (fun _ => nI 0)))]) rfl ?_
  refine ek_putF (w' := [(a, .inr (3, [.ref b, .ref q10, .ref q23, .null, .null, .int (nI 0), .int (nI 0)])), (q10, .inr (1, [.ref (u14 0), .int (nI 0)])), ((u14 0), .inl (cI, 629, .inl (fun _ => nI 0))), (q23, .inl (cI, 17, .inl (fun _ => nI 0)))]) X hin_X3_init_X3 tyX3 tyX3_ok nmX3 0 rfl rfl 2 (by decide) (List.mem_of_getElem? (i := 10) rfl) rfl (hin rfl) rfl rfl rfl rfl (Nat.le_of_ble_eq_true rfl) rfl dX3_init_25 ?_
  refine ek_aln X 0 rfl dX3_init_28 ?_
  refine ek_bp (v := nI 17) X (by decide) dX3_init_29 ?_
  refine ek_newI X 0 rfl (List.mem_of_getElem? (i := 9) rfl) (by omega) ⟨Nat.le_of_ble_eq_true rfl, Nat.le_of_ble_eq_true rfl⟩ dX3_init_31 (fun q31 => ?_)
  refine ek_cast (w' := [(a, .inr (3, [.ref b, .ref q10, .ref q23, .null, .null, .int (nI 0), .int (nI 0)])), (q10, .inr (1, [.ref (u14 0), .int (nI 0)])), ((u14 0), .inl (cI, 629, .inl (fun _ => nI 0))), (q23, .inl (cI, 17, .inl (fun _ => nI 0))), (q31, .inl (cI, 17, .inl (fun _ => nI 0)))]) rfl ?_
  refine ek_putF (w' := [(a, .inr (3, [.ref b, .ref q10, .ref q23, .ref q31, .null, .int (nI 0), .int (nI 0)])), (q10, .inr (1, [.ref (u14 0), .int (nI 0)])), ((u14 0), .inl (cI, 629, .inl (fun _ => nI 0))), (q23, .inl (cI, 17, .inl (fun _ => nI 0))), (q31, .inl (cI, 17, .inl (fun _ => nI 0)))]) X hin_X3_init_X3 tyX3 tyX3_ok nmX3 0 rfl rfl 3 (by decide) (List.mem_of_getElem? (i := 11) rfl) rfl (hin rfl) rfl rfl rfl rfl (Nat.le_of_ble_eq_true rfl) rfl dX3_init_33 ?_
  refine ek_aln X 0 rfl dX3_init_36 ?_
  refine ek_bp (v := nI 17) X (by decide) dX3_init_37 ?_
  refine ek_newL X 1 rfl (List.mem_of_getElem? (i := 12) rfl) (by omega) ⟨Nat.le_of_ble_eq_true rfl, Nat.le_of_ble_eq_true rfl⟩ dX3_init_39 (fun q39 => ?_)
  refine ek_cast (w' := [(a, .inr (3, [.ref b, .ref q10, .ref q23, .ref q31, .null, .int (nI 0), .int (nI 0)])), (q10, .inr (1, [.ref (u14 0), .int (nI 0)])), ((u14 0), .inl (cI, 629, .inl (fun _ => nI 0))), (q23, .inl (cI, 17, .inl (fun _ => nI 0))), (q31, .inl (cI, 17, .inl (fun _ => nI 0))), (q39, .inl (cJ, 17, .inr (.inl (fun _ => lN 0))))]) rfl ?_
  refine ek_putF (w' := [(a, .inr (3, [.ref b, .ref q10, .ref q23, .ref q31, .ref q39, .int (nI 0), .int (nI 0)])), (q10, .inr (1, [.ref (u14 0), .int (nI 0)])), ((u14 0), .inl (cI, 629, .inl (fun _ => nI 0))), (q23, .inl (cI, 17, .inl (fun _ => nI 0))), (q31, .inl (cI, 17, .inl (fun _ => nI 0))), (q39, .inl (cJ, 17, .inr (.inl (fun _ => lN 0))))]) X hin_X3_init_X3 tyX3 tyX3_ok nmX3 0 rfl rfl 4 (by decide) (List.mem_of_getElem? (i := 13) rfl) rfl (hin rfl) rfl rfl rfl rfl (Nat.le_of_ble_eq_true rfl) rfl dX3_init_41 ?_
  refine ek_aln X 0 rfl dX3_init_44 ?_
  refine ek_ic (v := nI 0) X (by decide) dX3_init_45 ?_
  refine ek_put (w' := [(a, .inr (3, [.ref b, .ref q10, .ref q23, .ref q31, .ref q39, .int (nI 0), .int (nI 0)])), (q10, .inr (1, [.ref (u14 0), .int (nI 0)])), ((u14 0), .inl (cI, 629, .inl (fun _ => nI 0))), (q23, .inl (cI, 17, .inl (fun _ => nI 0))), (q31, .inl (cI, 17, .inl (fun _ => nI 0))), (q39, .inl (cJ, 17, .inr (.inl (fun _ => lN 0))))]) X hin_X3_init_X3 tyX3 tyX3_ok nmX3 0 rfl rfl 5 (by decide) (List.mem_of_getElem? (i := 14) rfl) rfl rfl rfl rfl (Nat.le_of_ble_eq_true rfl) rfl dX3_init_46 ?_
  refine ek_aln X 0 rfl dX3_init_49 ?_
  refine ek_ic (v := nI 0) X (by decide) dX3_init_50 ?_
  refine ek_put (w' := [(a, .inr (3, [.ref b, .ref q10, .ref q23, .ref q31, .ref q39, .int (nI 0), .int (nI 0)])), (q10, .inr (1, [.ref (u14 0), .int (nI 0)])), ((u14 0), .inl (cI, 629, .inl (fun _ => nI 0))), (q23, .inl (cI, 17, .inl (fun _ => nI 0))), (q31, .inl (cI, 17, .inl (fun _ => nI 0))), (q39, .inl (cJ, 17, .inr (.inl (fun _ => lN 0))))]) X hin_X3_init_X3 tyX3 tyX3_ok nmX3 0 rfl rfl 6 (by decide) (List.mem_of_getElem? (i := 15) rfl) rfl rfl rfl rfl (Nat.le_of_ble_eq_true rfl) rfl dX3_init_51 ?_
  exact ek_retv X (fun i => [q10, (u14 0), q23, q31, q39].getD i 0) ⟨rfl, trivial⟩ rfl dX3_init_54
