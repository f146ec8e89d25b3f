/-! ===== constructors that call nothing but Object's ===== -/
theorem hin_X1_init_X1 : ∀ x ∈ wsX10, x ∈ wsX1_init := fun x h => List.mem_cons_of_mem _ (List.mem_append_right _ h)
abbrev rm_X1_init : Room := { frames := 2, cells := 1, slots := 629, locals := 20 }
set_option maxHeartbeats 4000000 in
set_option maxRecDepth 100000 in
theorem c_X1_init (l : Launch) (D : va_G) (cI cJ cR : ClassId) (a : Nat) : ek_M (S := Nat → Nat) l yX1_init wsX1_init rm_X1_init D (tyW cI cJ cR) nestW [.ref a] [(a, .inr (1, [.null, .int (nI 0)]))] (fun r9 _ => r9 = none ∧ True) (fun u => [(a, .inr (1, [.ref (u 0), .int (nI 0)])), ((u 0), .inl (cI, 629, .inl (fun _ => nI 0)))]) := by
  refine ek_M.of (cc := cX1_init) (maxL := 1) (ret := none) (by decide) rfl (Nat.le_of_ble_eq_true rfl) ?_
  intro p9 e9 s9 m9 args9 below9 meth9 c9 A X hin
  refine ek_castL (lv' := [(0, .ref a)]) rfl ?_
  refine ek_aln X 0 rfl dX1_init_0 ?_
  refine ek_oinit X (List.mem_of_getElem? (i := 1) rfl) (List.mem_of_getElem? (i := 2) rfl) (List.mem_of_getElem? (i := 3) rfl) (by decide) (Nat.le_of_ble_eq_true rfl) dX1_init_1 ?_
  refine ek_aln X 0 rfl dX1_init_4 ?_
  refine ek_sp (v := nI 629) X (by decide) dX1_init_5 ?_
  refine ek_newI X 0 rfl (List.mem_of_getElem? (i := 4) rfl) (by omega) ⟨Nat.le_of_ble_eq_true rfl, Nat.le_of_ble_eq_true rfl⟩ dX1_init_8 (fun q8 => ?_)
  refine ek_cast (w' := [(a, .inr (1, [.null, .int (nI 0)])), (q8, .inl (cI, 629, .inl (fun _ => nI 0)))]) rfl ?_
  refine ek_putF (w' := [(a, .inr (1, [.ref q8, .int (nI 0)])), (q8, .inl (cI, 629, .inl (fun _ => nI 0)))]) X hin_X1_init_X1 tyX1 tyX1_ok nmX1 0 rfl rfl 0 (by decide) (List.mem_of_getElem? (i := 5) rfl) rfl (hin rfl) rfl rfl rfl rfl (Nat.le_of_ble_eq_true rfl) rfl dX1_init_10 ?_
  refine ek_aln X 0 rfl dX1_init_13 ?_
  refine ek_ic (v := nI 0) X (by decide) dX1_init_14 ?_
  refine ek_put (w' := [(a, .inr (1, [.ref q8, .int (nI 0)])), (q8, .inl (cI, 629, .inl (fun _ => nI 0)))]) X hin_X1_init_X1 tyX1 tyX1_ok nmX1 0 rfl rfl 1 (by decide) (List.mem_of_getElem? (i := 6) rfl) rfl rfl rfl rfl (Nat.le_of_ble_eq_true rfl) rfl dX1_init_15 ?_
  exact ek_retv X (fun i => [q8].getD i 0) ⟨rfl, trivial⟩ rfl dX1_init_18

theorem hin_X2_init_X2 : ∀ x ∈ wsX20, x ∈ wsX2_init := fun x h => List.mem_cons_of_mem _ (List.mem_append_right _ h)
abbrev rm_X2_init : Room := { frames := 2, cells := 2, slots := 306, locals := 20 }
set_option maxHeartbeats 4000000 in
set_option maxRecDepth 100000 in
theorem c_X2_init (l : Launch) (D : va_G) (cI cJ cR : ClassId) (a : Nat) : ek_M (S := Nat → Nat) l yX2_init wsX2_init rm_X2_init D (tyW cI cJ cR) nestW [.ref a] [(a, .inr (2, [.null, .null, .int (nI 0), .int (nI 0), .int (nI 0), .int (nI 0), .int (nI 0), .int (nI 0)]))] (fun r9 _ => r9 = none ∧ True) (fun u => [(a, .inr (2, [.ref (u 0), .ref (u 1), .int (nI 0), .int (nI 5), .int (nI 0), .int (nI 0), .int (nI 0), .int (-1)])), ((u 0), .inl (cI, 300, .inl (fun _ => nI 0))), ((u 1), .inl (cI, 6, .inl (fun _ => nI 0)))]) := by
  refine ek_M.of (cc := cX2_init) (maxL := 1) (ret := none) (by decide) rfl (Nat.le_of_ble_eq_true rfl) ?_
  intro p9 e9 s9 m9 args9 below9 meth9 c9 A X hin
  refine ek_castL (lv' := [(0, .ref a)]) rfl ?_
  refine ek_aln X 0 rfl dX2_init_0 ?_
  refine ek_oinit X (List.mem_of_getElem? (i := 1) rfl) (List.mem_of_getElem? (i := 2) rfl) (List.mem_of_getElem? (i := 3) rfl) (by decide) (Nat.le_of_ble_eq_true rfl) dX2_init_1 ?_
  refine ek_aln X 0 rfl dX2_init_4 ?_
  refine ek_sp (v := nI 300) X (by decide) dX2_init_5 ?_
  refine ek_newI X 0 rfl (List.mem_of_getElem? (i := 4) rfl) (by omega) ⟨Nat.le_of_ble_eq_true rfl, Nat.le_of_ble_eq_true rfl⟩ dX2_init_8 (fun q8 => ?_)
  refine ek_cast (w' := [(a, .inr (2, [.null, .null, .int (nI 0), .int (nI 0), .int (nI 0), .int (nI 0), .int (nI 0), .int (nI 0)])), (q8, .inl (cI, 300, .inl (fun _ => nI 0)))]) rfl ?_
  refine ek_putF (w' := [(a, .inr (2, [.ref q8, .null, .int (nI 0), .int (nI 0), .int (nI 0), .int (nI 0), .int (nI 0), .int (nI 0)])), (q8, .inl (cI, 300, .inl (fun _ => nI 0)))]) X hin_X2_init_X2 tyX2 tyX2_ok nmX2 0 rfl rfl 0 (by decide) (List.mem_of_getElem? (i := 5) rfl) rfl (hin rfl) rfl rfl rfl rfl (Nat.le_of_ble_eq_true rfl) rfl dX2_init_10 ?_
  refine ek_aln X 0 rfl dX2_init_13 ?_
  refine ek_bp (v := nI 6) X (by decide) dX2_init_14 ?_
  refine ek_newI X 0 rfl (List.mem_of_getElem? (i := 4) rfl) (by omega) ⟨Nat.le_of_ble_eq_true rfl, Nat.le_of_ble_eq_true rfl⟩ dX2_init_16 (fun q16 => ?_)
  refine ek_cast (w' := [(a, .inr (2, [.ref q8, .null, .int (nI 0), .int (nI 0), .int (nI 0), .int (nI 0), .int (nI 0), .int (nI 0)])), (q8, .inl (cI, 300, .inl (fun _ => nI 0))), (q16, .inl (cI, 6, .inl (fun _ => nI 0)))]) rfl ?_
  refine ek_putF (w' := [(a, .inr (2, [.ref q8, .ref q16, .int (nI 0), .int (nI 0), .int (nI 0), .int (nI 0), .int (nI 0), .int (nI 0)])), (q8, .inl (cI, 300, .inl (fun _ => nI 0))), (q16, .inl (cI, 6, .inl (fun _ => nI 0)))]) X hin_X2_init_X2 tyX2 tyX2_ok nmX2 0 rfl rfl 1 (by decide) (List.mem_of_getElem? (i := 6) rfl) rfl (hin rfl) rfl rfl rfl rfl (Nat.le_of_ble_eq_true rfl) rfl dX2_init_18 ?_
  refine ek_aln X 0 rfl dX2_init_21 ?_
  refine ek_ic (v := nI 0) X (by decide) dX2_init_22 ?_
  refine ek_put (w' := [(a, .inr (2, [.ref q8, .ref q16, .int (nI 0), .int (nI 0), .int (nI 0), .int (nI 0), .int (nI 0), .int (nI 0)])), (q8, .inl (cI, 300, .inl (fun _ => nI 0))), (q16, .inl (cI, 6, .inl (fun _ => nI 0)))]) X hin_X2_init_X2 tyX2 tyX2_ok nmX2 0 rfl rfl 2 (by decide) (List.mem_of_getElem? (i := 7) rfl) rfl rfl rfl rfl (Nat.le_of_ble_eq_true rfl) rfl dX2_init_23 ?_
  refine ek_aln X 0 rfl dX2_init_26 ?_
  refine ek_ic (v := nI 5) X (by decide) dX2_init_27 ?_
  refine ek_put (w' := [(a, .inr (2, [.ref q8, .ref q16, .int (nI 0), .int (nI 5), .int (nI 0), .int (nI 0), .int (nI 0), .int (nI 0)])), (q8, .inl (cI, 300, .inl (fun _ => nI 0))), (q16, .inl (cI, 6, .inl (fun _ => nI 0)))]) X hin_X2_init_X2 tyX2 tyX2_ok nmX2 0 rfl rfl 3 (by decide) (List.mem_of_getElem? (i := 8) rfl) rfl rfl rfl rfl (Nat.le_of_ble_eq_true rfl) rfl dX2_init_28 ?_
  refine ek_aln X 0 rfl dX2_init_31 ?_
  refine ek_ic (v := nI 0) X (by decide) dX2_init_32 ?_
  refine ek_put (w' := [(a, .inr (2, [.ref q8, .ref q16, .int (nI 0), .int (nI 5), .int (nI 0), .int (nI 0), .int (nI 0), .int (nI 0)])), (q8, .inl (cI, 300, .inl (fun _ => nI 0))), (q16, .inl (cI, 6, .inl (fun _ => nI 0)))]) X hin_X2_init_X2 tyX2 tyX2_ok nmX2 0 rfl rfl 4 (by decide) (List.mem_of_getElem? (i := 9) rfl) rfl rfl rfl rfl (Nat.le_of_ble_eq_true rfl) rfl dX2_init_33 ?_
  refine ek_aln X 0 rfl dX2_init_36 ?_
  refine ek_ic (v := nI 0) X (by decide) dX2_init_37 ?_
  refine ek_put (w' := [(a, .inr (2, [.ref q8, .ref q16, .int (nI 0), .int (nI 5), .int (nI 0), .int (nI 0), .int (nI 0), .int (nI 0)])), (q8, .inl (cI, 300, .inl (fun _ => nI 0))), (q16, .inl (cI, 6, .inl (fun _ => nI 0)))]) X hin_X2_init_X2 tyX2 tyX2_ok nmX2 0 rfl rfl 5 (by decide) (List.mem_of_getElem? (i := 10) rfl) rfl rfl rfl rfl (Nat.le_of_ble_eq_true rfl) rfl dX2_init_38 ?_
  refine ek_aln X 0 rfl dX2_init_41 ?_
  refine ek_ic (v := nI 0) X (by decide) dX2_init_42 ?_
  refine ek_put (w' := [(a, .inr (2, [.ref q8, .ref q16, .int (nI 0), .int (nI 5), .int (nI 0), .int (nI 0), .int (nI 0), .int (nI 0)])), (q8, .inl (cI, 300, .inl (fun _ => nI 0))), (q16, .inl (cI, 6, .inl (fun _ => nI 0)))]) X hin_X2_init_X2 tyX2 tyX2_ok nmX2 0 rfl rfl 6 (by decide) (List.mem_of_getElem? (i := 11) rfl) rfl rfl rfl rfl (Nat.le_of_ble_eq_true rfl) rfl dX2_init_43 ?_
  refine ek_aln X 0 rfl dX2_init_46 ?_
  refine ek_ic (v := -1) X (by decide) dX2_init_47 ?_
  refine ek_put (w' := [(a, .inr (2, [.ref q8, .ref q16, .int (nI 0), .int (nI 5), .int (nI 0), .int (nI 0), .int (nI 0), .int (-1)])), (q8, .inl (cI, 300, .inl (fun _ => nI 0))), (q16, .inl (cI, 6, .inl (fun _ => nI 0)))]) X hin_X2_init_X2 tyX2 tyX2_ok nmX2 0 rfl rfl 7 (by decide) (List.mem_of_getElem? (i := 12) rfl) rfl rfl rfl rfl (Nat.le_of_ble_eq_true rfl) rfl dX2_init_48 ?_
  exact ek_retv X (fun i => [q8, q16].getD i 0) ⟨rfl, trivial⟩ rfl dX2_init_51
