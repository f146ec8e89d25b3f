/-! ===== way, highest ===== -/
theorem sTurn_thr (k : Nat) (m : MdlT) (h : Nat) (w : Nat → Nat) : ∀ p, sTurn (mThr k m) h w p = sTurn m h w p
  | 0 => rfl
  | p + 1 => by
    show sRel (mThr k m) h p (sTurn (mThr k m) h w p) = sRel m h p (sTurn m h w p)
    rw [sTurn_thr k m h w p]
    rfl
theorem sAll_thr (k : Nat) (m : MdlT) (a h : Nat) : ∀ t, sAll (mThr k m) a h t = sAll m a h t
  | 0 => rfl
  | t + 1 => by
    show sTurn (mThr k m) h (sAll (mThr k m) a h t) (mP m) = sTurn m h (sAll m a h t) (mP m)
    rw [sAll_thr k m a h t, sTurn_thr]
theorem mShort_thr (k : Nat) (m : MdlT) (a b h : Nat) : mShort (mThr k m) a b h = mShort m a b h := by
  show sVal (sAll (mThr k m) a h (mC m - 1) b) = sVal (sAll m a h (mC m - 1) b)
  rw [sAll_thr]
def mHigh (m : MdlT) (c : Nat) : Nat → Int32
  | 0 => -1
  | u + 1 => if mShort m 0 c u = -1 then mHigh m c u else nI u
theorem pW_neg : ∀ u, u < 32 → (pW u < 0 ↔ u = 0) := by decide
theorem pW_dec : ∀ u, u < 32 → 0 < u → nI (u - 1) + Int32.ofInt (-1) = pW (u - 1) := by decide
theorem pW_pos {u : Nat} (h : 0 < u) : pW u = nI (u - 1) := if_neg (by omega)

theorem hin_X6_way_X6 : ∀ x ∈ wsX60, x ∈ wsX6_way := fun x h => List.mem_cons_of_mem _ (List.mem_append_right _ h)
abbrev rm_X6_way : Room := { frames := 3, cells := 1, slots := 12, locals := 63 }
set_option maxHeartbeats 4000000 in
set_option maxRecDepth 100000 in
theorem c_X6_way (l : Launch) (D : va_G) (cI cJ cR : ClassId) (ad : Nat → Nat) (m : MdlT) (hM : mOk m) (a b : Nat) (ha : a < 4294967296) (hb : b < 4294967296) : ek_M (S := Unit) l yX6_way wsX6_way rm_X6_way D (tyW cI cJ cR) nestW [.ref (ad 50), .int (nI a), .int (nI b)] (wM ad cI m) (fun r9 _ => ∃ v : Int32, r9 = some (.int v) ∧ v = (if a < mC m ∧ b < mC m then mShort m a b (mW m) else nI 0)) (fun _ => wM ad cI (mThr (if a < mC m ∧ b < mC m then 0 else 1) m)) := by
  refine ek_M.of (cc := cX6_way) (maxL := 3) (ret := (some .int)) (by decide) rfl (Nat.le_of_ble_eq_true rfl) ?_
  intro p9 e9 s9 m9 args9 below9 meth9 c9 A X hin
  obtain ⟨⟨mC1, mC2⟩, mPs, mWs, mEs, mTs, mSs, mRs, mTl⟩ := id hM
  refine ek_castL (lv' := [(0, .ref (ad 50)), (1, .int (nI a)), (2, .int (nI b))]) rfl ?_
  refine ek_aln X 0 rfl dX6_way_0 ?_
  refine ek_ic (v := nI 0) X (by decide) dX6_way_1 ?_
  refine ek_put (w' := wM ad cI (0, mC m, mP m, mW m, mEar m, mSaid m, mRo m, mTu m)) X hin_X6_way_X6 tyX6 tyX6_ok nmX6 0 rfl rfl 0 (by decide) (List.mem_of_getElem? (i := 1) rfl) rfl rfl rfl rfl (Nat.le_of_ble_eq_true rfl) rfl dX6_way_2 ?_
  refine ek_aln X 0 rfl dX6_way_5 ?_
  refine ek_iln X 1 rfl dX6_way_6 ?_
  refine ek_doRi (ek_runV (As := [.int (nI a)]) (rest := []) X (c_X6_isChamberN l D cI cJ cR ad ((0, mC m, mP m, mW m, mEar m, mSaid m, mRo m, mTu m)) (mOk_thr hM) a (by omega)) gX6_way_X6_isChamber rfl hdV_X6_isChamber ⟨Nat.le_of_ble_eq_true rfl, Nat.le_of_ble_eq_true rfl⟩ ⟨Nat.le_of_ble_eq_true rfl, Nat.le_of_ble_eq_true rfl⟩ [0, 1, 2] rfl (by decide) 0 6 rfl rfl (Nat.le_of_ble_eq_true rfl) dX6_way_7) (fun v_7 hv_7 => ?_)
  subst hv_7
  by_cases c_7 : a < mC m
  · refine ek_top (v' := nI 1) (congrArg nI (if_pos c_7)) ?_
    refine ek_Zeq X (by omega) 34 (by decide) dX6_way_10 (fun h => absurd h (by omega)) (fun _ => ?_)
    refine ek_aln X 0 rfl dX6_way_13 ?_
    refine ek_iln X 2 rfl dX6_way_14 ?_
    refine ek_doRi (ek_runV (As := [.int (nI b)]) (rest := []) X (c_X6_isChamberN l D cI cJ cR ad ((0, mC m, mP m, mW m, mEar m, mSaid m, mRo m, mTu m)) (mOk_thr hM) b (by omega)) gX6_way_X6_isChamber rfl hdV_X6_isChamber ⟨Nat.le_of_ble_eq_true rfl, Nat.le_of_ble_eq_true rfl⟩ ⟨Nat.le_of_ble_eq_true rfl, Nat.le_of_ble_eq_true rfl⟩ [0, 1, 2] rfl (by decide) 0 6 rfl rfl (Nat.le_of_ble_eq_true rfl) dX6_way_15) (fun v_15 hv_15 => ?_)
    subst hv_15
    by_cases c_15 : b < mC m
    · refine ek_top (v' := nI 1) (congrArg nI (if_pos c_15)) ?_
      refine ek_Zeq X (by omega) 34 (by decide) dX6_way_18 (fun h => absurd h (by omega)) (fun _ => ?_)
      refine ek_aln X 0 rfl dX6_way_21 ?_
      refine ek_iln X 1 rfl dX6_way_22 ?_
      refine ek_iln X 2 rfl dX6_way_23 ?_
      refine ek_aln X 0 rfl dX6_way_24 ?_
      refine ek_get X hin_X6_way_X6 0 rfl rfl 3 (by decide) (List.mem_of_getElem? (i := 2) rfl) rfl dX6_way_25 ?_
      refine ek_top (v' := nI (mW m)) rfl ?_
      refine ek_doWiA X (ek_runV (As := [.int (nI a), .int (nI b), .int (nI (mW m))]) (rest := []) X (c_X6_shortest l D cI cJ cR ad ((0, mC m, mP m, mW m, mEar m, mSaid m, mRo m, mTu m)) (mOk_thr hM) a b (mW m) (by omega) (by omega) (by omega)) gX6_way_X6_shortest rfl hdV_X6_shortest ⟨Nat.le_of_ble_eq_true rfl, Nat.le_of_ble_eq_true rfl⟩ ⟨Nat.le_of_ble_eq_true rfl, Nat.le_of_ble_eq_true rfl⟩ [0, 1, 2] rfl (by decide) 0 6 rfl rfl (Nat.le_of_ble_eq_true rfl) dX6_way_28) [0, 1, 2] [] rfl rfl (by decide) (by decide) (fun _ => wM ad cI (0, mC m, mP m, mW m, mEar m, mSaid m, mRo m, mTu m)) [0, 1, 2] (by decide) (fun _ => rfl) (fun v_28 u_28 hv_28 => ?_)
      subst hv_28
      refine ek_top (v' := mShort m a b (mW m)) (mShort_thr 0 m a b (mW m)) ?_
      refine ek_goto X 39 (by decide) dX6_way_31 ?_
      refine ek_widen (k' := 1) (n' := 12) (Nat.le_of_ble_eq_true rfl) (Nat.le_of_ble_eq_true rfl) ?_
      exact ek_reti X () ⟨_, rfl, (by first | exact (if_pos (show a < mC m ∧ b < mC m by omega)).symm | exact (if_neg (show ¬ (a < mC m ∧ b < mC m) by omega)).symm)⟩ (by first | (exfalso; omega) | rw [if_pos (show a < mC m ∧ b < mC m by omega)] | rw [if_neg (show ¬ (a < mC m ∧ b < mC m) by omega)]) dX6_way_39
    · refine ek_top (v' := nI 0) (congrArg nI (if_neg c_15)) ?_
      refine ek_Zeq X (by omega) 34 (by decide) dX6_way_18 (fun _ => ?_) (fun h => absurd h (by omega))
      refine ek_aln X 0 rfl dX6_way_34 ?_
      refine ek_ic (v := nI 1) X (by decide) dX6_way_35 ?_
      refine ek_doWi X (ek_runV (As := [.int (nI 1)]) (rest := []) X (c_X6_no l D cI cJ cR ad ((0, mC m, mP m, mW m, mEar m, mSaid m, mRo m, mTu m)) 1) gX6_way_X6_no rfl hdV_X6_no ⟨Nat.le_of_ble_eq_true rfl, Nat.le_of_ble_eq_true rfl⟩ ⟨Nat.le_of_ble_eq_true rfl, Nat.le_of_ble_eq_true rfl⟩ [0, 1, 2] rfl (by decide) 0 6 rfl rfl (Nat.le_of_ble_eq_true rfl) dX6_way_36) [0, 1, 2] [] rfl rfl (by decide) (by decide) (fun _ => wM ad cI (1, mC m, mP m, mW m, mEar m, mSaid m, mRo m, mTu m)) [0, 1, 2] (by decide) (fun _ => rfl) (fun v_36 u_36 hv_36 => ?_)
      subst hv_36
      refine ek_widen (k' := 1) (n' := 12) (Nat.le_of_ble_eq_true rfl) (Nat.le_of_ble_eq_true rfl) ?_
      exact ek_reti X () ⟨_, rfl, (by first | exact (if_pos (show a < mC m ∧ b < mC m by omega)).symm | exact (if_neg (show ¬ (a < mC m ∧ b < mC m) by omega)).symm)⟩ (by first | (exfalso; omega) | rw [if_pos (show a < mC m ∧ b < mC m by omega)] | rw [if_neg (show ¬ (a < mC m ∧ b < mC m) by omega)]) dX6_way_39
  · refine ek_top (v' := nI 0) (congrArg nI (if_neg c_7)) ?_
    refine ek_Zeq X (by omega) 34 (by decide) dX6_way_10 (fun _ => ?_) (fun h => absurd h (by omega))
    refine ek_aln X 0 rfl dX6_way_34 ?_
    refine ek_ic (v := nI 1) X (by decide) dX6_way_35 ?_
    refine ek_doWi X (ek_runV (As := [.int (nI 1)]) (rest := []) X (c_X6_no l D cI cJ cR ad ((0, mC m, mP m, mW m, mEar m, mSaid m, mRo m, mTu m)) 1) gX6_way_X6_no rfl hdV_X6_no ⟨Nat.le_of_ble_eq_true rfl, Nat.le_of_ble_eq_true rfl⟩ ⟨Nat.le_of_ble_eq_true rfl, Nat.le_of_ble_eq_true rfl⟩ [0, 1, 2] rfl (by decide) 0 6 rfl rfl (Nat.le_of_ble_eq_true rfl) dX6_way_36) [0, 1, 2] [] rfl rfl (by decide) (by decide) (fun _ => wM ad cI (1, mC m, mP m, mW m, mEar m, mSaid m, mRo m, mTu m)) [0, 1, 2] (by decide) (fun _ => rfl) (fun v_36 u_36 hv_36 => ?_)
    subst hv_36
    refine ek_widen (k' := 1) (n' := 12) (Nat.le_of_ble_eq_true rfl) (Nat.le_of_ble_eq_true rfl) ?_
    exact ek_reti X () ⟨_, rfl, (by first | exact (if_pos (show a < mC m ∧ b < mC m by omega)).symm | exact (if_neg (show ¬ (a < mC m ∧ b < mC m) by omega)).symm)⟩ (by first | (exfalso; omega) | rw [if_pos (show a < mC m ∧ b < mC m by omega)] | rw [if_neg (show ¬ (a < mC m ∧ b < mC m) by omega)]) dX6_way_39

theorem hin_X6_highest_X6 : ∀ x ∈ wsX60, x ∈ wsX6_highest := fun x h => List.mem_cons_of_mem _ (List.mem_append_right _ h)
abbrev rm_X6_highest : Room := { frames := 3, cells := 31, slots := 372, locals := 63 }
set_option maxHeartbeats 4000000 in
set_option maxRecDepth 100000 in
theorem c_X6_highest (l : Launch) (D : va_G) (cI cJ cR : ClassId) (ad : Nat → Nat) (m : MdlT) (hM : mOk m) (c : Nat) (hc : c < 4294967296) : ek_M (S := Unit) l yX6_highest wsX6_highest rm_X6_highest D (tyW cI cJ cR) nestW [.ref (ad 50), .int (nI c)] (wM ad cI m) (fun r9 _ => ∃ v : Int32, r9 = some (.int v) ∧ v = (if c < mC m then mHigh m c 31 else nI 0)) (fun _ => wM ad cI (mThr (if c < mC m then 0 else 1) m)) := by
  refine ek_M.of (cc := cX6_highest) (maxL := 3) (ret := (some .int)) (by decide) rfl (Nat.le_of_ble_eq_true rfl) ?_
  intro p9 e9 s9 m9 args9 below9 meth9 c9 A X hin
  obtain ⟨⟨mC1, mC2⟩, mPs, mWs, mEs, mTs, mSs, mRs, mTl⟩ := id hM
  refine ek_castL (lv' := [(0, .ref (ad 50)), (1, .int (nI c))]) rfl ?_
  refine ek_aln X 0 rfl dX6_highest_0 ?_
  refine ek_ic (v := nI 0) X (by decide) dX6_highest_1 ?_
  refine ek_put (w' := wM ad cI (0, mC m, mP m, mW m, mEar m, mSaid m, mRo m, mTu m)) X hin_X6_highest_X6 tyX6 tyX6_ok nmX6 0 rfl rfl 0 (by decide) (List.mem_of_getElem? (i := 1) rfl) rfl rfl rfl rfl (Nat.le_of_ble_eq_true rfl) rfl dX6_highest_2 ?_
  refine ek_aln X 0 rfl dX6_highest_5 ?_
  refine ek_iln X 1 rfl dX6_highest_6 ?_
  refine ek_doRi (ek_runV (As := [.int (nI c)]) (rest := []) X (c_X6_isChamberN l D cI cJ cR ad ((0, mC m, mP m, mW m, mEar m, mSaid m, mRo m, mTu m)) (mOk_thr hM) c (by omega)) gX6_highest_X6_isChamber rfl hdV_X6_isChamber ⟨Nat.le_of_ble_eq_true rfl, Nat.le_of_ble_eq_true rfl⟩ ⟨Nat.le_of_ble_eq_true rfl, Nat.le_of_ble_eq_true rfl⟩ [0, 1, 2] rfl (by decide) 0 6 rfl rfl (Nat.le_of_ble_eq_true rfl) dX6_highest_7) (fun v_7 hv_7 => ?_)
  subst hv_7
  by_cases c_7 : c < mC m
  · refine ek_top (v' := nI 1) (congrArg nI (if_pos c_7)) ?_
    refine ek_Zne X (by omega) 19 (by decide) dX6_highest_10 (fun _ => ?_) (fun h => absurd h (by omega))
    refine ek_bp (v := nI 30) X (by decide) dX6_highest_19 ?_
    refine ek_top (v' := pW 31) (by decide) ?_
    refine ek_isn (lv' := [(2, .int (pW 31)), (0, .ref (ad 50)), (1, .int (nI c))]) X (by decide) rfl dX6_highest_21 ?_
    refine ek_loopKn (σ := Nat) (fun zz => (fun (u : Nat) => 31 - u) zz) (fun zz => (fun (u : Nat) => 12 * (31 - u)) zz) (fun zz => (fun (u : Nat) => u ≤ 31 ∧ mHigh m c u = mHigh m c 31) zz) (fun zz => (fun (u : Nat) => u) zz) (fun zz => (fun (u : Nat) => wM ad cI (0, mC m, mP m, mW m, mEar m, mSaid m, mRo m, mTu m)) zz) (fun zz => (fun (u : Nat) => [(0, .ref (ad 50)), (1, .int (nI c)), (2, .int (pW u))]) zz) ?_ (31) ⟨Nat.le_refl _, rfl⟩ rfl [1, 2, 0] rfl (Nat.zero_le _) (Nat.zero_le _)
    intro zz ha_22 ih_22
    obtain ⟨u, rfl⟩ : ∃ z, z = zz := ⟨_, rfl⟩
    replace ha_22 : u ≤ 31 ∧ mHigh m c u = mHigh m c 31 := ha_22
    refine ek_cast (w' := wM ad cI (0, mC m, mP m, mW m, mEar m, mSaid m, mRo m, mTu m)) rfl ?_
    refine ek_castL (lv' := [(0, .ref (ad 50)), (1, .int (nI c)), (2, .int (pW u))]) rfl ?_
    refine ek_iln X 2 rfl dX6_highest_22 ?_
    refine ek_if_lt X 43 (by decide) dX6_highest_23 (fun c_23 => ?_) (fun c_23 => ?_)
    · skip
      refine ek_iln X 2 rfl dX6_highest_43 ?_
      refine ek_widen (k' := 31) (n' := 372) (by first | exact Nat.le_of_ble_eq_true rfl | (show 31 - u + 1 ≤ 31; omega) | (show 31 - u ≤ 31; omega)) (by first | exact Nat.le_of_ble_eq_true rfl | (show 12 * (31 - u) + 12 ≤ 372; omega) | (show 12 * (31 - u) ≤ 372; omega)) ?_
      exact ek_reti X () ⟨_, rfl, (by first | exact (if_neg (show ¬ c < mC m by omega)).symm | (obtain ⟨h1, h2⟩ := ha_22; rw [if_pos (show c < mC m by omega), ← h2]; first | (obtain rfl := (pW_neg u (by omega)).mp c_23; rfl) | (obtain ⟨u, rfl⟩ : ∃ z, u = z + 1 := ⟨u - 1, by omega⟩; exact (if_neg (by assumption)).symm)))⟩ (by first | (exfalso; omega) | rw [if_pos (show c < mC m by omega)] | rw [if_neg (show ¬ c < mC m by omega)]) dX6_highest_44
    · skip
      have hu0 : 0 < u := Nat.pos_of_ne_zero (fun e => c_23 ((pW_neg u (by omega)).mpr e))
      refine ek_castL (lv' := [(0, .ref (ad 50)), (1, .int (nI c)), (2, .int (nI (u - 1)))]) (by rw [pW_pos hu0]) ?_
      refine ek_aln X 0 rfl dX6_highest_26 ?_
      refine ek_ic (v := nI 0) X (by decide) dX6_highest_27 ?_
      refine ek_iln X 1 rfl dX6_highest_28 ?_
      refine ek_iln X 2 rfl dX6_highest_29 ?_
      refine ek_doWiA X (ek_runV (As := [.int (nI 0), .int (nI c), .int (nI (u - 1))]) (rest := []) X (c_X6_shortest l D cI cJ cR ad ((0, mC m, mP m, mW m, mEar m, mSaid m, mRo m, mTu m)) (mOk_thr hM) 0 c (u - 1) (by omega) (by omega) (by omega)) gX6_highest_X6_shortest rfl hdV_X6_shortest ⟨Nat.le_of_ble_eq_true rfl, Nat.le_of_ble_eq_true rfl⟩ ⟨by show 31 - u + 1 ≤ 31; omega, by show 12 * (31 - u) + 12 ≤ 372; omega⟩ [0, 1, 2] rfl (by decide) 0 6 rfl rfl (Nat.le_of_ble_eq_true rfl) dX6_highest_30) [0, 1, 2] [] rfl rfl (by decide) (by decide) (fun _ => wM ad cI (0, mC m, mP m, mW m, mEar m, mSaid m, mRo m, mTu m)) [0, 1, 2] (by decide) (fun _ => rfl) (fun v_30 u_30 hv_30 => ?_)
      subst hv_30
      refine ek_top (v' := mShort m 0 c (u - 1)) (mShort_thr 0 m 0 c (u - 1)) ?_
      refine ek_ic (v := -1) X (by decide) dX6_highest_33 ?_
      refine ek_icmp_ne X 43 (by decide) dX6_highest_34 (fun c_34 => ?_) (fun c_34 => ?_)
      · skip
        refine ek_iln X 2 rfl dX6_highest_43 ?_
        refine ek_widen (k' := 31) (n' := 372) (by first | exact Nat.le_of_ble_eq_true rfl | (show 31 - u + 1 ≤ 31; omega) | (show 31 - u ≤ 31; omega)) (by first | exact Nat.le_of_ble_eq_true rfl | (show 12 * (31 - u) + 12 ≤ 372; omega) | (show 12 * (31 - u) ≤ 372; omega)) ?_
        exact ek_reti X () ⟨_, rfl, (by first | exact (if_neg (show ¬ c < mC m by omega)).symm | (obtain ⟨h1, h2⟩ := ha_22; rw [if_pos (show c < mC m by omega), ← h2]; first | (obtain rfl := (pW_neg u (by omega)).mp c_23; rfl) | (obtain ⟨u, rfl⟩ : ∃ z, u = z + 1 := ⟨u - 1, by omega⟩; exact (if_neg (by assumption)).symm)))⟩ (by first | (exfalso; omega) | rw [if_pos (show c < mC m by omega)] | rw [if_neg (show ¬ c < mC m by omega)]) dX6_highest_44
      · skip
        refine ek_inc (j := 2) (v := pW (u - 1)) (lv' := [(2, .int (pW (u - 1))), (0, .ref (ad 50)), (1, .int (nI c))]) X rfl (pW_dec u (by omega) (by omega)) (by decide) rfl dX6_highest_37 ?_
        refine ek_goto X 22 (by decide) dX6_highest_40 ?_
        refine ek_widen (k' := 31 - (u - 1)) (n' := 12 * (31 - (u - 1))) (by show 31 - u + 1 ≤ 31 - (u - 1); omega) (by show 12 * (31 - u) + 12 ≤ 12 * (31 - (u - 1)); omega) ?_
        refine ek_re [1, 2, 0] rfl ?_
        exact ih_22 (u - 1) (show (u - 1) ≤ 31 ∧ mHigh m c (u - 1) = mHigh m c 31 from (by obtain ⟨h1, h2⟩ := ha_22; refine ⟨by omega, ?_⟩; obtain ⟨u, rfl⟩ : ∃ z, u = z + 1 := ⟨u - 1, by omega⟩; rw [← h2]; exact (if_pos (by assumption)).symm)) (by show u - 1 < u; omega)
  · refine ek_top (v' := nI 0) (congrArg nI (if_neg c_7)) ?_
    refine ek_Zne X (by omega) 19 (by decide) dX6_highest_10 (fun h => absurd h (by omega)) (fun _ => ?_)
    refine ek_aln X 0 rfl dX6_highest_13 ?_
    refine ek_ic (v := nI 1) X (by decide) dX6_highest_14 ?_
    refine ek_doWi X (ek_runV (As := [.int (nI 1)]) (rest := []) X (c_X6_no l D cI cJ cR ad ((0, mC m, mP m, mW m, mEar m, mSaid m, mRo m, mTu m)) 1) gX6_highest_X6_no rfl hdV_X6_no ⟨Nat.le_of_ble_eq_true rfl, Nat.le_of_ble_eq_true rfl⟩ ⟨Nat.le_of_ble_eq_true rfl, Nat.le_of_ble_eq_true rfl⟩ [0, 1, 2] rfl (by decide) 0 6 rfl rfl (Nat.le_of_ble_eq_true rfl) dX6_highest_15) [0, 1, 2] [] rfl rfl (by decide) (by decide) (fun _ => wM ad cI (1, mC m, mP m, mW m, mEar m, mSaid m, mRo m, mTu m)) [0, 1, 2] (by decide) (fun _ => rfl) (fun v_15 u_15 hv_15 => ?_)
    subst hv_15
    refine ek_widen (k' := 31) (n' := 372) (by first | exact Nat.le_of_ble_eq_true rfl | (show 31 - u + 1 ≤ 31; omega) | (show 31 - u ≤ 31; omega)) (by first | exact Nat.le_of_ble_eq_true rfl | (show 12 * (31 - u) + 12 ≤ 372; omega) | (show 12 * (31 - u) ≤ 372; omega)) ?_
    exact ek_reti X () ⟨_, rfl, (by first | exact (if_neg (show ¬ c < mC m by omega)).symm | (obtain ⟨h1, h2⟩ := ha_22; rw [if_pos (show c < mC m by omega), ← h2]; first | (obtain rfl := (pW_neg u (by omega)).mp c_23; rfl) | (obtain ⟨u, rfl⟩ : ∃ z, u = z + 1 := ⟨u - 1, by omega⟩; exact (if_neg (by assumption)).symm)))⟩ (by first | (exfalso; omega) | rw [if_pos (show c < mC m by omega)] | rw [if_neg (show ¬ c < mC m by omega)]) dX6_highest_18
