/-! ===== longest, advise, count ===== -/
def rep (y : Nat) : Nat → Nat
  | 0 => 0
  | t + 1 => 10 * rep y t + y
theorem rep_ok : ∀ y, y < 10 → 1 ≤ y → ∀ t, t < 7 → 1 ≤ t → wdOk (rep y t) := by
  intro y h1 h2 t h3 h4
  rcases (show y = 1 ∨ y = 2 ∨ y = 3 ∨ y = 4 ∨ y = 5 ∨ y = 6 ∨ y = 7 ∨ y = 8 ∨ y = 9 by omega) with rfl | rfl | rfl | rfl | rfl | rfl | rfl | rfl | rfl <;> rcases (show t = 1 ∨ t = 2 ∨ t = 3 ∨ t = 4 ∨ t = 5 ∨ t = 6 by omega) with rfl | rfl | rfl | rfl | rfl | rfl <;> decide
theorem rep_lt : ∀ y, y < 10 → ∀ t, t < 7 → rep y t < 1000000 := by decide
def mLong (m : MdlT) (y b : Nat) : Nat → Nat → Nat → MsnT → Nat × MsnT
  | 0, _, best, a => (best, a)
  | f + 1, t, best, a => mLong m y b f (t + 1) (if tIn (tThrough m (rep y t) b a) then t else best) (tThrough m (rep y t) b a)
abbrev tInst (x : Int32) (y d : Nat) (t : MsnT) : MsnT := ((tOd t, tPw t, tPc t, tSy t), (tTh t, tBa t, tFi t, tHe t), (tWa t, tRu t, tCl t, tK t), (tCt t, tOr t, tLa t, d), (tWo t, tPl t, x, y))
theorem tInst_base {t : MsnT} (h : tBase t) {x : Int32} {y d : Nat} (hx : ¬ x = nI 0) (hy : y ≤ 9) (hd : d ≤ 20) : tBase (tInst x y d t) := ⟨h.1, h.2.1, h.2.2.1, h.2.2.2.1, h.2.2.2.2.1, h.2.2.2.2.2.1, h.2.2.2.2.2.2.1, hx, hy, by show d ≤ 100; omega, h.2.2.2.2.2.2.2.2.2.2⟩
theorem nI_n0 {c : Nat} (h : 0 < c) (h2 : c < 2147483648) : ¬ nI c = nI 0 := fun e => by
  have := (nI_eq h2 (by omega)).mp e
  omega
def mAdv (m : MdlT) (n b y d : Nat) : Nat → Int32 → MsnT → Int32 × MsnT
  | 0, best, a => (best, a)
  | c + 1, best, a => mAdv m n b y d c (if tIn (tThrough m n b (tInst (nI (c + 1)) y d a)) then nI (c + 1) else best) (tThrough m n b (tInst (nI (c + 1)) y d a))
def mNOp (m : MdlT) : Nat → Nat
  | 0 => 0
  | p + 1 => mNOp m p + (if mOpen m p (mW m) then 1 else 0)
def mNCl (m : MdlT) : Nat → Nat
  | 0 => 0
  | c + 1 => mNCl m c + (if 0 < mRo m (5 * c + 3) then 1 else 0)
theorem mNOp_le (m : MdlT) : ∀ p, mNOp m p ≤ p
  | 0 => Nat.le_refl 0
  | p + 1 => by
    have := mNOp_le m p
    show mNOp m p + (if mOpen m p (mW m) then 1 else 0) ≤ p + 1
    split <;> omega
theorem mNCl_le (m : MdlT) : ∀ p, mNCl m p ≤ p
  | 0 => Nat.le_refl 0
  | c + 1 => by
    have := mNCl_le m c
    show mNCl m c + (if 0 < mRo m (5 * c + 3) then 1 else 0) ≤ c + 1
    split <;> omega
def mCtd (m : MdlT) (s : MsnT) (w : Nat) : Nat := if w = 0 then mC m else if w = 1 then mP m else if w = 2 then mNOp m (mP m) else if w = 3 then mNCl m (mC m) else if w = 4 then mW m else if w = 5 then mEar m else if w = 6 then mSaid m else if w = 7 then tWo s else if w = 8 then tK s else tCt s

theorem hin_X6_longest_X6 : ∀ x ∈ wsX60, x ∈ wsX6_longest := fun x h => List.mem_cons_of_mem _ (List.mem_append_left _ (List.mem_append_right _ h))
abbrev rm_X6_longest : Room := { frames := 7, cells := 0, slots := 0, locals := 162 }
set_option maxHeartbeats 4000000 in
set_option maxRecDepth 100000 in
theorem c_X6_longest (l : Launch) (D : va_G) (cI cJ cR : ClassId) (ad : Nat → Nat) (m : MdlT) (s a : MsnT) (hM : mOk m) (hT : tBase a) (h3 : mRo m 3 = 0) (y b : Nat) (hy : y < 4294967296) (hb : b < 4294967296) : ek_M (S := Unit) l yX6_longest wsX6_longest rm_X6_longest D (tyW cI cJ cR) nestW [.ref (ad 50), .int (nI y), .int (nI b)] (wX ad cI m s a) (fun r9 _ => ∃ v : Int32, r9 = some (.int v) ∧ v = nI (if (1 ≤ y ∧ y ≤ 9) ∧ 1 ≤ b ∧ b ≤ 20 then (mLong (mThr 0 m) y b 6 1 0 a).1 else 0)) (fun _ => wX ad cI (mThr (if (1 ≤ y ∧ y ≤ 9) ∧ 1 ≤ b ∧ b ≤ 20 then 0 else 1) m) s (if (1 ≤ y ∧ y ≤ 9) ∧ 1 ≤ b ∧ b ≤ 20 then (mLong (mThr 0 m) y b 6 1 0 a).2 else a)) := by
  refine ek_M.of (cc := cX6_longest) (maxL := 6) (ret := (some .int)) (by decide) rfl (Nat.le_of_ble_eq_true rfl) ?_
  intro p9 e9 s9 m9 args9 below9 meth9 c9 A X hin
  obtain ⟨⟨mC1, mC2⟩, mPs, mWs, mEs, mTs, mSs, mRs, mTl⟩ := id hM
  refine ek_castL (lv' := [(0, .ref (ad 50)), (1, .int (nI y)), (2, .int (nI b))]) rfl ?_
  refine ek_aln X 0 rfl dX6_longest_0 ?_
  refine ek_ic (v := nI 0) X (by decide) dX6_longest_1 ?_
  refine ek_put (w' := wX ad cI (0, mC m, mP m, mW m, mEar m, mSaid m, mRo m, mTu m) s a) X hin_X6_longest_X6 tyX6 tyX6_ok nmX6 0 rfl rfl 0 (by decide) (List.mem_of_getElem? (i := 1) rfl) rfl rfl rfl rfl (Nat.le_of_ble_eq_true rfl) rfl dX6_longest_2 ?_
  refine ek_iln X 1 rfl dX6_longest_5 ?_
  refine ek_ic (v := nI 1) X (by decide) dX6_longest_6 ?_
  refine ek_bp (v := nI 9) X (by decide) dX6_longest_7 ?_
  refine ek_doRi (ek_runS (As := [.int (nI y), .int (nI 1), .int (nI 9)]) (rest := []) X (c_X6_isInN l D cI cJ cR y 1 9 (by omega) (by omega) (by omega)) gX6_longest_X6_isIn rfl hd_X6_isIn ⟨Nat.le_of_ble_eq_true rfl, Nat.le_of_ble_eq_true rfl⟩ ⟨Nat.le_of_ble_eq_true rfl, Nat.le_of_ble_eq_true rfl⟩ [] rfl (by decide) (Nat.le_of_ble_eq_true rfl) dX6_longest_9) (fun v_9 hv_9 => ?_)
  subst hv_9
  by_cases c_9 : 1 ≤ y ∧ y ≤ 9
  · refine ek_top (v' := nI 1) (congrArg nI (if_pos c_9)) ?_
    refine ek_Zeq X (by omega) 25 (by decide) dX6_longest_12 (fun h => absurd h (by omega)) (fun _ => ?_)
    refine ek_iln X 2 rfl dX6_longest_15 ?_
    refine ek_ic (v := nI 1) X (by decide) dX6_longest_16 ?_
    refine ek_bp (v := nI 20) X (by decide) dX6_longest_17 ?_
    refine ek_doRi (ek_runS (As := [.int (nI b), .int (nI 1), .int (nI 20)]) (rest := []) X (c_X6_isInN l D cI cJ cR b 1 20 (by omega) (by omega) (by omega)) gX6_longest_X6_isIn rfl hd_X6_isIn ⟨Nat.le_of_ble_eq_true rfl, Nat.le_of_ble_eq_true rfl⟩ ⟨Nat.le_of_ble_eq_true rfl, Nat.le_of_ble_eq_true rfl⟩ [] rfl (by decide) (Nat.le_of_ble_eq_true rfl) dX6_longest_19) (fun v_19 hv_19 => ?_)
    subst hv_19
    by_cases c_19 : 1 ≤ b ∧ b ≤ 20
    · refine ek_top (v' := nI 1) (congrArg nI (if_pos c_19)) ?_
      refine ek_Zne X (by omega) 31 (by decide) dX6_longest_22 (fun _ => ?_) (fun h => absurd h (by omega))
      refine ek_ic (v := nI 0) X (by decide) dX6_longest_31 ?_
      refine ek_isn (lv' := [(3, .int (nI 0)), (0, .ref (ad 50)), (1, .int (nI y)), (2, .int (nI b))]) X (by decide) rfl dX6_longest_32 ?_
      refine ek_ic (v := nI 0) X (by decide) dX6_longest_33 ?_
      refine ek_is (lv' := [(4, .int (nI 0)), (3, .int (nI 0)), (0, .ref (ad 50)), (1, .int (nI y)), (2, .int (nI b))]) X (by decide) rfl dX6_longest_34 ?_
      refine ek_ic (v := nI 1) X (by decide) dX6_longest_36 ?_
      refine ek_is (lv' := [(5, .int (nI 1)), (4, .int (nI 0)), (3, .int (nI 0)), (0, .ref (ad 50)), (1, .int (nI y)), (2, .int (nI b))]) X (by decide) rfl dX6_longest_37 ?_
      refine ek_loopAt (σ := Nat × Nat × Nat × MsnT) (fun zz => (fun (best : Nat) (wd : Nat) (t : Nat) (a1 : MsnT) => (1 ≤ t ∧ t ≤ 7) ∧ 10 * wd + y = rep y t ∧ tBase a1 ∧ mLong (mThr 0 m) y b (7 - t) t best a1 = mLong (mThr 0 m) y b 6 1 0 a) zz.1 zz.2.1 zz.2.2.1 zz.2.2.2) (fun zz => (fun (best : Nat) (wd : Nat) (t : Nat) (a1 : MsnT) => 7 - t) zz.1 zz.2.1 zz.2.2.1 zz.2.2.2) (fun zz => (fun (best : Nat) (wd : Nat) (t : Nat) (a1 : MsnT) => wX ad cI (0, mC m, mP m, mW m, mEar m, mSaid m, mRo m, mTu m) s a1) zz.1 zz.2.1 zz.2.2.1 zz.2.2.2) (fun zz => (fun (best : Nat) (wd : Nat) (t : Nat) (a1 : MsnT) => [(0, .ref (ad 50)), (1, .int (nI y)), (2, .int (nI b)), (3, .int (nI best)), (4, .int (nI wd)), (5, .int (nI t))]) zz.1 zz.2.1 zz.2.2.1 zz.2.2.2) ?_ (0, 0, 1, a) ⟨⟨Nat.le_refl 1, (by decide : 1 ≤ 7)⟩, rfl, hT, rfl⟩ rfl [3, 4, 5, 2, 1, 0] rfl
      intro zz ha_39 ih_39
      obtain ⟨best, wd, t, a1⟩ := zz
      replace ha_39 : (1 ≤ t ∧ t ≤ 7) ∧ 10 * wd + y = rep y t ∧ tBase a1 ∧ mLong (mThr 0 m) y b (7 - t) t best a1 = mLong (mThr 0 m) y b 6 1 0 a := ha_39
      refine ek_cast (w' := wX ad cI (0, mC m, mP m, mW m, mEar m, mSaid m, mRo m, mTu m) s a1) rfl ?_
      refine ek_castL (lv' := [(0, .ref (ad 50)), (1, .int (nI y)), (2, .int (nI b)), (3, .int (nI best)), (4, .int (nI wd)), (5, .int (nI t))]) rfl ?_
      refine ek_il X 5 rfl dX6_longest_39 ?_
      refine ek_bp (v := nI 6) X (by decide) dX6_longest_41 ?_
      refine ek_Ngt X (by omega) (by omega) 74 (by decide) dX6_longest_43 (fun c_43 => ?_) (fun c_43 => ?_)
      · skip
        refine ek_iln X 3 rfl dX6_longest_74 ?_
        exact ek_reti X () ⟨_, rfl, (by first | exact (congrArg nI (if_neg (show ¬ ((1 ≤ y ∧ y ≤ 9) ∧ 1 ≤ b ∧ b ≤ 20) by omega))).symm | (obtain ⟨h1, h2, h4, h5⟩ := ha_39; rw [if_pos (show (1 ≤ y ∧ y ≤ 9) ∧ 1 ≤ b ∧ b ≤ 20 by omega), ← h5, show 7 - t = 0 by omega]; rfl))⟩ (by first | rw [if_neg (show ¬ ((1 ≤ y ∧ y ≤ 9) ∧ 1 ≤ b ∧ b ≤ 20) by omega), if_neg (show ¬ ((1 ≤ y ∧ y ≤ 9) ∧ 1 ≤ b ∧ b ≤ 20) by omega)] | (obtain ⟨h1, h2, h4, h5⟩ := ha_39; rw [if_pos (show (1 ≤ y ∧ y ≤ 9) ∧ 1 ≤ b ∧ b ≤ 20 by omega), if_pos (show (1 ≤ y ∧ y ≤ 9) ∧ 1 ≤ b ∧ b ≤ 20 by omega), ← h5, show 7 - t = 0 by omega]; rfl)) dX6_longest_75
      · skip
        refine ek_bp (v := nI 10) X (by decide) dX6_longest_46 ?_
        refine ek_il X 4 rfl dX6_longest_48 ?_
        refine ek_Nmul X dX6_longest_50 ?_
        refine ek_iln X 1 rfl dX6_longest_51 ?_
        refine ek_Nadd X dX6_longest_52 ?_
        refine ek_is (lv' := [(4, .int (nI ((10 * wd) + y))), (0, .ref (ad 50)), (1, .int (nI y)), (2, .int (nI b)), (3, .int (nI best)), (5, .int (nI t))]) X (by decide) rfl dX6_longest_53 ?_
        refine ek_aln X 1 rfl dX6_longest_55 ?_
        refine ek_il X 0 rfl dX6_longest_56 ?_
        refine ek_iln X 3 rfl dX6_longest_58 ?_
        have hwk : wdOk (10 * wd + y) := (by rw [ha_39.2.1]; exact rep_ok y (by omega) (by omega) t (by omega) (by omega))
        refine ek_doWi X (ek_runV (As := [.int (nI ((10 * wd) + y)), .int (nI b)]) (rest := []) X (c_X6_comes l D cI cJ cR ad ((0, mC m, mP m, mW m, mEar m, mSaid m, mRo m, mTu m)) s a1 (mOk_thr hM) ha_39.2.2.1 h3 ((10 * wd) + y) b hwk (by omega)) gX6_longest_X6_comes rfl hdV_X6_comes ⟨Nat.le_of_ble_eq_true rfl, Nat.le_of_ble_eq_true rfl⟩ ⟨Nat.le_of_ble_eq_true rfl, Nat.le_of_ble_eq_true rfl⟩ [0, 1, 2, 3, 4, 5, 6, 7, 8, 9, 10, 11, 12, 13, 14, 15, 16, 17, 18, 19, 20] rfl (by decide) 0 6 rfl rfl (Nat.le_of_ble_eq_true rfl) dX6_longest_59) [0, 1, 2, 3, 4, 5, 6, 7, 8, 9, 10, 11, 12, 13, 14, 15, 16, 17, 18, 19, 20] [] rfl rfl (by decide) (by decide) (fun _ => wX ad cI (0, mC m, mP m, mW m, mEar m, mSaid m, mRo m, mTu m) s (tThrough ((0, mC m, mP m, mW m, mEar m, mSaid m, mRo m, mTu m)) ((10 * wd) + y) b a1)) [0, 1, 2, 3, 4, 5, 6, 7, 8, 9, 10, 11, 12, 13, 14, 15, 16, 17, 18, 19, 20] (by decide) (fun _ => rfl) (fun v_59 u_59 hv_59 => ?_)
        subst hv_59
        by_cases c_59 : tIn (tThrough ((0, mC m, mP m, mW m, mEar m, mSaid m, mRo m, mTu m)) ((10 * wd) + y) b a1)
        · refine ek_top (v' := nI 1) (congrArg nI (if_pos c_59)) ?_
          refine ek_Zeq X (by omega) 68 (by decide) dX6_longest_62 (fun h => absurd h (by omega)) (fun _ => ?_)
          refine ek_il X 5 rfl dX6_longest_65 ?_
          refine ek_isn (lv' := [(3, .int (nI t)), (4, .int (nI ((10 * wd) + y))), (0, .ref (ad 50)), (1, .int (nI y)), (2, .int (nI b)), (5, .int (nI t))]) X (by decide) rfl dX6_longest_67 ?_
          refine ek_Ninc (j := 5) (d := 1) (lv' := [(5, .int (nI (t + 1))), (3, .int (nI t)), (4, .int (nI ((10 * wd) + y))), (0, .ref (ad 50)), (1, .int (nI y)), (2, .int (nI b))]) X rfl (by decide) rfl dX6_longest_68 ?_
          refine ek_goto X 39 (by decide) dX6_longest_71 ?_
          refine ek_re [3, 4, 5, 1, 2, 0] rfl ?_
          exact ih_39 (t, (10 * wd) + y, t + 1, (tThrough ((0, mC m, mP m, mW m, mEar m, mSaid m, mRo m, mTu m)) ((10 * wd) + y) b a1)) (show (1 ≤ (t + 1) ∧ (t + 1) ≤ 7) ∧ 10 * ((10 * wd) + y) + y = rep y (t + 1) ∧ tBase ((tThrough ((0, mC m, mP m, mW m, mEar m, mSaid m, mRo m, mTu m)) ((10 * wd) + y) b a1)) ∧ mLong (mThr 0 m) y b (7 - (t + 1)) (t + 1) t ((tThrough ((0, mC m, mP m, mW m, mEar m, mSaid m, mRo m, mTu m)) ((10 * wd) + y) b a1)) = mLong (mThr 0 m) y b 6 1 0 a from (by obtain ⟨h1, h2, h4, h5⟩ := ha_39; have hwk : wdOk (10 * wd + y) := (by rw [h2]; exact rep_ok y (by omega) (by omega) t (by omega) (by omega)); refine ⟨by omega, (by show 10 * (10 * wd + y) + y = 10 * rep y t + y; rw [h2]), tBase_thr (mOk_thr hM) h4 h3 hwk, ?_⟩; rw [← h5, show 7 - t = (7 - (t + 1)) + 1 by omega]; show _ = mLong (mThr 0 m) y b (7 - (t + 1)) (t + 1) (if tIn (tThrough (mThr 0 m) (rep y t) b a1) then t else best) (tThrough (mThr 0 m) (rep y t) b a1); rw [← h2]; first | rw [if_pos (by assumption)] | rw [if_neg (by assumption)])) (by show 7 - (t + 1) < 7 - t; omega)
        · refine ek_top (v' := nI 0) (congrArg nI (if_neg c_59)) ?_
          refine ek_Zeq X (by omega) 68 (by decide) dX6_longest_62 (fun _ => ?_) (fun h => absurd h (by omega))
          refine ek_Ninc (j := 5) (d := 1) (lv' := [(5, .int (nI (t + 1))), (4, .int (nI ((10 * wd) + y))), (0, .ref (ad 50)), (1, .int (nI y)), (2, .int (nI b)), (3, .int (nI best))]) X rfl (by decide) rfl dX6_longest_68 ?_
          refine ek_goto X 39 (by decide) dX6_longest_71 ?_
          refine ek_re [2, 3, 4, 5, 1, 0] rfl ?_
          exact ih_39 (best, (10 * wd) + y, t + 1, (tThrough ((0, mC m, mP m, mW m, mEar m, mSaid m, mRo m, mTu m)) ((10 * wd) + y) b a1)) (show (1 ≤ (t + 1) ∧ (t + 1) ≤ 7) ∧ 10 * ((10 * wd) + y) + y = rep y (t + 1) ∧ tBase ((tThrough ((0, mC m, mP m, mW m, mEar m, mSaid m, mRo m, mTu m)) ((10 * wd) + y) b a1)) ∧ mLong (mThr 0 m) y b (7 - (t + 1)) (t + 1) best ((tThrough ((0, mC m, mP m, mW m, mEar m, mSaid m, mRo m, mTu m)) ((10 * wd) + y) b a1)) = mLong (mThr 0 m) y b 6 1 0 a from (by obtain ⟨h1, h2, h4, h5⟩ := ha_39; have hwk : wdOk (10 * wd + y) := (by rw [h2]; exact rep_ok y (by omega) (by omega) t (by omega) (by omega)); refine ⟨by omega, (by show 10 * (10 * wd + y) + y = 10 * rep y t + y; rw [h2]), tBase_thr (mOk_thr hM) h4 h3 hwk, ?_⟩; rw [← h5, show 7 - t = (7 - (t + 1)) + 1 by omega]; show _ = mLong (mThr 0 m) y b (7 - (t + 1)) (t + 1) (if tIn (tThrough (mThr 0 m) (rep y t) b a1) then t else best) (tThrough (mThr 0 m) (rep y t) b a1); rw [← h2]; first | rw [if_pos (by assumption)] | rw [if_neg (by assumption)])) (by show 7 - (t + 1) < 7 - t; omega)
    · refine ek_top (v' := nI 0) (congrArg nI (if_neg c_19)) ?_
      refine ek_Zne X (by omega) 31 (by decide) dX6_longest_22 (fun h => absurd h (by omega)) (fun _ => ?_)
      refine ek_aln X 0 rfl dX6_longest_25 ?_
      refine ek_ic (v := nI 1) X (by decide) dX6_longest_26 ?_
      refine ek_doWi X (ek_runV (As := [.int (nI 1)]) (rest := []) X (c_X6_no l D cI cJ cR ad ((0, mC m, mP m, mW m, mEar m, mSaid m, mRo m, mTu m)) 1) gX6_longest_X6_no rfl hdV_X6_no ⟨Nat.le_of_ble_eq_true rfl, Nat.le_of_ble_eq_true rfl⟩ ⟨Nat.le_of_ble_eq_true rfl, Nat.le_of_ble_eq_true rfl⟩ [0, 1, 2] rfl (by decide) 0 6 rfl rfl (Nat.le_of_ble_eq_true rfl) dX6_longest_27) [0, 1, 2] [3, 4, 5, 6, 7, 8, 9, 10, 11, 12, 13, 14, 15, 16, 17, 18, 19, 20] rfl rfl (by decide) (by decide) (fun _ => wX ad cI (1, mC m, mP m, mW m, mEar m, mSaid m, mRo m, mTu m) s a) [18, 19, 20, 0, 1, 2, 3, 4, 5, 6, 7, 8, 9, 10, 11, 12, 13, 14, 15, 16, 17] (by decide) (fun _ => rfl) (fun v_27 u_27 hv_27 => ?_)
      subst hv_27
      exact ek_reti X () ⟨_, rfl, (by first | exact (congrArg nI (if_neg (show ¬ ((1 ≤ y ∧ y ≤ 9) ∧ 1 ≤ b ∧ b ≤ 20) by omega))).symm | (obtain ⟨h1, h2, h4, h5⟩ := ha_39; rw [if_pos (show (1 ≤ y ∧ y ≤ 9) ∧ 1 ≤ b ∧ b ≤ 20 by omega), ← h5, show 7 - t = 0 by omega]; rfl))⟩ (by first | rw [if_neg (show ¬ ((1 ≤ y ∧ y ≤ 9) ∧ 1 ≤ b ∧ b ≤ 20) by omega), if_neg (show ¬ ((1 ≤ y ∧ y ≤ 9) ∧ 1 ≤ b ∧ b ≤ 20) by omega)] | (obtain ⟨h1, h2, h4, h5⟩ := ha_39; rw [if_pos (show (1 ≤ y ∧ y ≤ 9) ∧ 1 ≤ b ∧ b ≤ 20 by omega), if_pos (show (1 ≤ y ∧ y ≤ 9) ∧ 1 ≤ b ∧ b ≤ 20 by omega), ← h5, show 7 - t = 0 by omega]; rfl)) dX6_longest_30
  · refine ek_top (v' := nI 0) (congrArg nI (if_neg c_9)) ?_
    refine ek_Zeq X (by omega) 25 (by decide) dX6_longest_12 (fun _ => ?_) (fun h => absurd h (by omega))
    refine ek_aln X 0 rfl dX6_longest_25 ?_
    refine ek_ic (v := nI 1) X (by decide) dX6_longest_26 ?_
    refine ek_doWi X (ek_runV (As := [.int (nI 1)]) (rest := []) X (c_X6_no l D cI cJ cR ad ((0, mC m, mP m, mW m, mEar m, mSaid m, mRo m, mTu m)) 1) gX6_longest_X6_no rfl hdV_X6_no ⟨Nat.le_of_ble_eq_true rfl, Nat.le_of_ble_eq_true rfl⟩ ⟨Nat.le_of_ble_eq_true rfl, Nat.le_of_ble_eq_true rfl⟩ [0, 1, 2] rfl (by decide) 0 6 rfl rfl (Nat.le_of_ble_eq_true rfl) dX6_longest_27) [0, 1, 2] [3, 4, 5, 6, 7, 8, 9, 10, 11, 12, 13, 14, 15, 16, 17, 18, 19, 20] rfl rfl (by decide) (by decide) (fun _ => wX ad cI (1, mC m, mP m, mW m, mEar m, mSaid m, mRo m, mTu m) s a) [18, 19, 20, 0, 1, 2, 3, 4, 5, 6, 7, 8, 9, 10, 11, 12, 13, 14, 15, 16, 17] (by decide) (fun _ => rfl) (fun v_27 u_27 hv_27 => ?_)
    subst hv_27
    exact ek_reti X () ⟨_, rfl, (by first | exact (congrArg nI (if_neg (show ¬ ((1 ≤ y ∧ y ≤ 9) ∧ 1 ≤ b ∧ b ≤ 20) by omega))).symm | (obtain ⟨h1, h2, h4, h5⟩ := ha_39; rw [if_pos (show (1 ≤ y ∧ y ≤ 9) ∧ 1 ≤ b ∧ b ≤ 20 by omega), ← h5, show 7 - t = 0 by omega]; rfl))⟩ (by first | rw [if_neg (show ¬ ((1 ≤ y ∧ y ≤ 9) ∧ 1 ≤ b ∧ b ≤ 20) by omega), if_neg (show ¬ ((1 ≤ y ∧ y ≤ 9) ∧ 1 ≤ b ∧ b ≤ 20) by omega)] | (obtain ⟨h1, h2, h4, h5⟩ := ha_39; rw [if_pos (show (1 ≤ y ∧ y ≤ 9) ∧ 1 ≤ b ∧ b ≤ 20 by omega), if_pos (show (1 ≤ y ∧ y ≤ 9) ∧ 1 ≤ b ∧ b ≤ 20 by omega), ← h5, show 7 - t = 0 by omega]; rfl)) dX6_longest_30

theorem hin_X6_counted_X5 : ∀ x ∈ wsX50, x ∈ wsX6_counted := fun x h => List.mem_cons_of_mem _ (List.mem_append_right _ h)
theorem hin_X6_counted_X6 : ∀ x ∈ wsX60, x ∈ wsX6_counted := fun x h => List.mem_cons_of_mem _ (List.mem_append_left _ (List.mem_append_right _ h))
abbrev rm_X6_counted : Room := { frames := 2, cells := 0, slots := 0, locals := 34 }
set_option maxHeartbeats 4000000 in
set_option maxRecDepth 100000 in
theorem c_X6_counted (l : Launch) (D : va_G) (cI cJ cR : ClassId) (ad : Nat → Nat) (m : MdlT) (s a : MsnT) (hM : mOk m) (w9 : Nat) (hw : w9 ≤ 9) : ek_R l yX6_counted wsX6_counted rm_X6_counted D (tyW cI cJ cR) nestW [.ref (ad 50), .int (nI w9)] (wX ad cI m s a) (fun r9 => ∃ v : Int32, r9 = some (.int v) ∧ v = nI (mCtd m s w9)) := by
  refine ek_R.of (cc := cX6_counted) (maxL := 4) (ret := (some .int)) (by decide) rfl (Nat.le_of_ble_eq_true rfl) ?_
  intro p9 e9 s9 m9 args9 below9 meth9 c9 X
  obtain ⟨⟨mC1, mC2⟩, mPs, mWs, mEs, mTs, mSs, mRs, mTl⟩ := id hM
  refine ek_castL (lv' := [(0, .ref (ad 50)), (1, .int (nI w9))]) rfl ?_
  refine ek_ic (v := nI 0) X (by decide) dX6_counted_0 ?_
  refine ek_isn (lv' := [(2, .int (nI 0)), (0, .ref (ad 50)), (1, .int (nI w9))]) X (by decide) rfl dX6_counted_1 ?_
  refine ek_iln X 2 rfl dX6_counted_2 ?_
  rcases (show w9 = 0 ∨ w9 = 1 ∨ w9 = 2 ∨ w9 = 3 ∨ w9 = 4 ∨ w9 = 5 ∨ w9 = 6 ∨ w9 = 7 ∨ w9 = 8 ∨ 8 < w9 by omega) with rfl | rfl | rfl | rfl | rfl | rfl | rfl | rfl | rfl | c_3
  · refine ek_tsN X 52 (by decide) (by decide) rfl (by decide) dX6_counted_3 ?_
    refine ek_aln X 1 rfl dX6_counted_52 ?_
    refine ek_get X hin_X6_counted_X6 0 rfl rfl 1 (by decide) (List.mem_of_getElem? (i := 1) rfl) rfl dX6_counted_53 ?_
    exact ek_retiR X ⟨_, rfl, rfl⟩ dX6_counted_56
  · refine ek_tsN X 57 (by decide) (by decide) rfl (by decide) dX6_counted_3 ?_
    refine ek_aln X 1 rfl dX6_counted_57 ?_
    refine ek_get X hin_X6_counted_X6 0 rfl rfl 2 (by decide) (List.mem_of_getElem? (i := 2) rfl) rfl dX6_counted_58 ?_
    exact ek_retiR X ⟨_, rfl, rfl⟩ dX6_counted_61
  · refine ek_tsN X 62 (by decide) (by decide) rfl (by decide) dX6_counted_3 ?_
    refine ek_ic (v := nI 0) X (by decide) dX6_counted_62 ?_
    refine ek_isn (lv' := [(3, .int (nI 0)), (2, .int (nI 0)), (0, .ref (ad 50)), (1, .int (nI 2))]) X (by decide) rfl dX6_counted_63 ?_
    refine ek_loopAt (σ := Nat × Nat) (fun zz => (fun (c : Nat) (p : Nat) => p ≤ mP m ∧ c = mNOp m p) zz.1 zz.2) (fun zz => (fun (c : Nat) (p : Nat) => mP m - p) zz.1 zz.2) (fun zz => (fun (c : Nat) (p : Nat) => wX ad cI m s a) zz.1 zz.2) (fun zz => (fun (c : Nat) (p : Nat) => [(0, .ref (ad 50)), (1, .int (nI 2)), (2, .int (nI c)), (3, .int (nI p))]) zz.1 zz.2) ?_ (0, 0) ⟨Nat.zero_le _, rfl⟩ rfl [2, 3, 1, 0] rfl
    intro zz ha_64 ih_64
    obtain ⟨c, p⟩ := zz
    replace ha_64 : p ≤ mP m ∧ c = mNOp m p := ha_64
    refine ek_cast (w' := wX ad cI m s a) rfl ?_
    refine ek_castL (lv' := [(0, .ref (ad 50)), (1, .int (nI 2)), (2, .int (nI c)), (3, .int (nI p))]) rfl ?_
    have hcn := mNOp_le m p
    refine ek_iln X 3 rfl dX6_counted_64 ?_
    refine ek_aln X 0 rfl dX6_counted_65 ?_
    refine ek_get X hin_X6_counted_X6 0 rfl rfl 2 (by decide) (List.mem_of_getElem? (i := 2) rfl) rfl dX6_counted_66 ?_
    refine ek_Nge X (by omega) (by omega) 98 (by decide) dX6_counted_69 (fun c_69 => ?_) (fun c_69 => ?_)
    · skip
      refine ek_iln X 2 rfl dX6_counted_98 ?_
      exact ek_retiR X ⟨_, rfl, (by obtain ⟨h1, h2⟩ := ha_64; rw [h2, show p = mP m by omega]; rfl)⟩ dX6_counted_99
    · skip
      refine ek_iln X 2 rfl dX6_counted_72 ?_
      refine ek_aln X 0 rfl dX6_counted_73 ?_
      refine ek_iln X 3 rfl dX6_counted_74 ?_
      refine ek_aln X 0 rfl dX6_counted_75 ?_
      refine ek_get X hin_X6_counted_X6 0 rfl rfl 3 (by decide) (List.mem_of_getElem? (i := 3) rfl) rfl dX6_counted_76 ?_
      refine ek_doRi (ek_runV (As := [.int (nI p), .int (nI (mW m))]) (rest := [.int (nI c)]) X (c_X6_isOpen l D cI cJ cR ad m hM p (mW m) (by omega) (by omega)) gX6_counted_X6_isOpen rfl hdV_X6_isOpen ⟨Nat.le_of_ble_eq_true rfl, Nat.le_of_ble_eq_true rfl⟩ ⟨Nat.le_of_ble_eq_true rfl, Nat.le_of_ble_eq_true rfl⟩ [0, 1, 2] rfl (by decide) 0 6 rfl rfl (Nat.le_of_ble_eq_true rfl) dX6_counted_79) (fun v_79 hv_79 => ?_)
      subst hv_79
      by_cases c_79 : mOpen m p (mW m)
      · refine ek_top (v' := nI 1) (congrArg nI (if_pos c_79)) ?_
        refine ek_Zeq X (by omega) 89 (by decide) dX6_counted_82 (fun h => absurd h (by omega)) (fun _ => ?_)
        refine ek_ic (v := nI 1) X (by decide) dX6_counted_85 ?_
        refine ek_goto X 90 (by decide) dX6_counted_86 ?_
        refine ek_Nadd X dX6_counted_90 ?_
        refine ek_isn (lv' := [(2, .int (nI (c + 1))), (0, .ref (ad 50)), (1, .int (nI 2)), (3, .int (nI p))]) X (by decide) rfl dX6_counted_91 ?_
        refine ek_Ninc (j := 3) (d := 1) (lv' := [(3, .int (nI (p + 1))), (2, .int (nI (c + 1))), (0, .ref (ad 50)), (1, .int (nI 2))]) X rfl (by decide) rfl dX6_counted_92 ?_
        refine ek_goto X 64 (by decide) dX6_counted_95 ?_
        refine ek_re [2, 3, 1, 0] rfl ?_
        exact ih_64 (c + 1, p + 1) (show (p + 1) ≤ mP m ∧ (c + 1) = mNOp m (p + 1) from (by obtain ⟨h1, h2⟩ := ha_64; refine ⟨by omega, ?_⟩; rw [h2]; show _ = mNOp m p + (if mOpen m p (mW m) then 1 else 0); first | rw [if_pos (by assumption)] | rw [if_neg (by assumption)])) (by show mP m - (p + 1) < mP m - p; omega)
      · refine ek_top (v' := nI 0) (congrArg nI (if_neg c_79)) ?_
        refine ek_Zeq X (by omega) 89 (by decide) dX6_counted_82 (fun _ => ?_) (fun h => absurd h (by omega))
        refine ek_ic (v := nI 0) X (by decide) dX6_counted_89 ?_
        refine ek_Nadd X dX6_counted_90 ?_
        refine ek_isn (lv' := [(2, .int (nI (c + 0))), (0, .ref (ad 50)), (1, .int (nI 2)), (3, .int (nI p))]) X (by decide) rfl dX6_counted_91 ?_
        refine ek_Ninc (j := 3) (d := 1) (lv' := [(3, .int (nI (p + 1))), (2, .int (nI (c + 0))), (0, .ref (ad 50)), (1, .int (nI 2))]) X rfl (by decide) rfl dX6_counted_92 ?_
        refine ek_goto X 64 (by decide) dX6_counted_95 ?_
        refine ek_re [2, 3, 1, 0] rfl ?_
        exact ih_64 (c + 0, p + 1) (show (p + 1) ≤ mP m ∧ (c + 0) = mNOp m (p + 1) from (by obtain ⟨h1, h2⟩ := ha_64; refine ⟨by omega, ?_⟩; rw [h2]; show _ = mNOp m p + (if mOpen m p (mW m) then 1 else 0); first | rw [if_pos (by assumption)] | rw [if_neg (by assumption)])) (by show mP m - (p + 1) < mP m - p; omega)
  · refine ek_tsN X 100 (by decide) (by decide) rfl (by decide) dX6_counted_3 ?_
    refine ek_ic (v := nI 0) X (by decide) dX6_counted_100 ?_
    refine ek_isn (lv' := [(3, .int (nI 0)), (2, .int (nI 0)), (0, .ref (ad 50)), (1, .int (nI 3))]) X (by decide) rfl dX6_counted_101 ?_
    refine ek_loopAt (σ := Nat × Nat) (fun zz => (fun (c : Nat) (p : Nat) => p ≤ mC m ∧ c = mNCl m p) zz.1 zz.2) (fun zz => (fun (c : Nat) (p : Nat) => mC m - p) zz.1 zz.2) (fun zz => (fun (c : Nat) (p : Nat) => wX ad cI m s a) zz.1 zz.2) (fun zz => (fun (c : Nat) (p : Nat) => [(0, .ref (ad 50)), (1, .int (nI 3)), (2, .int (nI c)), (3, .int (nI p))]) zz.1 zz.2) ?_ (0, 0) ⟨Nat.zero_le _, rfl⟩ rfl [2, 3, 1, 0] rfl
    intro zz ha_102 ih_102
    obtain ⟨c, p⟩ := zz
    replace ha_102 : p ≤ mC m ∧ c = mNCl m p := ha_102
    refine ek_cast (w' := wX ad cI m s a) rfl ?_
    refine ek_castL (lv' := [(0, .ref (ad 50)), (1, .int (nI 3)), (2, .int (nI c)), (3, .int (nI p))]) rfl ?_
    have hcn := mNCl_le m p
    have hrp := mRs (5 * p + 3)
    refine ek_iln X 3 rfl dX6_counted_102 ?_
    refine ek_aln X 0 rfl dX6_counted_103 ?_
    refine ek_get X hin_X6_counted_X6 0 rfl rfl 1 (by decide) (List.mem_of_getElem? (i := 1) rfl) rfl dX6_counted_104 ?_
    refine ek_Nge X (by omega) (by omega) 137 (by decide) dX6_counted_107 (fun c_107 => ?_) (fun c_107 => ?_)
    · skip
      refine ek_iln X 2 rfl dX6_counted_137 ?_
      exact ek_retiR X ⟨_, rfl, (by obtain ⟨h1, h2⟩ := ha_102; rw [h2, show p = mC m by omega]; rfl)⟩ dX6_counted_138
    · skip
      refine ek_iln X 2 rfl dX6_counted_110 ?_
      refine ek_aln X 0 rfl dX6_counted_111 ?_
      refine ek_get X hin_X6_counted_X6 0 rfl rfl 6 (by decide) (List.mem_of_getElem? (i := 4) rfl) rfl dX6_counted_112 ?_
      refine ek_ic (v := nI 5) X (by decide) dX6_counted_115 ?_
      refine ek_iln X 3 rfl dX6_counted_116 ?_
      refine ek_Nmul X dX6_counted_117 ?_
      refine ek_ic (v := nI 3) X (by decide) dX6_counted_118 ?_
      refine ek_Nadd X dX6_counted_119 ?_
      refine ek_ald X 1 0 rfl rfl (by omega) (by omega) dX6_counted_120 ?_
      have b1_120 := mRs ((5 * p) + 3)
      refine ek_Zle X (by omega) 128 (by decide) dX6_counted_121 (fun c_121 => ?_) (fun c_121 => ?_)
      · skip
        refine ek_ic (v := nI 0) X (by decide) dX6_counted_128 ?_
        refine ek_Nadd X dX6_counted_129 ?_
        refine ek_isn (lv' := [(2, .int (nI (c + 0))), (0, .ref (ad 50)), (1, .int (nI 3)), (3, .int (nI p))]) X (by decide) rfl dX6_counted_130 ?_
        refine ek_Ninc (j := 3) (d := 1) (lv' := [(3, .int (nI (p + 1))), (2, .int (nI (c + 0))), (0, .ref (ad 50)), (1, .int (nI 3))]) X rfl (by decide) rfl dX6_counted_131 ?_
        refine ek_goto X 102 (by decide) dX6_counted_134 ?_
        refine ek_re [2, 3, 1, 0] rfl ?_
        exact ih_102 (c + 0, p + 1) (show (p + 1) ≤ mC m ∧ (c + 0) = mNCl m (p + 1) from (by obtain ⟨h1, h2⟩ := ha_102; refine ⟨by omega, ?_⟩; rw [h2]; show _ = mNCl m p + (if 0 < mRo m (5 * p + 3) then 1 else 0); first | rw [if_pos (by omega)] | rw [if_neg (by omega)])) (by show mC m - (p + 1) < mC m - p; omega)
      · skip
        refine ek_ic (v := nI 1) X (by decide) dX6_counted_124 ?_
        refine ek_goto X 129 (by decide) dX6_counted_125 ?_
        refine ek_Nadd X dX6_counted_129 ?_
        refine ek_isn (lv' := [(2, .int (nI (c + 1))), (0, .ref (ad 50)), (1, .int (nI 3)), (3, .int (nI p))]) X (by decide) rfl dX6_counted_130 ?_
        refine ek_Ninc (j := 3) (d := 1) (lv' := [(3, .int (nI (p + 1))), (2, .int (nI (c + 1))), (0, .ref (ad 50)), (1, .int (nI 3))]) X rfl (by decide) rfl dX6_counted_131 ?_
        refine ek_goto X 102 (by decide) dX6_counted_134 ?_
        refine ek_re [2, 3, 1, 0] rfl ?_
        exact ih_102 (c + 1, p + 1) (show (p + 1) ≤ mC m ∧ (c + 1) = mNCl m (p + 1) from (by obtain ⟨h1, h2⟩ := ha_102; refine ⟨by omega, ?_⟩; rw [h2]; show _ = mNCl m p + (if 0 < mRo m (5 * p + 3) then 1 else 0); first | rw [if_pos (by omega)] | rw [if_neg (by omega)])) (by show mC m - (p + 1) < mC m - p; omega)
  · refine ek_tsN X 139 (by decide) (by decide) rfl (by decide) dX6_counted_3 ?_
    refine ek_aln X 1 rfl dX6_counted_139 ?_
    refine ek_get X hin_X6_counted_X6 0 rfl rfl 3 (by decide) (List.mem_of_getElem? (i := 3) rfl) rfl dX6_counted_140 ?_
    exact ek_retiR X ⟨_, rfl, rfl⟩ dX6_counted_143
  · refine ek_tsN X 144 (by decide) (by decide) rfl (by decide) dX6_counted_3 ?_
    refine ek_aln X 1 rfl dX6_counted_144 ?_
    refine ek_get X hin_X6_counted_X6 0 rfl rfl 4 (by decide) (List.mem_of_getElem? (i := 5) rfl) rfl dX6_counted_145 ?_
    exact ek_retiR X ⟨_, rfl, rfl⟩ dX6_counted_148
  · refine ek_tsN X 149 (by decide) (by decide) rfl (by decide) dX6_counted_3 ?_
    refine ek_aln X 1 rfl dX6_counted_149 ?_
    refine ek_get X hin_X6_counted_X6 0 rfl rfl 5 (by decide) (List.mem_of_getElem? (i := 6) rfl) rfl dX6_counted_150 ?_
    exact ek_retiR X ⟨_, rfl, rfl⟩ dX6_counted_153
  · refine ek_tsN X 154 (by decide) (by decide) rfl (by decide) dX6_counted_3 ?_
    refine ek_aln X 1 rfl dX6_counted_154 ?_
    refine ek_get X hin_X6_counted_X6 0 rfl rfl 8 (by decide) (List.mem_of_getElem? (i := 7) rfl) rfl dX6_counted_155 ?_
    refine ek_getN X hin_X6_counted_X5 3 rfl rfl 0 (by decide) (List.mem_of_getElem? (i := 19) rfl) rfl dX6_counted_158 ?_
    exact ek_retiR X ⟨_, rfl, rfl⟩ dX6_counted_161
  · refine ek_tsN X 162 (by decide) (by decide) rfl (by decide) dX6_counted_3 ?_
    refine ek_aln X 1 rfl dX6_counted_162 ?_
    refine ek_get X hin_X6_counted_X6 0 rfl rfl 8 (by decide) (List.mem_of_getElem? (i := 7) rfl) rfl dX6_counted_163 ?_
    refine ek_getN X hin_X6_counted_X5 3 rfl rfl 3 (by decide) (List.mem_of_getElem? (i := 22) rfl) rfl dX6_counted_166 ?_
    exact ek_retiR X ⟨_, rfl, rfl⟩ dX6_counted_169
  · refine ek_tsO X 170 (by omega) (by omega) (by decide) dX6_counted_3 ?_
    refine ek_aln X 1 rfl dX6_counted_170 ?_
    refine ek_get X hin_X6_counted_X6 0 rfl rfl 8 (by decide) (List.mem_of_getElem? (i := 7) rfl) rfl dX6_counted_171 ?_
    refine ek_getN X hin_X6_counted_X5 3 rfl rfl 4 (by decide) (List.mem_of_getElem? (i := 23) rfl) rfl dX6_counted_174 ?_
    exact ek_retiR X ⟨_, rfl, (by unfold mCtd; rw [if_neg (by omega), if_neg (by omega), if_neg (by omega), if_neg (by omega), if_neg (by omega), if_neg (by omega), if_neg (by omega), if_neg (by omega), if_neg (by omega)])⟩ dX6_counted_177

theorem mNOp_thr (k : Nat) (m : MdlT) : ∀ p, mNOp (mThr k m) p = mNOp m p
  | 0 => rfl
  | p + 1 => congrArg (fun a => a + (if mOpen m p (mW m) then 1 else 0)) (mNOp_thr k m p)
theorem mNCl_thr (k : Nat) (m : MdlT) : ∀ p, mNCl (mThr k m) p = mNCl m p
  | 0 => rfl
  | p + 1 => congrArg (fun a => a + (if 0 < mRo m (5 * p + 3) then 1 else 0)) (mNCl_thr k m p)
theorem mCtd_thr (k : Nat) (m : MdlT) (s : MsnT) (w : Nat) : mCtd (mThr k m) s w = mCtd m s w := by
  unfold mCtd
  rw [mNOp_thr, mNCl_thr]

theorem hin_X6_count_X6 : ∀ x ∈ wsX60, x ∈ wsX6_count := fun x h => List.mem_cons_of_mem _ (List.mem_append_left _ (List.mem_append_right _ h))
abbrev rm_X6_count : Room := { frames := 3, cells := 0, slots := 0, locals := 57 }
set_option maxHeartbeats 4000000 in
set_option maxRecDepth 100000 in
theorem c_X6_count (l : Launch) (D : va_G) (cI cJ cR : ClassId) (ad : Nat → Nat) (m : MdlT) (s a : MsnT) (hM : mOk m) (w9 : Nat) (hw : w9 < 4294967296) : ek_M (S := Unit) l yX6_count wsX6_count rm_X6_count D (tyW cI cJ cR) nestW [.ref (ad 50), .int (nI w9)] (wX ad cI m s a) (fun r9 _ => ∃ v : Int32, r9 = some (.int v) ∧ v = nI (if w9 ≤ 9 then mCtd m s w9 else 0)) (fun _ => wX ad cI (mThr (if w9 ≤ 9 then 0 else 1) m) s a) := by
  refine ek_M.of (cc := cX6_count) (maxL := 2) (ret := (some .int)) (by decide) rfl (Nat.le_of_ble_eq_true rfl) ?_
  intro p9 e9 s9 m9 args9 below9 meth9 c9 A X hin
  obtain ⟨⟨mC1, mC2⟩, mPs, mWs, mEs, mTs, mSs, mRs, mTl⟩ := id hM
  refine ek_castL (lv' := [(0, .ref (ad 50)), (1, .int (nI w9))]) rfl ?_
  refine ek_aln X 0 rfl dX6_count_0 ?_
  refine ek_ic (v := nI 0) X (by decide) dX6_count_1 ?_
  refine ek_put (w' := wX ad cI (0, mC m, mP m, mW m, mEar m, mSaid m, mRo m, mTu m) s a) X hin_X6_count_X6 tyX6 tyX6_ok nmX6 0 rfl rfl 0 (by decide) (List.mem_of_getElem? (i := 1) rfl) rfl rfl rfl rfl (Nat.le_of_ble_eq_true rfl) rfl dX6_count_2 ?_
  refine ek_iln X 1 rfl dX6_count_5 ?_
  refine ek_ic (v := nI 0) X (by decide) dX6_count_6 ?_
  refine ek_bp (v := nI 9) X (by decide) dX6_count_7 ?_
  refine ek_doRi (ek_runS (As := [.int (nI w9), .int (nI 0), .int (nI 9)]) (rest := []) X (c_X6_isInN l D cI cJ cR w9 0 9 (by omega) (by omega) (by omega)) gX6_count_X6_isIn rfl hd_X6_isIn ⟨Nat.le_of_ble_eq_true rfl, Nat.le_of_ble_eq_true rfl⟩ ⟨Nat.le_of_ble_eq_true rfl, Nat.le_of_ble_eq_true rfl⟩ [] rfl (by decide) (Nat.le_of_ble_eq_true rfl) dX6_count_9) (fun v_9 hv_9 => ?_)
  subst hv_9
  by_cases c_9 : 0 ≤ w9 ∧ w9 ≤ 9
  · refine ek_top (v' := nI 1) (congrArg nI (if_pos c_9)) ?_
    refine ek_Zeq X (by omega) 23 (by decide) dX6_count_12 (fun h => absurd h (by omega)) (fun _ => ?_)
    refine ek_aln X 0 rfl dX6_count_15 ?_
    refine ek_iln X 1 rfl dX6_count_16 ?_
    refine ek_doRi (ek_runV (As := [.int (nI w9)]) (rest := []) X (c_X6_counted l D cI cJ cR ad ((0, mC m, mP m, mW m, mEar m, mSaid m, mRo m, mTu m)) s a (mOk_thr hM) w9 (by omega)) gX6_count_X6_counted rfl hdV_X6_counted ⟨Nat.le_of_ble_eq_true rfl, Nat.le_of_ble_eq_true rfl⟩ ⟨Nat.le_of_ble_eq_true rfl, Nat.le_of_ble_eq_true rfl⟩ [0, 1, 2, 3, 4, 5, 6, 7, 8, 9, 10, 11, 12, 13, 14, 15, 16, 17, 18, 19, 20] rfl (by decide) 0 6 rfl rfl (Nat.le_of_ble_eq_true rfl) dX6_count_17) (fun v_17 hv_17 => ?_)
    subst hv_17
    refine ek_top (v' := nI (mCtd m s w9)) (congrArg nI (mCtd_thr 0 m s w9)) ?_
    refine ek_goto X 28 (by decide) dX6_count_20 ?_
    exact ek_reti X () ⟨_, rfl, (by first | exact (congrArg nI (if_pos (by omega))).symm | exact (congrArg nI (if_neg (by omega))).symm)⟩ (by first | (exfalso; omega) | rw [if_pos (show w9 ≤ 9 by omega)] | rw [if_neg (show ¬ w9 ≤ 9 by omega)]) dX6_count_28
  · refine ek_top (v' := nI 0) (congrArg nI (if_neg c_9)) ?_
    refine ek_Zeq X (by omega) 23 (by decide) dX6_count_12 (fun _ => ?_) (fun h => absurd h (by omega))
    refine ek_aln X 0 rfl dX6_count_23 ?_
    refine ek_ic (v := nI 1) X (by decide) dX6_count_24 ?_
    refine ek_doWi X (ek_runV (As := [.int (nI 1)]) (rest := []) X (c_X6_no l D cI cJ cR ad ((0, mC m, mP m, mW m, mEar m, mSaid m, mRo m, mTu m)) 1) gX6_count_X6_no rfl hdV_X6_no ⟨Nat.le_of_ble_eq_true rfl, Nat.le_of_ble_eq_true rfl⟩ ⟨Nat.le_of_ble_eq_true rfl, Nat.le_of_ble_eq_true rfl⟩ [0, 1, 2] rfl (by decide) 0 6 rfl rfl (Nat.le_of_ble_eq_true rfl) dX6_count_25) [0, 1, 2] [3, 4, 5, 6, 7, 8, 9, 10, 11, 12, 13, 14, 15, 16, 17, 18, 19, 20] rfl rfl (by decide) (by decide) (fun _ => wX ad cI (1, mC m, mP m, mW m, mEar m, mSaid m, mRo m, mTu m) s a) [18, 19, 20, 0, 1, 2, 3, 4, 5, 6, 7, 8, 9, 10, 11, 12, 13, 14, 15, 16, 17] (by decide) (fun _ => rfl) (fun v_25 u_25 hv_25 => ?_)
    subst hv_25
    exact ek_reti X () ⟨_, rfl, (by first | exact (congrArg nI (if_pos (by omega))).symm | exact (congrArg nI (if_neg (by omega))).symm)⟩ (by first | (exfalso; omega) | rw [if_pos (show w9 ≤ 9 by omega)] | rw [if_neg (show ¬ w9 ≤ 9 by omega)]) dX6_count_28

theorem hin_X6_advise_X6 : ∀ x ∈ wsX60, x ∈ wsX6_advise := fun x h => List.mem_cons_of_mem _ (List.mem_append_left _ (List.mem_append_right _ h))
abbrev rm_X6_advise : Room := { frames := 7, cells := 0, slots := 0, locals := 162 }
set_option maxHeartbeats 4000000 in
set_option maxRecDepth 100000 in
theorem c_X6_advise (l : Launch) (D : va_G) (cI cJ cR : ClassId) (ad : Nat → Nat) (m : MdlT) (s a : MsnT) (hM : mOk m) (hT : tBase a) (h3 : mRo m 3 = 0) (n b y d : Nat) (hn : n < 4294967296) (hb : b < 4294967296) (hy : y < 4294967296) (hd : d < 4294967296) : ek_M (S := Unit) l yX6_advise wsX6_advise rm_X6_advise D (tyW cI cJ cR) nestW [.ref (ad 50), .int (nI n), .int (nI b), .int (nI y), .int (nI d)] (wX ad cI m s a) (fun r9 _ => ∃ v : Int32, r9 = some (.int v) ∧ v = (if wbOk n b ∧ (1 ≤ y ∧ y ≤ 9) ∧ d ≤ 20 then (mAdv (mThr 0 m) n b y d (mC m - 1) (-1) a).1 else nI 0)) (fun _ => wX ad cI (mThr (if wbOk n b ∧ (1 ≤ y ∧ y ≤ 9) ∧ d ≤ 20 then 0 else 1) m) s (if wbOk n b ∧ (1 ≤ y ∧ y ≤ 9) ∧ d ≤ 20 then tInst (-1) 0 0 (mAdv (mThr 0 m) n b y d (mC m - 1) (-1) a).2 else a)) := by
  refine ek_M.of (cc := cX6_advise) (maxL := 7) (ret := (some .int)) (by decide) rfl (Nat.le_of_ble_eq_true rfl) ?_
  intro p9 e9 s9 m9 args9 below9 meth9 c9 A X hin
  obtain ⟨⟨mC1, mC2⟩, mPs, mWs, mEs, mTs, mSs, mRs, mTl⟩ := id hM
  refine ek_castL (lv' := [(0, .ref (ad 50)), (1, .int (nI n)), (2, .int (nI b)), (3, .int (nI y)), (4, .int (nI d))]) rfl ?_
  refine ek_aln X 0 rfl dX6_advise_0 ?_
  refine ek_ic (v := nI 0) X (by decide) dX6_advise_1 ?_
  refine ek_put (w' := wX ad cI (0, mC m, mP m, mW m, mEar m, mSaid m, mRo m, mTu m) s a) X hin_X6_advise_X6 tyX6 tyX6_ok nmX6 0 rfl rfl 0 (by decide) (List.mem_of_getElem? (i := 1) rfl) rfl rfl rfl rfl (Nat.le_of_ble_eq_true rfl) rfl dX6_advise_2 ?_
  refine ek_iln X 1 rfl dX6_advise_5 ?_
  refine ek_doRi (ek_runS (As := [.int (nI n)]) (rest := []) X (c_X6_isWord l D cI cJ cR n (by omega)) gX6_advise_X6_isWord rfl hd_X6_isWord ⟨Nat.le_of_ble_eq_true rfl, Nat.le_of_ble_eq_true rfl⟩ ⟨Nat.le_of_ble_eq_true rfl, Nat.le_of_ble_eq_true rfl⟩ [] rfl (by decide) (Nat.le_of_ble_eq_true rfl) dX6_advise_6) (fun v_6 hv_6 => ?_)
  subst hv_6
  by_cases c_6 : wdOk n
  · refine ek_top (v' := nI 1) (congrArg nI (if_pos c_6)) ?_
    refine ek_Zeq X (by omega) 43 (by decide) dX6_advise_9 (fun h => absurd h (by omega)) (fun _ => ?_)
    refine ek_iln X 2 rfl dX6_advise_12 ?_
    refine ek_ic (v := nI 1) X (by decide) dX6_advise_13 ?_
    refine ek_bp (v := nI 20) X (by decide) dX6_advise_14 ?_
    refine ek_doRi (ek_runS (As := [.int (nI b), .int (nI 1), .int (nI 20)]) (rest := []) X (c_X6_isInN l D cI cJ cR b 1 20 (by omega) (by omega) (by omega)) gX6_advise_X6_isIn rfl hd_X6_isIn ⟨Nat.le_of_ble_eq_true rfl, Nat.le_of_ble_eq_true rfl⟩ ⟨Nat.le_of_ble_eq_true rfl, Nat.le_of_ble_eq_true rfl⟩ [] rfl (by decide) (Nat.le_of_ble_eq_true rfl) dX6_advise_16) (fun v_16 hv_16 => ?_)
    subst hv_16
    by_cases c_16 : 1 ≤ b ∧ b ≤ 20
    · refine ek_top (v' := nI 1) (congrArg nI (if_pos c_16)) ?_
      refine ek_Zeq X (by omega) 43 (by decide) dX6_advise_19 (fun h => absurd h (by omega)) (fun _ => ?_)
      refine ek_iln X 3 rfl dX6_advise_22 ?_
      refine ek_ic (v := nI 1) X (by decide) dX6_advise_23 ?_
      refine ek_bp (v := nI 9) X (by decide) dX6_advise_24 ?_
      refine ek_doRi (ek_runS (As := [.int (nI y), .int (nI 1), .int (nI 9)]) (rest := []) X (c_X6_isInN l D cI cJ cR y 1 9 (by omega) (by omega) (by omega)) gX6_advise_X6_isIn rfl hd_X6_isIn ⟨Nat.le_of_ble_eq_true rfl, Nat.le_of_ble_eq_true rfl⟩ ⟨Nat.le_of_ble_eq_true rfl, Nat.le_of_ble_eq_true rfl⟩ [] rfl (by decide) (Nat.le_of_ble_eq_true rfl) dX6_advise_26) (fun v_26 hv_26 => ?_)
      subst hv_26
      by_cases c_26 : 1 ≤ y ∧ y ≤ 9
      · refine ek_top (v' := nI 1) (congrArg nI (if_pos c_26)) ?_
        refine ek_Zeq X (by omega) 43 (by decide) dX6_advise_29 (fun h => absurd h (by omega)) (fun _ => ?_)
        refine ek_il X 4 rfl dX6_advise_32 ?_
        refine ek_ic (v := nI 0) X (by decide) dX6_advise_34 ?_
        refine ek_bp (v := nI 20) X (by decide) dX6_advise_35 ?_
        refine ek_doRi (ek_runS (As := [.int (nI d), .int (nI 0), .int (nI 20)]) (rest := []) X (c_X6_isInN l D cI cJ cR d 0 20 (by omega) (by omega) (by omega)) gX6_advise_X6_isIn rfl hd_X6_isIn ⟨Nat.le_of_ble_eq_true rfl, Nat.le_of_ble_eq_true rfl⟩ ⟨Nat.le_of_ble_eq_true rfl, Nat.le_of_ble_eq_true rfl⟩ [] rfl (by decide) (Nat.le_of_ble_eq_true rfl) dX6_advise_37) (fun v_37 hv_37 => ?_)
        subst hv_37
        by_cases c_37 : 0 ≤ d ∧ d ≤ 20
        · refine ek_top (v' := nI 1) (congrArg nI (if_pos c_37)) ?_
          refine ek_Zne X (by omega) 49 (by decide) dX6_advise_40 (fun _ => ?_) (fun h => absurd h (by omega))
          refine ek_ic (v := -1) X (by decide) dX6_advise_49 ?_
          refine ek_is (lv' := [(5, .int (-1)), (0, .ref (ad 50)), (1, .int (nI n)), (2, .int (nI b)), (3, .int (nI y)), (4, .int (nI d))]) X (by decide) rfl dX6_advise_50 ?_
          refine ek_aln X 1 rfl dX6_advise_52 ?_
          refine ek_get X hin_X6_advise_X6 0 rfl rfl 1 (by decide) (List.mem_of_getElem? (i := 2) rfl) rfl dX6_advise_53 ?_
          refine ek_top (v' := nI (mC m)) rfl ?_
          refine ek_ic (v := nI 1) X (by decide) dX6_advise_56 ?_
          refine ek_Nsub X (by omega) dX6_advise_57 ?_
          refine ek_is (lv' := [(6, .int (nI ((mC m) - 1))), (5, .int (-1)), (0, .ref (ad 50)), (1, .int (nI n)), (2, .int (nI b)), (3, .int (nI y)), (4, .int (nI d))]) X (by decide) rfl dX6_advise_58 ?_
          refine ek_loopAt (σ := Int32 × Nat × MsnT) (fun zz => (fun (best : Int32) (c : Nat) (a1 : MsnT) => c ≤ mC m - 1 ∧ tBase a1 ∧ mAdv (mThr 0 m) n b y d c best a1 = mAdv (mThr 0 m) n b y d (mC m - 1) (-1) a) zz.1 zz.2.1 zz.2.2) (fun zz => (fun (best : Int32) (c : Nat) (a1 : MsnT) => c) zz.1 zz.2.1 zz.2.2) (fun zz => (fun (best : Int32) (c : Nat) (a1 : MsnT) => wX ad cI (0, mC m, mP m, mW m, mEar m, mSaid m, mRo m, mTu m) s a1) zz.1 zz.2.1 zz.2.2) (fun zz => (fun (best : Int32) (c : Nat) (a1 : MsnT) => [(0, .ref (ad 50)), (1, .int (nI n)), (2, .int (nI b)), (3, .int (nI y)), (4, .int (nI d)), (5, .int best), (6, .int (nI c))]) zz.1 zz.2.1 zz.2.2) ?_ (-1, (mC m) - 1, a) ⟨Nat.le_refl _, hT, rfl⟩ rfl [2, 3, 4, 5, 6, 1, 0] rfl
          intro zz ha_60 ih_60
          obtain ⟨best, c, a1⟩ := zz
          replace ha_60 : c ≤ mC m - 1 ∧ tBase a1 ∧ mAdv (mThr 0 m) n b y d c best a1 = mAdv (mThr 0 m) n b y d (mC m - 1) (-1) a := ha_60
          refine ek_cast (w' := wX ad cI (0, mC m, mP m, mW m, mEar m, mSaid m, mRo m, mTu m) s a1) rfl ?_
          refine ek_castL (lv' := [(0, .ref (ad 50)), (1, .int (nI n)), (2, .int (nI b)), (3, .int (nI y)), (4, .int (nI d)), (5, .int best), (6, .int (nI c))]) rfl ?_
          refine ek_il X 6 rfl dX6_advise_60 ?_
          refine ek_Zle X (by omega) 96 (by decide) dX6_advise_62 (fun c_62 => ?_) (fun c_62 => ?_)
          · skip
            refine ek_aln X 0 rfl dX6_advise_96 ?_
            refine ek_get X hin_X6_advise_X6 0 rfl rfl 9 (by decide) (List.mem_of_getElem? (i := 3) rfl) rfl dX6_advise_97 ?_
            refine ek_ic (v := -1) X (by decide) dX6_advise_100 ?_
            refine ek_ic (v := nI 0) X (by decide) dX6_advise_101 ?_
            refine ek_ic (v := nI 0) X (by decide) dX6_advise_102 ?_
            refine ek_doWv X (ek_runV (As := [.int (-1), .int (nI 0), .int (nI 0)]) (rest := []) X (c_X5_instead l D cI cJ cR ad 70 ((0, mC m, mP m, mW m, mEar m, mSaid m, mRo m, mTu m)) a1 (-1) 0 0) gX6_advise_X5_instead rfl hdV_X5_instead ⟨Nat.le_of_ble_eq_true rfl, Nat.le_of_ble_eq_true rfl⟩ ⟨Nat.le_of_ble_eq_true rfl, Nat.le_of_ble_eq_true rfl⟩ [12, 13, 14, 15, 16, 17, 18, 19, 20, 0, 1, 2] rfl (by decide) 0 5 rfl rfl (Nat.le_of_ble_eq_true rfl) dX6_advise_103) [12, 13, 14, 15, 16, 17, 18, 19, 20, 0, 1, 2] [3, 4, 5, 6, 7, 8, 9, 10, 11] rfl rfl (by decide) (by decide) (fun _ => wX ad cI (0, mC m, mP m, mW m, mEar m, mSaid m, mRo m, mTu m) s (tInst (-1) 0 0 a1)) [18, 19, 20, 0, 1, 2, 3, 4, 5, 6, 7, 8, 9, 10, 11, 12, 13, 14, 15, 16, 17] (by decide) (fun _ => rfl) (fun u_103 hv_103 => ?_)
            refine ek_il X 5 rfl dX6_advise_106 ?_
            exact ek_reti X () ⟨_, rfl, (by first | exact (if_neg (show ¬ (wbOk n b ∧ (1 ≤ y ∧ y ≤ 9) ∧ d ≤ 20) from fun h => by have g1 := h.1.1; have g2 := h.1.2; have g3 := h.2; first | contradiction | omega)).symm | (obtain ⟨h1, h4, h5⟩ := ha_60; rw [if_pos (show wbOk n b ∧ (1 ≤ y ∧ y ≤ 9) ∧ d ≤ 20 from ⟨⟨by assumption, by omega⟩, by omega, by omega⟩), ← h5, show c = 0 by omega]; rfl))⟩ (by first | rw [if_neg (show ¬ (wbOk n b ∧ (1 ≤ y ∧ y ≤ 9) ∧ d ≤ 20) from fun h => by have g1 := h.1.1; have g2 := h.1.2; have g3 := h.2; first | contradiction | omega), if_neg (show ¬ (wbOk n b ∧ (1 ≤ y ∧ y ≤ 9) ∧ d ≤ 20) from fun h => by have g1 := h.1.1; have g2 := h.1.2; have g3 := h.2; first | contradiction | omega)] | (obtain ⟨h1, h4, h5⟩ := ha_60; rw [if_pos (show wbOk n b ∧ (1 ≤ y ∧ y ≤ 9) ∧ d ≤ 20 from ⟨⟨by assumption, by omega⟩, by omega, by omega⟩), if_pos (show wbOk n b ∧ (1 ≤ y ∧ y ≤ 9) ∧ d ≤ 20 from ⟨⟨by assumption, by omega⟩, by omega, by omega⟩), ← h5, show c = 0 by omega]; rfl)) dX6_advise_108
          · skip
            refine ek_aln X 0 rfl dX6_advise_65 ?_
            refine ek_get X hin_X6_advise_X6 0 rfl rfl 9 (by decide) (List.mem_of_getElem? (i := 3) rfl) rfl dX6_advise_66 ?_
            refine ek_il X 6 rfl dX6_advise_69 ?_
            refine ek_iln X 3 rfl dX6_advise_71 ?_
            refine ek_il X 4 rfl dX6_advise_72 ?_
            refine ek_doWv X (ek_runV (As := [.int (nI c), .int (nI y), .int (nI d)]) (rest := []) X (c_X5_instead l D cI cJ cR ad 70 ((0, mC m, mP m, mW m, mEar m, mSaid m, mRo m, mTu m)) a1 (nI c) y d) gX6_advise_X5_instead rfl hdV_X5_instead ⟨Nat.le_of_ble_eq_true rfl, Nat.le_of_ble_eq_true rfl⟩ ⟨Nat.le_of_ble_eq_true rfl, Nat.le_of_ble_eq_true rfl⟩ [12, 13, 14, 15, 16, 17, 18, 19, 20, 0, 1, 2] rfl (by decide) 0 5 rfl rfl (Nat.le_of_ble_eq_true rfl) dX6_advise_74) [12, 13, 14, 15, 16, 17, 18, 19, 20, 0, 1, 2] [3, 4, 5, 6, 7, 8, 9, 10, 11] rfl rfl (by decide) (by decide) (fun _ => wX ad cI (0, mC m, mP m, mW m, mEar m, mSaid m, mRo m, mTu m) s (tInst (nI c) y d a1)) [18, 19, 20, 0, 1, 2, 3, 4, 5, 6, 7, 8, 9, 10, 11, 12, 13, 14, 15, 16, 17] (by decide) (fun _ => rfl) (fun u_74 hv_74 => ?_)
            refine ek_aln X 0 rfl dX6_advise_77 ?_
            refine ek_iln X 1 rfl dX6_advise_78 ?_
            refine ek_iln X 2 rfl dX6_advise_79 ?_
            refine ek_doWi X (ek_runV (As := [.int (nI n), .int (nI b)]) (rest := []) X (c_X6_comes l D cI cJ cR ad ((0, mC m, mP m, mW m, mEar m, mSaid m, mRo m, mTu m)) s ((tInst (nI c) y d a1)) (mOk_thr hM) (tInst_base ha_60.2.1 (nI_n0 (by omega) (by omega)) (by omega) (by omega)) h3 n b (by assumption) (by omega)) gX6_advise_X6_comes rfl hdV_X6_comes ⟨Nat.le_of_ble_eq_true rfl, Nat.le_of_ble_eq_true rfl⟩ ⟨Nat.le_of_ble_eq_true rfl, Nat.le_of_ble_eq_true rfl⟩ [0, 1, 2, 3, 4, 5, 6, 7, 8, 9, 10, 11, 12, 13, 14, 15, 16, 17, 18, 19, 20] rfl (by decide) 0 6 rfl rfl (Nat.le_of_ble_eq_true rfl) dX6_advise_80) [0, 1, 2, 3, 4, 5, 6, 7, 8, 9, 10, 11, 12, 13, 14, 15, 16, 17, 18, 19, 20] [] rfl rfl (by decide) (by decide) (fun _ => wX ad cI (0, mC m, mP m, mW m, mEar m, mSaid m, mRo m, mTu m) s (tThrough ((0, mC m, mP m, mW m, mEar m, mSaid m, mRo m, mTu m)) n b ((tInst (nI c) y d a1)))) [0, 1, 2, 3, 4, 5, 6, 7, 8, 9, 10, 11, 12, 13, 14, 15, 16, 17, 18, 19, 20] (by decide) (fun _ => rfl) (fun v_80 u_80 hv_80 => ?_)
            subst hv_80
            by_cases c_80 : tIn (tThrough ((0, mC m, mP m, mW m, mEar m, mSaid m, mRo m, mTu m)) n b ((tInst (nI c) y d a1)))
            · refine ek_top (v' := nI 1) (congrArg nI (if_pos c_80)) ?_
              refine ek_Zeq X (by omega) 90 (by decide) dX6_advise_83 (fun h => absurd h (by omega)) (fun _ => ?_)
              refine ek_il X 6 rfl dX6_advise_86 ?_
              refine ek_is (lv' := [(5, .int (nI c)), (0, .ref (ad 50)), (1, .int (nI n)), (2, .int (nI b)), (3, .int (nI y)), (4, .int (nI d)), (6, .int (nI c))]) X (by decide) rfl dX6_advise_88 ?_
              refine ek_Ndec (j := 6) (lv' := [(6, .int (nI (c - 1))), (5, .int (nI c)), (0, .ref (ad 50)), (1, .int (nI n)), (2, .int (nI b)), (3, .int (nI y)), (4, .int (nI d))]) X (by omega) rfl (by decide) rfl dX6_advise_90 ?_
              refine ek_goto X 60 (by decide) dX6_advise_93 ?_
              refine ek_re [2, 3, 4, 5, 6, 1, 0] rfl ?_
              exact ih_60 (nI c, c - 1, (tThrough ((0, mC m, mP m, mW m, mEar m, mSaid m, mRo m, mTu m)) n b ((tInst (nI c) y d a1)))) (show (c - 1) ≤ mC m - 1 ∧ tBase ((tThrough ((0, mC m, mP m, mW m, mEar m, mSaid m, mRo m, mTu m)) n b ((tInst (nI c) y d a1)))) ∧ mAdv (mThr 0 m) n b y d (c - 1) (nI c) ((tThrough ((0, mC m, mP m, mW m, mEar m, mSaid m, mRo m, mTu m)) n b ((tInst (nI c) y d a1)))) = mAdv (mThr 0 m) n b y d (mC m - 1) (-1) a from (by obtain ⟨h1, h4, h5⟩ := ha_60; obtain ⟨c, rfl⟩ : ∃ z, c = z + 1 := ⟨c - 1, by omega⟩; refine ⟨by omega, tBase_thr (mOk_thr hM) (tInst_base h4 (nI_n0 (by omega) (by omega)) (by omega) (by omega)) h3 (by assumption), ?_⟩; rw [← h5]; show _ = mAdv (mThr 0 m) n b y d c (if tIn (tThrough (mThr 0 m) n b (tInst (nI (c + 1)) y d a1)) then nI (c + 1) else best) (tThrough (mThr 0 m) n b (tInst (nI (c + 1)) y d a1)); first | (rw [if_pos (by assumption)]; rfl) | (rw [if_neg (by assumption)]; rfl))) (by show c - 1 < c; omega)
            · refine ek_top (v' := nI 0) (congrArg nI (if_neg c_80)) ?_
              refine ek_Zeq X (by omega) 90 (by decide) dX6_advise_83 (fun _ => ?_) (fun h => absurd h (by omega))
              refine ek_Ndec (j := 6) (lv' := [(6, .int (nI (c - 1))), (0, .ref (ad 50)), (1, .int (nI n)), (2, .int (nI b)), (3, .int (nI y)), (4, .int (nI d)), (5, .int best)]) X (by omega) rfl (by decide) rfl dX6_advise_90 ?_
              refine ek_goto X 60 (by decide) dX6_advise_93 ?_
              refine ek_re [1, 2, 3, 4, 5, 6, 0] rfl ?_
              exact ih_60 (best, c - 1, (tThrough ((0, mC m, mP m, mW m, mEar m, mSaid m, mRo m, mTu m)) n b ((tInst (nI c) y d a1)))) (show (c - 1) ≤ mC m - 1 ∧ tBase ((tThrough ((0, mC m, mP m, mW m, mEar m, mSaid m, mRo m, mTu m)) n b ((tInst (nI c) y d a1)))) ∧ mAdv (mThr 0 m) n b y d (c - 1) best ((tThrough ((0, mC m, mP m, mW m, mEar m, mSaid m, mRo m, mTu m)) n b ((tInst (nI c) y d a1)))) = mAdv (mThr 0 m) n b y d (mC m - 1) (-1) a from (by obtain ⟨h1, h4, h5⟩ := ha_60; obtain ⟨c, rfl⟩ : ∃ z, c = z + 1 := ⟨c - 1, by omega⟩; refine ⟨by omega, tBase_thr (mOk_thr hM) (tInst_base h4 (nI_n0 (by omega) (by omega)) (by omega) (by omega)) h3 (by assumption), ?_⟩; rw [← h5]; show _ = mAdv (mThr 0 m) n b y d c (if tIn (tThrough (mThr 0 m) n b (tInst (nI (c + 1)) y d a1)) then nI (c + 1) else best) (tThrough (mThr 0 m) n b (tInst (nI (c + 1)) y d a1)); first | (rw [if_pos (by assumption)]; rfl) | (rw [if_neg (by assumption)]; rfl))) (by show c - 1 < c; omega)
        · refine ek_top (v' := nI 0) (congrArg nI (if_neg c_37)) ?_
          refine ek_Zne X (by omega) 49 (by decide) dX6_advise_40 (fun h => absurd h (by omega)) (fun _ => ?_)
          refine ek_aln X 0 rfl dX6_advise_43 ?_
          refine ek_ic (v := nI 1) X (by decide) dX6_advise_44 ?_
          refine ek_doWi X (ek_runV (As := [.int (nI 1)]) (rest := []) X (c_X6_no l D cI cJ cR ad ((0, mC m, mP m, mW m, mEar m, mSaid m, mRo m, mTu m)) 1) gX6_advise_X6_no rfl hdV_X6_no ⟨Nat.le_of_ble_eq_true rfl, Nat.le_of_ble_eq_true rfl⟩ ⟨Nat.le_of_ble_eq_true rfl, Nat.le_of_ble_eq_true rfl⟩ [0, 1, 2] rfl (by decide) 0 6 rfl rfl (Nat.le_of_ble_eq_true rfl) dX6_advise_45) [0, 1, 2] [3, 4, 5, 6, 7, 8, 9, 10, 11, 12, 13, 14, 15, 16, 17, 18, 19, 20] rfl rfl (by decide) (by decide) (fun _ => wX ad cI (1, mC m, mP m, mW m, mEar m, mSaid m, mRo m, mTu m) s a) [18, 19, 20, 0, 1, 2, 3, 4, 5, 6, 7, 8, 9, 10, 11, 12, 13, 14, 15, 16, 17] (by decide) (fun _ => rfl) (fun v_45 u_45 hv_45 => ?_)
          subst hv_45
          exact ek_reti X () ⟨_, rfl, (by first | exact (if_neg (show ¬ (wbOk n b ∧ (1 ≤ y ∧ y ≤ 9) ∧ d ≤ 20) from fun h => by have g1 := h.1.1; have g2 := h.1.2; have g3 := h.2; first | contradiction | omega)).symm | (obtain ⟨h1, h4, h5⟩ := ha_60; rw [if_pos (show wbOk n b ∧ (1 ≤ y ∧ y ≤ 9) ∧ d ≤ 20 from ⟨⟨by assumption, by omega⟩, by omega, by omega⟩), ← h5, show c = 0 by omega]; rfl))⟩ (by first | rw [if_neg (show ¬ (wbOk n b ∧ (1 ≤ y ∧ y ≤ 9) ∧ d ≤ 20) from fun h => by have g1 := h.1.1; have g2 := h.1.2; have g3 := h.2; first | contradiction | omega), if_neg (show ¬ (wbOk n b ∧ (1 ≤ y ∧ y ≤ 9) ∧ d ≤ 20) from fun h => by have g1 := h.1.1; have g2 := h.1.2; have g3 := h.2; first | contradiction | omega)] | (obtain ⟨h1, h4, h5⟩ := ha_60; rw [if_pos (show wbOk n b ∧ (1 ≤ y ∧ y ≤ 9) ∧ d ≤ 20 from ⟨⟨by assumption, by omega⟩, by omega, by omega⟩), if_pos (show wbOk n b ∧ (1 ≤ y ∧ y ≤ 9) ∧ d ≤ 20 from ⟨⟨by assumption, by omega⟩, by omega, by omega⟩), ← h5, show c = 0 by omega]; rfl)) dX6_advise_48
      · refine ek_top (v' := nI 0) (congrArg nI (if_neg c_26)) ?_
        refine ek_Zeq X (by omega) 43 (by decide) dX6_advise_29 (fun _ => ?_) (fun h => absurd h (by omega))
        refine ek_aln X 0 rfl dX6_advise_43 ?_
        refine ek_ic (v := nI 1) X (by decide) dX6_advise_44 ?_
        refine ek_doWi X (ek_runV (As := [.int (nI 1)]) (rest := []) X (c_X6_no l D cI cJ cR ad ((0, mC m, mP m, mW m, mEar m, mSaid m, mRo m, mTu m)) 1) gX6_advise_X6_no rfl hdV_X6_no ⟨Nat.le_of_ble_eq_true rfl, Nat.le_of_ble_eq_true rfl⟩ ⟨Nat.le_of_ble_eq_true rfl, Nat.le_of_ble_eq_true rfl⟩ [0, 1, 2] rfl (by decide) 0 6 rfl rfl (Nat.le_of_ble_eq_true rfl) dX6_advise_45) [0, 1, 2] [3, 4, 5, 6, 7, 8, 9, 10, 11, 12, 13, 14, 15, 16, 17, 18, 19, 20] rfl rfl (by decide) (by decide) (fun _ => wX ad cI (1, mC m, mP m, mW m, mEar m, mSaid m, mRo m, mTu m) s a) [18, 19, 20, 0, 1, 2, 3, 4, 5, 6, 7, 8, 9, 10, 11, 12, 13, 14, 15, 16, 17] (by decide) (fun _ => rfl) (fun v_45 u_45 hv_45 => ?_)
        subst hv_45
        exact ek_reti X () ⟨_, rfl, (by first | exact (if_neg (show ¬ (wbOk n b ∧ (1 ≤ y ∧ y ≤ 9) ∧ d ≤ 20) from fun h => by have g1 := h.1.1; have g2 := h.1.2; have g3 := h.2; first | contradiction | omega)).symm | (obtain ⟨h1, h4, h5⟩ := ha_60; rw [if_pos (show wbOk n b ∧ (1 ≤ y ∧ y ≤ 9) ∧ d ≤ 20 from ⟨⟨by assumption, by omega⟩, by omega, by omega⟩), ← h5, show c = 0 by omega]; rfl))⟩ (by first | rw [if_neg (show ¬ (wbOk n b ∧ (1 ≤ y ∧ y ≤ 9) ∧ d ≤ 20) from fun h => by have g1 := h.1.1; have g2 := h.1.2; have g3 := h.2; first | contradiction | omega), if_neg (show ¬ (wbOk n b ∧ (1 ≤ y ∧ y ≤ 9) ∧ d ≤ 20) from fun h => by have g1 := h.1.1; have g2 := h.1.2; have g3 := h.2; first | contradiction | omega)] | (obtain ⟨h1, h4, h5⟩ := ha_60; rw [if_pos (show wbOk n b ∧ (1 ≤ y ∧ y ≤ 9) ∧ d ≤ 20 from ⟨⟨by assumption, by omega⟩, by omega, by omega⟩), if_pos (show wbOk n b ∧ (1 ≤ y ∧ y ≤ 9) ∧ d ≤ 20 from ⟨⟨by assumption, by omega⟩, by omega, by omega⟩), ← h5, show c = 0 by omega]; rfl)) dX6_advise_48
    · refine ek_top (v' := nI 0) (congrArg nI (if_neg c_16)) ?_
      refine ek_Zeq X (by omega) 43 (by decide) dX6_advise_19 (fun _ => ?_) (fun h => absurd h (by omega))
      refine ek_aln X 0 rfl dX6_advise_43 ?_
      refine ek_ic (v := nI 1) X (by decide) dX6_advise_44 ?_
      refine ek_doWi X (ek_runV (As := [.int (nI 1)]) (rest := []) X (c_X6_no l D cI cJ cR ad ((0, mC m, mP m, mW m, mEar m, mSaid m, mRo m, mTu m)) 1) gX6_advise_X6_no rfl hdV_X6_no ⟨Nat.le_of_ble_eq_true rfl, Nat.le_of_ble_eq_true rfl⟩ ⟨Nat.le_of_ble_eq_true rfl, Nat.le_of_ble_eq_true rfl⟩ [0, 1, 2] rfl (by decide) 0 6 rfl rfl (Nat.le_of_ble_eq_true rfl) dX6_advise_45) [0, 1, 2] [3, 4, 5, 6, 7, 8, 9, 10, 11, 12, 13, 14, 15, 16, 17, 18, 19, 20] rfl rfl (by decide) (by decide) (fun _ => wX ad cI (1, mC m, mP m, mW m, mEar m, mSaid m, mRo m, mTu m) s a) [18, 19, 20, 0, 1, 2, 3, 4, 5, 6, 7, 8, 9, 10, 11, 12, 13, 14, 15, 16, 17] (by decide) (fun _ => rfl) (fun v_45 u_45 hv_45 => ?_)
      subst hv_45
      exact ek_reti X () ⟨_, rfl, (by first | exact (if_neg (show ¬ (wbOk n b ∧ (1 ≤ y ∧ y ≤ 9) ∧ d ≤ 20) from fun h => by have g1 := h.1.1; have g2 := h.1.2; have g3 := h.2; first | contradiction | omega)).symm | (obtain ⟨h1, h4, h5⟩ := ha_60; rw [if_pos (show wbOk n b ∧ (1 ≤ y ∧ y ≤ 9) ∧ d ≤ 20 from ⟨⟨by assumption, by omega⟩, by omega, by omega⟩), ← h5, show c = 0 by omega]; rfl))⟩ (by first | rw [if_neg (show ¬ (wbOk n b ∧ (1 ≤ y ∧ y ≤ 9) ∧ d ≤ 20) from fun h => by have g1 := h.1.1; have g2 := h.1.2; have g3 := h.2; first | contradiction | omega), if_neg (show ¬ (wbOk n b ∧ (1 ≤ y ∧ y ≤ 9) ∧ d ≤ 20) from fun h => by have g1 := h.1.1; have g2 := h.1.2; have g3 := h.2; first | contradiction | omega)] | (obtain ⟨h1, h4, h5⟩ := ha_60; rw [if_pos (show wbOk n b ∧ (1 ≤ y ∧ y ≤ 9) ∧ d ≤ 20 from ⟨⟨by assumption, by omega⟩, by omega, by omega⟩), if_pos (show wbOk n b ∧ (1 ≤ y ∧ y ≤ 9) ∧ d ≤ 20 from ⟨⟨by assumption, by omega⟩, by omega, by omega⟩), ← h5, show c = 0 by omega]; rfl)) dX6_advise_48
  · refine ek_top (v' := nI 0) (congrArg nI (if_neg c_6)) ?_
    refine ek_Zeq X (by omega) 43 (by decide) dX6_advise_9 (fun _ => ?_) (fun h => absurd h (by omega))
    refine ek_aln X 0 rfl dX6_advise_43 ?_
    refine ek_ic (v := nI 1) X (by decide) dX6_advise_44 ?_
    refine ek_doWi X (ek_runV (As := [.int (nI 1)]) (rest := []) X (c_X6_no l D cI cJ cR ad ((0, mC m, mP m, mW m, mEar m, mSaid m, mRo m, mTu m)) 1) gX6_advise_X6_no rfl hdV_X6_no ⟨Nat.le_of_ble_eq_true rfl, Nat.le_of_ble_eq_true rfl⟩ ⟨Nat.le_of_ble_eq_true rfl, Nat.le_of_ble_eq_true rfl⟩ [0, 1, 2] rfl (by decide) 0 6 rfl rfl (Nat.le_of_ble_eq_true rfl) dX6_advise_45) [0, 1, 2] [3, 4, 5, 6, 7, 8, 9, 10, 11, 12, 13, 14, 15, 16, 17, 18, 19, 20] rfl rfl (by decide) (by decide) (fun _ => wX ad cI (1, mC m, mP m, mW m, mEar m, mSaid m, mRo m, mTu m) s a) [18, 19, 20, 0, 1, 2, 3, 4, 5, 6, 7, 8, 9, 10, 11, 12, 13, 14, 15, 16, 17] (by decide) (fun _ => rfl) (fun v_45 u_45 hv_45 => ?_)
    subst hv_45
    exact ek_reti X () ⟨_, rfl, (by first | exact (if_neg (show ¬ (wbOk n b ∧ (1 ≤ y ∧ y ≤ 9) ∧ d ≤ 20) from fun h => by have g1 := h.1.1; have g2 := h.1.2; have g3 := h.2; first | contradiction | omega)).symm | (obtain ⟨h1, h4, h5⟩ := ha_60; rw [if_pos (show wbOk n b ∧ (1 ≤ y ∧ y ≤ 9) ∧ d ≤ 20 from ⟨⟨by assumption, by omega⟩, by omega, by omega⟩), ← h5, show c = 0 by omega]; rfl))⟩ (by first | rw [if_neg (show ¬ (wbOk n b ∧ (1 ≤ y ∧ y ≤ 9) ∧ d ≤ 20) from fun h => by have g1 := h.1.1; have g2 := h.1.2; have g3 := h.2; first | contradiction | omega), if_neg (show ¬ (wbOk n b ∧ (1 ≤ y ∧ y ≤ 9) ∧ d ≤ 20) from fun h => by have g1 := h.1.1; have g2 := h.1.2; have g3 := h.2; first | contradiction | omega)] | (obtain ⟨h1, h4, h5⟩ := ha_60; rw [if_pos (show wbOk n b ∧ (1 ≤ y ∧ y ≤ 9) ∧ d ≤ 20 from ⟨⟨by assumption, by omega⟩, by omega, by omega⟩), if_pos (show wbOk n b ∧ (1 ≤ y ∧ y ≤ 9) ∧ d ≤ 20 from ⟨⟨by assumption, by omega⟩, by omega, by omega⟩), ← h5, show c = 0 by omega]; rfl)) dX6_advise_48
