/-! ===== EchoCaveModel with its two sounds ===== -/
def wX (ad : Nat → Nat) (cI : ClassId) (m : MdlT) (s a : MsnT) : va_W := [
  (ad 50, .inr (6, [.int (nI (mTh m)), .int (nI (mC m)), .int (nI (mP m)), .int (nI (mW m)), .int (nI (mEar m)), .int (nI (mSaid m)), .ref (ad 51), .ref (ad 52), .ref (ad 60), .ref (ad 70)])),
  (ad 51, .inl (cI, 60, .inl (fun j => nI (mRo m j)))),
  (ad 52, .inl (cI, 72, .inl (fun j => nI (mTu m j)))),
  (ad 60, .inr (5, [.int (nI (tWo s)), .int (nI (tPl s)), .int (nI (tRu s)), .int (nI (tK s)), .int (nI (tCt s)), .int (nI (tOr s)), .int (tLa s), .int (nI (tWa s)), .int (nI (tCl s)), .int (tCh s), .int (nI (tWi s)), .int (nI (tLt s)), .ref (ad (60 + 1)), .ref (ad (60 + 2)), .ref (ad (60 + 3)), .ref (ad (60 + 4)), .ref (ad (60 + 5)), .ref (ad (60 + 6)), .ref (ad (60 + 7)), .ref (ad (60 + 8)), .ref (ad 50)])),
  (ad (60 + 1), .inl (cI, 6, .inl (tFi s))),
  (ad (60 + 2), .inl (cI, 300, .inl (fun j => nI (tHe s j)))),
  (ad (60 + 3), .inl (cI, 17, .inl (fun j => nI (tPc s j)))),
  (ad (60 + 4), .inl (cI, 17, .inl (fun j => nI (tSy s j)))),
  (ad (60 + 5), .inl (cI, 17, .inl (fun j => nI (tTh s j)))),
  (ad (60 + 6), .inl (cI, 17, .inl (fun j => nI (tBa s j)))),
  (ad (60 + 7), .inl (cI, 629, .inl (fun j => nI (tOd s j)))),
  (ad (60 + 8), .inl (cI, 629, .inl (fun j => nI (tPw s j)))),
  (ad 70, .inr (5, [.int (nI (tWo a)), .int (nI (tPl a)), .int (nI (tRu a)), .int (nI (tK a)), .int (nI (tCt a)), .int (nI (tOr a)), .int (tLa a), .int (nI (tWa a)), .int (nI (tCl a)), .int (tCh a), .int (nI (tWi a)), .int (nI (tLt a)), .ref (ad (70 + 1)), .ref (ad (70 + 2)), .ref (ad (70 + 3)), .ref (ad (70 + 4)), .ref (ad (70 + 5)), .ref (ad (70 + 6)), .ref (ad (70 + 7)), .ref (ad (70 + 8)), .ref (ad 50)])),
  (ad (70 + 1), .inl (cI, 6, .inl (tFi a))),
  (ad (70 + 2), .inl (cI, 300, .inl (fun j => nI (tHe a j)))),
  (ad (70 + 3), .inl (cI, 17, .inl (fun j => nI (tPc a j)))),
  (ad (70 + 4), .inl (cI, 17, .inl (fun j => nI (tSy a j)))),
  (ad (70 + 5), .inl (cI, 17, .inl (fun j => nI (tTh a j)))),
  (ad (70 + 6), .inl (cI, 17, .inl (fun j => nI (tBa a j)))),
  (ad (70 + 7), .inl (cI, 629, .inl (fun j => nI (tOd a j)))),
  (ad (70 + 8), .inl (cI, 629, .inl (fun j => nI (tPw a j))))]
abbrev tIn (t : MsnT) : Prop := 0 < tPl t ∧ tOr t = tPl t
abbrev wbOk (w b : Nat) : Prop := wdOk w ∧ 1 ≤ b ∧ b ≤ 20
def mSayM (w b : Nat) (m : MdlT) : MdlT := if wbOk w b then (0, mC m, mP m, mW m, mEar m, mSaid m + 1, mRo m, mTu m) else (1, mC m, mP m, mW m, mEar m, mSaid m, mRo m, mTu m)
def mSayS (w b : Nat) (m : MdlT) (s : MsnT) : MsnT := if wbOk w b then tThrough (mThr 0 m) w b s else s
def mQuick (m : MdlT) (n : Nat) : Nat → Nat → MsnT → Int32 × MsnT
  | 0, _, a => (-1, a)
  | f + 1, b, a => if tIn (tThrough m n b a) then (nI b, tThrough m n b a) else mQuick m n f (b + 1) (tThrough m n b a)
def mWould (t : MsnT) (w : Nat) : Int32 := if w = 0 then nI (tCt t) else if w = 1 then nI (if tIn t then 1 else 0) else if w = 2 then tLa t else nI (tRu t)
theorem tBase_thr {m : MdlT} {t : MsnT} (hM : mOk m) (h : tBase t) (h3 : mRo m 3 = 0) {n b : Nat} (hd : wdOk n) : tBase (tThrough m n b t) := tOk_base (tThrough_ok hM h h3 hd).1

theorem hin_X6_say_X5 : ∀ x ∈ wsX50, x ∈ wsX6_say := fun x h => List.mem_cons_of_mem _ (List.mem_append_right _ h)
theorem hin_X6_say_X6 : ∀ x ∈ wsX60, x ∈ wsX6_say := fun x h => List.mem_cons_of_mem _ (List.mem_append_left _ (List.mem_append_right _ h))
abbrev rm_X6_say : Room := { frames := 6, cells := 0, slots := 0, locals := 140 }
set_option maxHeartbeats 4000000 in
set_option maxRecDepth 100000 in
theorem c_X6_say (l : Launch) (D : va_G) (cI cJ cR : ClassId) (ad : Nat → Nat) (m : MdlT) (s a : MsnT) (hM : mOk m) (hT : tBase s) (h3 : mRo m 3 = 0) (n b : Nat) (hn : n < 4294967296) (hb : b < 4294967296) : ek_M (S := Unit) l yX6_say wsX6_say rm_X6_say D (tyW cI cJ cR) nestW [.ref (ad 50), .int (nI n), .int (nI b)] (wX ad cI m s a) (fun r9 _ => ∃ v : Int32, r9 = some (.int v) ∧ v = nI (if wbOk n b then tCt (tThrough (mThr 0 m) n b s) else 0)) (fun _ => wX ad cI (mSayM n b m) (mSayS n b m s) a) := by
  refine ek_M.of (cc := cX6_say) (maxL := 3) (ret := (some .int)) (by decide) rfl (Nat.le_of_ble_eq_true rfl) ?_
  intro p9 e9 s9 m9 args9 below9 meth9 c9 A X hin
  obtain ⟨⟨mC1, mC2⟩, mPs, mWs, mEs, mTs, mSs, mRs, mTl⟩ := id hM
  refine ek_castL (lv' := [(0, .ref (ad 50)), (1, .int (nI n)), (2, .int (nI b))]) rfl ?_
  refine ek_aln X 0 rfl dX6_say_0 ?_
  refine ek_ic (v := nI 0) X (by decide) dX6_say_1 ?_
  refine ek_put (w' := wX ad cI (0, mC m, mP m, mW m, mEar m, mSaid m, mRo m, mTu m) s a) X hin_X6_say_X6 tyX6 tyX6_ok nmX6 0 rfl rfl 0 (by decide) (List.mem_of_getElem? (i := 1) rfl) rfl rfl rfl rfl (Nat.le_of_ble_eq_true rfl) rfl dX6_say_2 ?_
  refine ek_iln X 1 rfl dX6_say_5 ?_
  refine ek_doRi (ek_runS (As := [.int (nI n)]) (rest := []) X (c_X6_isWord l D cI cJ cR n (by omega)) gX6_say_X6_isWord rfl hd_X6_isWord ⟨Nat.le_of_ble_eq_true rfl, Nat.le_of_ble_eq_true rfl⟩ ⟨Nat.le_of_ble_eq_true rfl, Nat.le_of_ble_eq_true rfl⟩ [] rfl (by decide) (Nat.le_of_ble_eq_true rfl) dX6_say_6) (fun v_6 hv_6 => ?_)
  subst hv_6
  by_cases c_6 : wdOk n
  · refine ek_top (v' := nI 1) (congrArg nI (if_pos c_6)) ?_
    refine ek_Zeq X (by omega) 22 (by decide) dX6_say_9 (fun h => absurd h (by omega)) (fun _ => ?_)
    refine ek_iln X 2 rfl dX6_say_12 ?_
    refine ek_ic (v := nI 1) X (by decide) dX6_say_13 ?_
    refine ek_bp (v := nI 20) X (by decide) dX6_say_14 ?_
    refine ek_doRi (ek_runS (As := [.int (nI b), .int (nI 1), .int (nI 20)]) (rest := []) X (c_X6_isInN l D cI cJ cR b 1 20 (by omega) (by omega) (by omega)) gX6_say_X6_isIn rfl hd_X6_isIn ⟨Nat.le_of_ble_eq_true rfl, Nat.le_of_ble_eq_true rfl⟩ ⟨Nat.le_of_ble_eq_true rfl, Nat.le_of_ble_eq_true rfl⟩ [] rfl (by decide) (Nat.le_of_ble_eq_true rfl) dX6_say_16) (fun v_16 hv_16 => ?_)
    subst hv_16
    by_cases c_16 : 1 ≤ b ∧ b ≤ 20
    · refine ek_top (v' := nI 1) (congrArg nI (if_pos c_16)) ?_
      refine ek_Zne X (by omega) 28 (by decide) dX6_say_19 (fun _ => ?_) (fun h => absurd h (by omega))
      refine ek_aln X 0 rfl dX6_say_28 ?_
      refine ek_get X hin_X6_say_X6 0 rfl rfl 8 (by decide) (List.mem_of_getElem? (i := 2) rfl) rfl dX6_say_29 ?_
      refine ek_iln X 1 rfl dX6_say_32 ?_
      refine ek_iln X 2 rfl dX6_say_33 ?_
      refine ek_doWv X (ek_runV (As := [.int (nI n), .int (nI b)]) (rest := []) X (c_X5_say l D cI cJ cR ad 60 ((0, mC m, mP m, mW m, mEar m, mSaid m, mRo m, mTu m)) s (mOk_thr hM) hT h3 n b (by assumption) (by omega)) gX6_say_X5_say rfl hdV_X5_say ⟨Nat.le_of_ble_eq_true rfl, Nat.le_of_ble_eq_true rfl⟩ ⟨Nat.le_of_ble_eq_true rfl, Nat.le_of_ble_eq_true rfl⟩ [3, 4, 5, 6, 7, 8, 9, 10, 11, 0, 1, 2] rfl (by decide) 0 5 rfl rfl (Nat.le_of_ble_eq_true rfl) dX6_say_34) [3, 4, 5, 6, 7, 8, 9, 10, 11, 0, 1, 2] [12, 13, 14, 15, 16, 17, 18, 19, 20] rfl rfl (by decide) (by decide) (fun _ => wX ad cI (0, mC m, mP m, mW m, mEar m, mSaid m, mRo m, mTu m) (tThrough ((0, mC m, mP m, mW m, mEar m, mSaid m, mRo m, mTu m)) n b s) a) [18, 19, 20, 9, 10, 11, 12, 13, 14, 15, 16, 17, 0, 1, 2, 3, 4, 5, 6, 7, 8] (by decide) (fun _ => rfl) (fun u_34 hv_34 => ?_)
      refine ek_aln X 0 rfl dX6_say_37 ?_
      refine ek_dup X rfl dX6_say_38 ?_
      refine ek_get X hin_X6_say_X6 0 rfl rfl 5 (by decide) (List.mem_of_getElem? (i := 3) rfl) rfl dX6_say_39 ?_
      refine ek_top (v' := nI (mSaid m)) rfl ?_
      refine ek_ic (v := nI 1) X (by decide) dX6_say_42 ?_
      refine ek_Nadd X dX6_say_43 ?_
      refine ek_put (w' := wX ad cI (0, mC m, mP m, mW m, mEar m, (mSaid m) + 1, mRo m, mTu m) (tThrough ((0, mC m, mP m, mW m, mEar m, mSaid m, mRo m, mTu m)) n b s) a) X hin_X6_say_X6 tyX6 tyX6_ok nmX6 0 rfl rfl 5 (by decide) (List.mem_of_getElem? (i := 3) rfl) rfl rfl rfl rfl (Nat.le_of_ble_eq_true rfl) rfl dX6_say_44 ?_
      refine ek_aln X 0 rfl dX6_say_47 ?_
      refine ek_get X hin_X6_say_X6 0 rfl rfl 8 (by decide) (List.mem_of_getElem? (i := 2) rfl) rfl dX6_say_48 ?_
      refine ek_getN X hin_X6_say_X5 3 rfl rfl 4 (by decide) (List.mem_of_getElem? (i := 23) rfl) rfl dX6_say_51 ?_
      exact ek_reti X () ⟨_, rfl, (by first | exact (congrArg nI (if_pos ⟨by assumption, by omega⟩)).symm | exact (congrArg nI (if_neg (fun h => by have g1 := h.1; have g2 := h.2; first | contradiction | omega))).symm)⟩ (by unfold mSayM mSayS; first | rw [if_pos (show wbOk n b from ⟨by assumption, by omega⟩), if_pos (show wbOk n b from ⟨by assumption, by omega⟩)] | rw [if_neg (show ¬ wbOk n b from fun h => by have g1 := h.1; have g2 := h.2; first | contradiction | omega), if_neg (show ¬ wbOk n b from fun h => by have g1 := h.1; have g2 := h.2; first | contradiction | omega)]) dX6_say_54
    · refine ek_top (v' := nI 0) (congrArg nI (if_neg c_16)) ?_
      refine ek_Zne X (by omega) 28 (by decide) dX6_say_19 (fun h => absurd h (by omega)) (fun _ => ?_)
      refine ek_aln X 0 rfl dX6_say_22 ?_
      refine ek_ic (v := nI 1) X (by decide) dX6_say_23 ?_
      refine ek_doWi X (ek_runV (As := [.int (nI 1)]) (rest := []) X (c_X6_no l D cI cJ cR ad ((0, mC m, mP m, mW m, mEar m, mSaid m, mRo m, mTu m)) 1) gX6_say_X6_no rfl hdV_X6_no ⟨Nat.le_of_ble_eq_true rfl, Nat.le_of_ble_eq_true rfl⟩ ⟨Nat.le_of_ble_eq_true rfl, Nat.le_of_ble_eq_true rfl⟩ [0, 1, 2] rfl (by decide) 0 6 rfl rfl (Nat.le_of_ble_eq_true rfl) dX6_say_24) [0, 1, 2] [3, 4, 5, 6, 7, 8, 9, 10, 11, 12, 13, 14, 15, 16, 17, 18, 19, 20] rfl rfl (by decide) (by decide) (fun _ => wX ad cI (1, mC m, mP m, mW m, mEar m, mSaid m, mRo m, mTu m) s a) [18, 19, 20, 0, 1, 2, 3, 4, 5, 6, 7, 8, 9, 10, 11, 12, 13, 14, 15, 16, 17] (by decide) (fun _ => rfl) (fun v_24 u_24 hv_24 => ?_)
      subst hv_24
      exact ek_reti X () ⟨_, rfl, (by first | exact (congrArg nI (if_pos ⟨by assumption, by omega⟩)).symm | exact (congrArg nI (if_neg (fun h => by have g1 := h.1; have g2 := h.2; first | contradiction | omega))).symm)⟩ (by unfold mSayM mSayS; first | rw [if_pos (show wbOk n b from ⟨by assumption, by omega⟩), if_pos (show wbOk n b from ⟨by assumption, by omega⟩)] | rw [if_neg (show ¬ wbOk n b from fun h => by have g1 := h.1; have g2 := h.2; first | contradiction | omega), if_neg (show ¬ wbOk n b from fun h => by have g1 := h.1; have g2 := h.2; first | contradiction | omega)]) dX6_say_27
  · refine ek_top (v' := nI 0) (congrArg nI (if_neg c_6)) ?_
    refine ek_Zeq X (by omega) 22 (by decide) dX6_say_9 (fun _ => ?_) (fun h => absurd h (by omega))
    refine ek_aln X 0 rfl dX6_say_22 ?_
    refine ek_ic (v := nI 1) X (by decide) dX6_say_23 ?_
    refine ek_doWi X (ek_runV (As := [.int (nI 1)]) (rest := []) X (c_X6_no l D cI cJ cR ad ((0, mC m, mP m, mW m, mEar m, mSaid m, mRo m, mTu m)) 1) gX6_say_X6_no rfl hdV_X6_no ⟨Nat.le_of_ble_eq_true rfl, Nat.le_of_ble_eq_true rfl⟩ ⟨Nat.le_of_ble_eq_true rfl, Nat.le_of_ble_eq_true rfl⟩ [0, 1, 2] rfl (by decide) 0 6 rfl rfl (Nat.le_of_ble_eq_true rfl) dX6_say_24) [0, 1, 2] [3, 4, 5, 6, 7, 8, 9, 10, 11, 12, 13, 14, 15, 16, 17, 18, 19, 20] rfl rfl (by decide) (by decide) (fun _ => wX ad cI (1, mC m, mP m, mW m, mEar m, mSaid m, mRo m, mTu m) s a) [18, 19, 20, 0, 1, 2, 3, 4, 5, 6, 7, 8, 9, 10, 11, 12, 13, 14, 15, 16, 17] (by decide) (fun _ => rfl) (fun v_24 u_24 hv_24 => ?_)
    subst hv_24
    exact ek_reti X () ⟨_, rfl, (by first | exact (congrArg nI (if_pos ⟨by assumption, by omega⟩)).symm | exact (congrArg nI (if_neg (fun h => by have g1 := h.1; have g2 := h.2; first | contradiction | omega))).symm)⟩ (by unfold mSayM mSayS; first | rw [if_pos (show wbOk n b from ⟨by assumption, by omega⟩), if_pos (show wbOk n b from ⟨by assumption, by omega⟩)] | rw [if_neg (show ¬ wbOk n b from fun h => by have g1 := h.1; have g2 := h.2; first | contradiction | omega), if_neg (show ¬ wbOk n b from fun h => by have g1 := h.1; have g2 := h.2; first | contradiction | omega)]) dX6_say_27

theorem hin_X6_heard_X5 : ∀ x ∈ wsX50, x ∈ wsX6_heard := fun x h => List.mem_cons_of_mem _ (List.mem_append_right _ h)
theorem hin_X6_heard_X6 : ∀ x ∈ wsX60, x ∈ wsX6_heard := fun x h => List.mem_cons_of_mem _ (List.mem_append_left _ (List.mem_append_right _ h))
abbrev rm_X6_heard : Room := { frames := 2, cells := 0, slots := 0, locals := 34 }
set_option maxHeartbeats 4000000 in
set_option maxRecDepth 100000 in
theorem c_X6_heard (l : Launch) (D : va_G) (cI cJ cR : ClassId) (ad : Nat → Nat) (m : MdlT) (s a : MsnT) (hM : mOk m) (hT : tBase s) (i w9 : Nat) (hi : i < 4294967296) (hw : w9 < 4294967296) : ek_M (S := Unit) l yX6_heard wsX6_heard rm_X6_heard D (tyW cI cJ cR) nestW [.ref (ad 50), .int (nI i), .int (nI w9)] (wX ad cI m s a) (fun r9 _ => ∃ v : Int32, r9 = some (.int v) ∧ v = nI (if i < tK s ∧ w9 ≤ 4 then tHe s (5 * i + w9) else 0)) (fun _ => wX ad cI (mThr (if i < tK s ∧ w9 ≤ 4 then 0 else 1) m) s a) := by
  refine ek_M.of (cc := cX6_heard) (maxL := 3) (ret := (some .int)) (by decide) rfl (Nat.le_of_ble_eq_true rfl) ?_
  intro p9 e9 s9 m9 args9 below9 meth9 c9 A X hin
  obtain ⟨⟨mC1, mC2⟩, mPs, mWs, mEs, mTs, mSs, mRs, mTl⟩ := id hM
  have htk := hT.2.2.2.2.2.2.1.1
  refine ek_castL (lv' := [(0, .ref (ad 50)), (1, .int (nI i)), (2, .int (nI w9))]) rfl ?_
  refine ek_aln X 0 rfl dX6_heard_0 ?_
  refine ek_ic (v := nI 0) X (by decide) dX6_heard_1 ?_
  refine ek_put (w' := wX ad cI (0, mC m, mP m, mW m, mEar m, mSaid m, mRo m, mTu m) s a) X hin_X6_heard_X6 tyX6 tyX6_ok nmX6 0 rfl rfl 0 (by decide) (List.mem_of_getElem? (i := 1) rfl) rfl rfl rfl rfl (Nat.le_of_ble_eq_true rfl) rfl dX6_heard_2 ?_
  refine ek_iln X 1 rfl dX6_heard_5 ?_
  refine ek_ic (v := nI 0) X (by decide) dX6_heard_6 ?_
  refine ek_aln X 0 rfl dX6_heard_7 ?_
  refine ek_get X hin_X6_heard_X6 0 rfl rfl 8 (by decide) (List.mem_of_getElem? (i := 2) rfl) rfl dX6_heard_8 ?_
  refine ek_getN X hin_X6_heard_X5 3 rfl rfl 3 (by decide) (List.mem_of_getElem? (i := 22) rfl) rfl dX6_heard_11 ?_
  refine ek_ic (v := nI 1) X (by decide) dX6_heard_14 ?_
  refine ek_sub X dX6_heard_15 ?_
  refine ek_doRi (ek_runS (As := [.int (nI i), .int (nI 0), .int ((nI (tK s)) - (nI 1))]) (rest := []) X (c_X6_isInB l D cI cJ cR i (tK s) (by omega) (by omega)) gX6_heard_X6_isIn rfl hd_X6_isIn ⟨Nat.le_of_ble_eq_true rfl, Nat.le_of_ble_eq_true rfl⟩ ⟨Nat.le_of_ble_eq_true rfl, Nat.le_of_ble_eq_true rfl⟩ [] rfl (by decide) (Nat.le_of_ble_eq_true rfl) dX6_heard_16) (fun v_16 hv_16 => ?_)
  subst hv_16
  by_cases c_16 : i < tK s
  · refine ek_top (v' := nI 1) (congrArg nI (if_pos c_16)) ?_
    refine ek_Zeq X (by omega) 47 (by decide) dX6_heard_19 (fun h => absurd h (by omega)) (fun _ => ?_)
    refine ek_iln X 2 rfl dX6_heard_22 ?_
    refine ek_ic (v := nI 0) X (by decide) dX6_heard_23 ?_
    refine ek_ic (v := nI 4) X (by decide) dX6_heard_24 ?_
    refine ek_doRi (ek_runS (As := [.int (nI w9), .int (nI 0), .int (nI 4)]) (rest := []) X (c_X6_isInN l D cI cJ cR w9 0 4 (by omega) (by omega) (by omega)) gX6_heard_X6_isIn rfl hd_X6_isIn ⟨Nat.le_of_ble_eq_true rfl, Nat.le_of_ble_eq_true rfl⟩ ⟨Nat.le_of_ble_eq_true rfl, Nat.le_of_ble_eq_true rfl⟩ [] rfl (by decide) (Nat.le_of_ble_eq_true rfl) dX6_heard_25) (fun v_25 hv_25 => ?_)
    subst hv_25
    by_cases c_25 : 0 ≤ w9 ∧ w9 ≤ 4
    · refine ek_top (v' := nI 1) (congrArg nI (if_pos c_25)) ?_
      refine ek_Zeq X (by omega) 47 (by decide) dX6_heard_28 (fun h => absurd h (by omega)) (fun _ => ?_)
      refine ek_aln X 0 rfl dX6_heard_31 ?_
      refine ek_get X hin_X6_heard_X6 0 rfl rfl 8 (by decide) (List.mem_of_getElem? (i := 2) rfl) rfl dX6_heard_32 ?_
      refine ek_getN X hin_X6_heard_X5 3 rfl rfl 13 (by decide) (List.mem_of_getElem? (i := 26) rfl) rfl dX6_heard_35 ?_
      refine ek_ic (v := nI 5) X (by decide) dX6_heard_38 ?_
      refine ek_iln X 1 rfl dX6_heard_39 ?_
      refine ek_Nmul X dX6_heard_40 ?_
      refine ek_iln X 2 rfl dX6_heard_41 ?_
      refine ek_Nadd X dX6_heard_42 ?_
      refine ek_ald X 5 0 rfl rfl (by omega) (by omega) dX6_heard_43 ?_
      refine ek_goto X 52 (by decide) dX6_heard_44 ?_
      exact ek_reti X () ⟨_, rfl, (by first | exact (congrArg nI (if_pos (by omega))).symm | exact (congrArg nI (if_neg (by omega))).symm)⟩ (by first | (exfalso; omega) | rw [if_pos (show i < tK s ∧ w9 ≤ 4 by omega)] | rw [if_neg (show ¬ (i < tK s ∧ w9 ≤ 4) by omega)]) dX6_heard_52
    · refine ek_top (v' := nI 0) (congrArg nI (if_neg c_25)) ?_
      refine ek_Zeq X (by omega) 47 (by decide) dX6_heard_28 (fun _ => ?_) (fun h => absurd h (by omega))
      refine ek_aln X 0 rfl dX6_heard_47 ?_
      refine ek_ic (v := nI 1) X (by decide) dX6_heard_48 ?_
      refine ek_doWi X (ek_runV (As := [.int (nI 1)]) (rest := []) X (c_X6_no l D cI cJ cR ad ((0, mC m, mP m, mW m, mEar m, mSaid m, mRo m, mTu m)) 1) gX6_heard_X6_no rfl hdV_X6_no ⟨Nat.le_of_ble_eq_true rfl, Nat.le_of_ble_eq_true rfl⟩ ⟨Nat.le_of_ble_eq_true rfl, Nat.le_of_ble_eq_true rfl⟩ [0, 1, 2] rfl (by decide) 0 6 rfl rfl (Nat.le_of_ble_eq_true rfl) dX6_heard_49) [0, 1, 2] [3, 4, 5, 6, 7, 8, 9, 10, 11, 12, 13, 14, 15, 16, 17, 18, 19, 20] rfl rfl (by decide) (by decide) (fun _ => wX ad cI (1, mC m, mP m, mW m, mEar m, mSaid m, mRo m, mTu m) s a) [18, 19, 20, 0, 1, 2, 3, 4, 5, 6, 7, 8, 9, 10, 11, 12, 13, 14, 15, 16, 17] (by decide) (fun _ => rfl) (fun v_49 u_49 hv_49 => ?_)
      subst hv_49
      exact ek_reti X () ⟨_, rfl, (by first | exact (congrArg nI (if_pos (by omega))).symm | exact (congrArg nI (if_neg (by omega))).symm)⟩ (by first | (exfalso; omega) | rw [if_pos (show i < tK s ∧ w9 ≤ 4 by omega)] | rw [if_neg (show ¬ (i < tK s ∧ w9 ≤ 4) by omega)]) dX6_heard_52
  · refine ek_top (v' := nI 0) (congrArg nI (if_neg c_16)) ?_
    refine ek_Zeq X (by omega) 47 (by decide) dX6_heard_19 (fun _ => ?_) (fun h => absurd h (by omega))
    refine ek_aln X 0 rfl dX6_heard_47 ?_
    refine ek_ic (v := nI 1) X (by decide) dX6_heard_48 ?_
    refine ek_doWi X (ek_runV (As := [.int (nI 1)]) (rest := []) X (c_X6_no l D cI cJ cR ad ((0, mC m, mP m, mW m, mEar m, mSaid m, mRo m, mTu m)) 1) gX6_heard_X6_no rfl hdV_X6_no ⟨Nat.le_of_ble_eq_true rfl, Nat.le_of_ble_eq_true rfl⟩ ⟨Nat.le_of_ble_eq_true rfl, Nat.le_of_ble_eq_true rfl⟩ [0, 1, 2] rfl (by decide) 0 6 rfl rfl (Nat.le_of_ble_eq_true rfl) dX6_heard_49) [0, 1, 2] [3, 4, 5, 6, 7, 8, 9, 10, 11, 12, 13, 14, 15, 16, 17, 18, 19, 20] rfl rfl (by decide) (by decide) (fun _ => wX ad cI (1, mC m, mP m, mW m, mEar m, mSaid m, mRo m, mTu m) s a) [18, 19, 20, 0, 1, 2, 3, 4, 5, 6, 7, 8, 9, 10, 11, 12, 13, 14, 15, 16, 17] (by decide) (fun _ => rfl) (fun v_49 u_49 hv_49 => ?_)
    subst hv_49
    exact ek_reti X () ⟨_, rfl, (by first | exact (congrArg nI (if_pos (by omega))).symm | exact (congrArg nI (if_neg (by omega))).symm)⟩ (by first | (exfalso; omega) | rw [if_pos (show i < tK s ∧ w9 ≤ 4 by omega)] | rw [if_neg (show ¬ (i < tK s ∧ w9 ≤ 4) by omega)]) dX6_heard_52

theorem hin_X6_inOrder_X6 : ∀ x ∈ wsX60, x ∈ wsX6_inOrder := fun x h => List.mem_cons_of_mem _ (List.mem_append_left _ (List.mem_append_right _ h))
abbrev rm_X6_inOrder : Room := { frames := 2, cells := 0, slots := 0, locals := 32 }
set_option maxHeartbeats 4000000 in
set_option maxRecDepth 100000 in
theorem c_X6_inOrder (l : Launch) (D : va_G) (cI cJ cR : ClassId) (ad : Nat → Nat) (m : MdlT) (s a : MsnT) (hM : mOk m) (hT : tBase s) : ek_M (S := Unit) l yX6_inOrder wsX6_inOrder rm_X6_inOrder D (tyW cI cJ cR) nestW [.ref (ad 50)] (wX ad cI m s a) (fun r9 _ => ∃ v : Int32, r9 = some (.int v) ∧ v = nI (if tIn s then 1 else 0)) (fun _ => wX ad cI (mThr 0 m) s a) := by
  refine ek_M.of (cc := cX6_inOrder) (maxL := 1) (ret := (some .boolean)) (by decide) rfl (Nat.le_of_ble_eq_true rfl) ?_
  intro p9 e9 s9 m9 args9 below9 meth9 c9 A X hin
  obtain ⟨⟨mC1, mC2⟩, mPs, mWs, mEs, mTs, mSs, mRs, mTl⟩ := id hM
  refine ek_castL (lv' := [(0, .ref (ad 50))]) rfl ?_
  refine ek_aln X 0 rfl dX6_inOrder_0 ?_
  refine ek_ic (v := nI 0) X (by decide) dX6_inOrder_1 ?_
  refine ek_put (w' := wX ad cI (0, mC m, mP m, mW m, mEar m, mSaid m, mRo m, mTu m) s a) X hin_X6_inOrder_X6 tyX6 tyX6_ok nmX6 0 rfl rfl 0 (by decide) (List.mem_of_getElem? (i := 1) rfl) rfl rfl rfl rfl (Nat.le_of_ble_eq_true rfl) rfl dX6_inOrder_2 ?_
  refine ek_aln X 0 rfl dX6_inOrder_5 ?_
  refine ek_get X hin_X6_inOrder_X6 0 rfl rfl 8 (by decide) (List.mem_of_getElem? (i := 2) rfl) rfl dX6_inOrder_6 ?_
  refine ek_doRi (ek_runV (As := []) (rest := []) X (c_X5_isInOrder l D cI cJ cR ad 60 ((0, mC m, mP m, mW m, mEar m, mSaid m, mRo m, mTu m)) s (mOk_thr hM) hT) gX6_inOrder_X5_isInOrder rfl hdV_X5_isInOrder ⟨Nat.le_of_ble_eq_true rfl, Nat.le_of_ble_eq_true rfl⟩ ⟨Nat.le_of_ble_eq_true rfl, Nat.le_of_ble_eq_true rfl⟩ [3, 4, 5, 6, 7, 8, 9, 10, 11, 0, 1, 2] rfl (by decide) 0 5 rfl rfl (Nat.le_of_ble_eq_true rfl) dX6_inOrder_9) (fun v_9 hv_9 => ?_)
  subst hv_9
  by_cases c_9 : tIn s
  · refine ek_top (v' := nI 1) (congrArg nI (if_pos c_9)) ?_
    exact ek_retz X () (by decide) ⟨_, rfl, (by first | exact (congrArg nI (if_pos (by assumption))).symm | exact (congrArg nI (if_neg (by assumption))).symm)⟩ rfl dX6_inOrder_12
  · refine ek_top (v' := nI 0) (congrArg nI (if_neg c_9)) ?_
    exact ek_retz X () (by decide) ⟨_, rfl, (by first | exact (congrArg nI (if_pos (by assumption))).symm | exact (congrArg nI (if_neg (by assumption))).symm)⟩ rfl dX6_inOrder_12

theorem hin_X6_first_X5 : ∀ x ∈ wsX50, x ∈ wsX6_first := fun x h => List.mem_cons_of_mem _ (List.mem_append_right _ h)
theorem hin_X6_first_X6 : ∀ x ∈ wsX60, x ∈ wsX6_first := fun x h => List.mem_cons_of_mem _ (List.mem_append_left _ (List.mem_append_right _ h))
abbrev rm_X6_first : Room := { frames := 2, cells := 0, slots := 0, locals := 34 }
set_option maxHeartbeats 4000000 in
set_option maxRecDepth 100000 in
theorem c_X6_first (l : Launch) (D : va_G) (cI cJ cR : ClassId) (ad : Nat → Nat) (m : MdlT) (s a : MsnT) (hM : mOk m) (hT : tBase s) (i : Nat) (hi : i < 4294967296) : ek_M (S := Unit) l yX6_first wsX6_first rm_X6_first D (tyW cI cJ cR) nestW [.ref (ad 50), .int (nI i)] (wX ad cI m s a) (fun r9 _ => ∃ v : Int32, r9 = some (.int v) ∧ v = (if i < tPl s then tFi s i else nI 0)) (fun _ => wX ad cI (mThr (if i < tPl s then 0 else 1) m) s a) := by
  refine ek_M.of (cc := cX6_first) (maxL := 2) (ret := (some .int)) (by decide) rfl (Nat.le_of_ble_eq_true rfl) ?_
  intro p9 e9 s9 m9 args9 below9 meth9 c9 A X hin
  obtain ⟨⟨mC1, mC2⟩, mPs, mWs, mEs, mTs, mSs, mRs, mTl⟩ := id hM
  have htp : tPl s ≤ 6 := hT.2.2.2.2.2.2.2.2.2.2
  refine ek_castL (lv' := [(0, .ref (ad 50)), (1, .int (nI i))]) rfl ?_
  refine ek_aln X 0 rfl dX6_first_0 ?_
  refine ek_ic (v := nI 0) X (by decide) dX6_first_1 ?_
  refine ek_put (w' := wX ad cI (0, mC m, mP m, mW m, mEar m, mSaid m, mRo m, mTu m) s a) X hin_X6_first_X6 tyX6 tyX6_ok nmX6 0 rfl rfl 0 (by decide) (List.mem_of_getElem? (i := 1) rfl) rfl rfl rfl rfl (Nat.le_of_ble_eq_true rfl) rfl dX6_first_2 ?_
  refine ek_iln X 1 rfl dX6_first_5 ?_
  refine ek_ic (v := nI 0) X (by decide) dX6_first_6 ?_
  refine ek_aln X 0 rfl dX6_first_7 ?_
  refine ek_get X hin_X6_first_X6 0 rfl rfl 8 (by decide) (List.mem_of_getElem? (i := 2) rfl) rfl dX6_first_8 ?_
  refine ek_getN X hin_X6_first_X5 3 rfl rfl 1 (by decide) (List.mem_of_getElem? (i := 20) rfl) rfl dX6_first_11 ?_
  refine ek_ic (v := nI 1) X (by decide) dX6_first_14 ?_
  refine ek_sub X dX6_first_15 ?_
  refine ek_doRi (ek_runS (As := [.int (nI i), .int (nI 0), .int ((nI (tPl s)) - (nI 1))]) (rest := []) X (c_X6_isInB l D cI cJ cR i (tPl s) (by omega) (by omega)) gX6_first_X6_isIn rfl hd_X6_isIn ⟨Nat.le_of_ble_eq_true rfl, Nat.le_of_ble_eq_true rfl⟩ ⟨Nat.le_of_ble_eq_true rfl, Nat.le_of_ble_eq_true rfl⟩ [] rfl (by decide) (Nat.le_of_ble_eq_true rfl) dX6_first_16) (fun v_16 hv_16 => ?_)
  subst hv_16
  by_cases c_16 : i < tPl s
  · refine ek_top (v' := nI 1) (congrArg nI (if_pos c_16)) ?_
    refine ek_Zeq X (by omega) 34 (by decide) dX6_first_19 (fun h => absurd h (by omega)) (fun _ => ?_)
    refine ek_aln X 0 rfl dX6_first_22 ?_
    refine ek_get X hin_X6_first_X6 0 rfl rfl 8 (by decide) (List.mem_of_getElem? (i := 2) rfl) rfl dX6_first_23 ?_
    refine ek_getN X hin_X6_first_X5 3 rfl rfl 12 (by decide) (List.mem_of_getElem? (i := 25) rfl) rfl dX6_first_26 ?_
    refine ek_iln X 1 rfl dX6_first_29 ?_
    refine ek_ald X 4 0 rfl rfl (by omega) (by omega) dX6_first_30 ?_
    refine ek_goto X 39 (by decide) dX6_first_31 ?_
    exact ek_reti X () ⟨_, rfl, (by first | exact (if_pos (by omega)).symm | exact (if_neg (by omega)).symm)⟩ (by first | (exfalso; omega) | rw [if_pos (show i < tPl s by omega)] | rw [if_neg (show ¬ i < tPl s by omega)]) dX6_first_39
  · refine ek_top (v' := nI 0) (congrArg nI (if_neg c_16)) ?_
    refine ek_Zeq X (by omega) 34 (by decide) dX6_first_19 (fun _ => ?_) (fun h => absurd h (by omega))
    refine ek_aln X 0 rfl dX6_first_34 ?_
    refine ek_ic (v := nI 1) X (by decide) dX6_first_35 ?_
    refine ek_doWi X (ek_runV (As := [.int (nI 1)]) (rest := []) X (c_X6_no l D cI cJ cR ad ((0, mC m, mP m, mW m, mEar m, mSaid m, mRo m, mTu m)) 1) gX6_first_X6_no rfl hdV_X6_no ⟨Nat.le_of_ble_eq_true rfl, Nat.le_of_ble_eq_true rfl⟩ ⟨Nat.le_of_ble_eq_true rfl, Nat.le_of_ble_eq_true rfl⟩ [0, 1, 2] rfl (by decide) 0 6 rfl rfl (Nat.le_of_ble_eq_true rfl) dX6_first_36) [0, 1, 2] [3, 4, 5, 6, 7, 8, 9, 10, 11, 12, 13, 14, 15, 16, 17, 18, 19, 20] rfl rfl (by decide) (by decide) (fun _ => wX ad cI (1, mC m, mP m, mW m, mEar m, mSaid m, mRo m, mTu m) s a) [18, 19, 20, 0, 1, 2, 3, 4, 5, 6, 7, 8, 9, 10, 11, 12, 13, 14, 15, 16, 17] (by decide) (fun _ => rfl) (fun v_36 u_36 hv_36 => ?_)
    subst hv_36
    exact ek_reti X () ⟨_, rfl, (by first | exact (if_pos (by omega)).symm | exact (if_neg (by omega)).symm)⟩ (by first | (exfalso; omega) | rw [if_pos (show i < tPl s by omega)] | rw [if_neg (show ¬ i < tPl s by omega)]) dX6_first_39

theorem hin_X6_comes_X6 : ∀ x ∈ wsX60, x ∈ wsX6_comes := fun x h => List.mem_cons_of_mem _ (List.mem_append_left _ (List.mem_append_right _ h))
abbrev rm_X6_comes : Room := { frames := 6, cells := 0, slots := 0, locals := 140 }
set_option maxHeartbeats 4000000 in
set_option maxRecDepth 100000 in
theorem c_X6_comes (l : Launch) (D : va_G) (cI cJ cR : ClassId) (ad : Nat → Nat) (m : MdlT) (s a : MsnT) (hM : mOk m) (hT : tBase a) (h3 : mRo m 3 = 0) (n b : Nat) (hd : wdOk n) (hb : b ≤ 20) : ek_M (S := Unit) l yX6_comes wsX6_comes rm_X6_comes D (tyW cI cJ cR) nestW [.ref (ad 50), .int (nI n), .int (nI b)] (wX ad cI m s a) (fun r9 _ => ∃ v : Int32, r9 = some (.int v) ∧ v = nI (if tIn (tThrough m n b a) then 1 else 0)) (fun _ => wX ad cI m s (tThrough m n b a)) := by
  refine ek_M.of (cc := cX6_comes) (maxL := 3) (ret := (some .boolean)) (by decide) rfl (Nat.le_of_ble_eq_true rfl) ?_
  intro p9 e9 s9 m9 args9 below9 meth9 c9 A X hin
  obtain ⟨⟨mC1, mC2⟩, mPs, mWs, mEs, mTs, mSs, mRs, mTl⟩ := id hM
  refine ek_castL (lv' := [(0, .ref (ad 50)), (1, .int (nI n)), (2, .int (nI b))]) rfl ?_
  refine ek_aln X 0 rfl dX6_comes_0 ?_
  refine ek_get X hin_X6_comes_X6 0 rfl rfl 9 (by decide) (List.mem_of_getElem? (i := 1) rfl) rfl dX6_comes_1 ?_
  refine ek_iln X 1 rfl dX6_comes_4 ?_
  refine ek_iln X 2 rfl dX6_comes_5 ?_
  refine ek_doWv X (ek_runV (As := [.int (nI n), .int (nI b)]) (rest := []) X (c_X5_say l D cI cJ cR ad 70 m a hM hT h3 n b hd hb) gX6_comes_X5_say rfl hdV_X5_say ⟨Nat.le_of_ble_eq_true rfl, Nat.le_of_ble_eq_true rfl⟩ ⟨Nat.le_of_ble_eq_true rfl, Nat.le_of_ble_eq_true rfl⟩ [12, 13, 14, 15, 16, 17, 18, 19, 20, 0, 1, 2] rfl (by decide) 0 5 rfl rfl (Nat.le_of_ble_eq_true rfl) dX6_comes_6) [12, 13, 14, 15, 16, 17, 18, 19, 20, 0, 1, 2] [3, 4, 5, 6, 7, 8, 9, 10, 11] rfl rfl (by decide) (by decide) (fun _ => wX ad cI m s (tThrough m n b a)) [18, 19, 20, 0, 1, 2, 3, 4, 5, 6, 7, 8, 9, 10, 11, 12, 13, 14, 15, 16, 17] (by decide) (fun _ => rfl) (fun u_6 hv_6 => ?_)
  refine ek_aln X 0 rfl dX6_comes_9 ?_
  refine ek_get X hin_X6_comes_X6 0 rfl rfl 9 (by decide) (List.mem_of_getElem? (i := 1) rfl) rfl dX6_comes_10 ?_
  refine ek_doRi (ek_runV (As := []) (rest := []) X (c_X5_isInOrder l D cI cJ cR ad 70 m ((tThrough m n b a)) hM (tBase_thr hM hT h3 hd)) gX6_comes_X5_isInOrder rfl hdV_X5_isInOrder ⟨Nat.le_of_ble_eq_true rfl, Nat.le_of_ble_eq_true rfl⟩ ⟨Nat.le_of_ble_eq_true rfl, Nat.le_of_ble_eq_true rfl⟩ [12, 13, 14, 15, 16, 17, 18, 19, 20, 0, 1, 2] rfl (by decide) 0 5 rfl rfl (Nat.le_of_ble_eq_true rfl) dX6_comes_13) (fun v_13 hv_13 => ?_)
  subst hv_13
  by_cases c_13 : tIn ((tThrough m n b a))
  · refine ek_top (v' := nI 1) (congrArg nI (if_pos c_13)) ?_
    exact ek_retz X () (by decide) ⟨_, rfl, (by first | exact (congrArg nI (if_pos (by assumption))).symm | exact (congrArg nI (if_neg (by assumption))).symm)⟩ rfl dX6_comes_16
  · refine ek_top (v' := nI 0) (congrArg nI (if_neg c_13)) ?_
    exact ek_retz X () (by decide) ⟨_, rfl, (by first | exact (congrArg nI (if_pos (by assumption))).symm | exact (congrArg nI (if_neg (by assumption))).symm)⟩ rfl dX6_comes_16

theorem hin_X6_would_X5 : ∀ x ∈ wsX50, x ∈ wsX6_would := fun x h => List.mem_cons_of_mem _ (List.mem_append_right _ h)
theorem hin_X6_would_X6 : ∀ x ∈ wsX60, x ∈ wsX6_would := fun x h => List.mem_cons_of_mem _ (List.mem_append_left _ (List.mem_append_right _ h))
abbrev rm_X6_would : Room := { frames := 7, cells := 0, slots := 0, locals := 162 }
set_option maxHeartbeats 4000000 in
set_option maxRecDepth 100000 in
theorem c_X6_would (l : Launch) (D : va_G) (cI cJ cR : ClassId) (ad : Nat → Nat) (m : MdlT) (s a : MsnT) (hM : mOk m) (hT : tBase a) (h3 : mRo m 3 = 0) (n b w9 : Nat) (hn : n < 4294967296) (hb : b < 4294967296) (hw : w9 < 4294967296) : ek_M (S := Unit) l yX6_would wsX6_would rm_X6_would D (tyW cI cJ cR) nestW [.ref (ad 50), .int (nI n), .int (nI b), .int (nI w9)] (wX ad cI m s a) (fun r9 _ => ∃ v : Int32, r9 = some (.int v) ∧ v = (if wbOk n b ∧ w9 ≤ 3 then mWould (tThrough (mThr 0 m) n b a) w9 else nI 0)) (fun _ => wX ad cI (mThr (if wbOk n b then (if w9 ≤ 3 then 0 else 2) else 1) m) s (if wbOk n b ∧ w9 ≤ 3 then tThrough (mThr 0 m) n b a else a)) := by
  refine ek_M.of (cc := cX6_would) (maxL := 5) (ret := (some .int)) (by decide) rfl (Nat.le_of_ble_eq_true rfl) ?_
  intro p9 e9 s9 m9 args9 below9 meth9 c9 A X hin
  obtain ⟨⟨mC1, mC2⟩, mPs, mWs, mEs, mTs, mSs, mRs, mTl⟩ := id hM
  refine ek_castL (lv' := [(0, .ref (ad 50)), (1, .int (nI n)), (2, .int (nI b)), (3, .int (nI w9))]) rfl ?_
  refine ek_aln X 0 rfl dX6_would_0 ?_
  refine ek_ic (v := nI 0) X (by decide) dX6_would_1 ?_
  refine ek_put (w' := wX ad cI (0, mC m, mP m, mW m, mEar m, mSaid m, mRo m, mTu m) s a) X hin_X6_would_X6 tyX6 tyX6_ok nmX6 0 rfl rfl 0 (by decide) (List.mem_of_getElem? (i := 1) rfl) rfl rfl rfl rfl (Nat.le_of_ble_eq_true rfl) rfl dX6_would_2 ?_
  refine ek_iln X 1 rfl dX6_would_5 ?_
  refine ek_doRi (ek_runS (As := [.int (nI n)]) (rest := []) X (c_X6_isWord l D cI cJ cR n (by omega)) gX6_would_X6_isWord rfl hd_X6_isWord ⟨Nat.le_of_ble_eq_true rfl, Nat.le_of_ble_eq_true rfl⟩ ⟨Nat.le_of_ble_eq_true rfl, Nat.le_of_ble_eq_true rfl⟩ [] rfl (by decide) (Nat.le_of_ble_eq_true rfl) dX6_would_6) (fun v_6 hv_6 => ?_)
  subst hv_6
  by_cases c_6 : wdOk n
  · refine ek_top (v' := nI 1) (congrArg nI (if_pos c_6)) ?_
    refine ek_Zeq X (by omega) 22 (by decide) dX6_would_9 (fun h => absurd h (by omega)) (fun _ => ?_)
    refine ek_iln X 2 rfl dX6_would_12 ?_
    refine ek_ic (v := nI 1) X (by decide) dX6_would_13 ?_
    refine ek_bp (v := nI 20) X (by decide) dX6_would_14 ?_
    refine ek_doRi (ek_runS (As := [.int (nI b), .int (nI 1), .int (nI 20)]) (rest := []) X (c_X6_isInN l D cI cJ cR b 1 20 (by omega) (by omega) (by omega)) gX6_would_X6_isIn rfl hd_X6_isIn ⟨Nat.le_of_ble_eq_true rfl, Nat.le_of_ble_eq_true rfl⟩ ⟨Nat.le_of_ble_eq_true rfl, Nat.le_of_ble_eq_true rfl⟩ [] rfl (by decide) (Nat.le_of_ble_eq_true rfl) dX6_would_16) (fun v_16 hv_16 => ?_)
    subst hv_16
    by_cases c_16 : 1 ≤ b ∧ b ≤ 20
    · refine ek_top (v' := nI 1) (congrArg nI (if_pos c_16)) ?_
      refine ek_Zne X (by omega) 28 (by decide) dX6_would_19 (fun _ => ?_) (fun h => absurd h (by omega))
      refine ek_iln X 3 rfl dX6_would_28 ?_
      refine ek_ic (v := nI 0) X (by decide) dX6_would_29 ?_
      refine ek_ic (v := nI 3) X (by decide) dX6_would_30 ?_
      refine ek_doRi (ek_runS (As := [.int (nI w9), .int (nI 0), .int (nI 3)]) (rest := []) X (c_X6_isInN l D cI cJ cR w9 0 3 (by omega) (by omega) (by omega)) gX6_would_X6_isIn rfl hd_X6_isIn ⟨Nat.le_of_ble_eq_true rfl, Nat.le_of_ble_eq_true rfl⟩ ⟨Nat.le_of_ble_eq_true rfl, Nat.le_of_ble_eq_true rfl⟩ [] rfl (by decide) (Nat.le_of_ble_eq_true rfl) dX6_would_31) (fun v_31 hv_31 => ?_)
      subst hv_31
      by_cases c_31 : 0 ≤ w9 ∧ w9 ≤ 3
      · refine ek_top (v' := nI 1) (congrArg nI (if_pos c_31)) ?_
        refine ek_Zne X (by omega) 43 (by decide) dX6_would_34 (fun _ => ?_) (fun h => absurd h (by omega))
        refine ek_aln X 0 rfl dX6_would_43 ?_
        refine ek_iln X 1 rfl dX6_would_44 ?_
        refine ek_iln X 2 rfl dX6_would_45 ?_
        refine ek_doWi X (ek_runV (As := [.int (nI n), .int (nI b)]) (rest := []) X (c_X6_comes l D cI cJ cR ad ((0, mC m, mP m, mW m, mEar m, mSaid m, mRo m, mTu m)) s a (mOk_thr hM) hT h3 n b (by assumption) (by omega)) gX6_would_X6_comes rfl hdV_X6_comes ⟨Nat.le_of_ble_eq_true rfl, Nat.le_of_ble_eq_true rfl⟩ ⟨Nat.le_of_ble_eq_true rfl, Nat.le_of_ble_eq_true rfl⟩ [0, 1, 2, 3, 4, 5, 6, 7, 8, 9, 10, 11, 12, 13, 14, 15, 16, 17, 18, 19, 20] rfl (by decide) 0 6 rfl rfl (Nat.le_of_ble_eq_true rfl) dX6_would_46) [0, 1, 2, 3, 4, 5, 6, 7, 8, 9, 10, 11, 12, 13, 14, 15, 16, 17, 18, 19, 20] [] rfl rfl (by decide) (by decide) (fun _ => wX ad cI (0, mC m, mP m, mW m, mEar m, mSaid m, mRo m, mTu m) s (tThrough ((0, mC m, mP m, mW m, mEar m, mSaid m, mRo m, mTu m)) n b a)) [0, 1, 2, 3, 4, 5, 6, 7, 8, 9, 10, 11, 12, 13, 14, 15, 16, 17, 18, 19, 20] (by decide) (fun _ => rfl) (fun v_46 u_46 hv_46 => ?_)
        subst hv_46
        by_cases c_46 : tIn (tThrough ((0, mC m, mP m, mW m, mEar m, mSaid m, mRo m, mTu m)) n b a)
        · refine ek_top (v' := nI 1) (congrArg nI (if_pos c_46)) ?_
          refine ek_is (lv' := [(4, .int (nI 1)), (0, .ref (ad 50)), (1, .int (nI n)), (2, .int (nI b)), (3, .int (nI w9))]) X (by decide) rfl dX6_would_49 ?_
          refine ek_iln X 4 rfl dX6_would_51 ?_
          rcases (show w9 = 0 ∨ w9 = 1 ∨ w9 = 2 ∨ 2 < w9 by omega) with rfl | rfl | rfl | c_52
          · refine ek_tsN X 80 (by decide) (by decide) rfl (by decide) dX6_would_52 ?_
            refine ek_aln X 1 rfl dX6_would_80 ?_
            refine ek_get X hin_X6_would_X6 0 rfl rfl 9 (by decide) (List.mem_of_getElem? (i := 2) rfl) rfl dX6_would_81 ?_
            refine ek_getN X hin_X6_would_X5 12 rfl rfl 4 (by decide) (List.mem_of_getElem? (i := 23) rfl) rfl dX6_would_84 ?_
            exact ek_reti X () ⟨_, rfl, (by first | (rw [if_pos (show wbOk n b ∧ _ from ⟨⟨by assumption, by omega⟩, by omega⟩)]; first | rfl | exact (congrArg nI (if_pos (by assumption))).symm | exact (congrArg nI (if_neg (by assumption))).symm | (unfold mWould; rw [if_neg (by omega), if_neg (by omega), if_neg (by omega)])) | exact (if_neg (show ¬ (wbOk n b ∧ w9 ≤ 3) from fun h => by have g1 := h.1; have g2 := g1.1; have g3 := h.2; first | contradiction | omega)).symm)⟩ (by first | rw [if_pos (show wbOk n b ∧ _ from ⟨⟨by assumption, by omega⟩, by omega⟩), if_pos (show wbOk n b from ⟨by assumption, by omega⟩), if_pos (by omega)] | (rw [if_neg (show ¬ (wbOk n b ∧ w9 ≤ 3) from fun h => by have g1 := h.1; have g2 := g1.1; have g3 := h.2; first | contradiction | omega)]; first | rw [if_pos (show wbOk n b from ⟨by assumption, by omega⟩), if_neg (by omega)] | rw [if_neg (show ¬ wbOk n b from fun h => by have g1 := h.1; have g2 := h.2; first | contradiction | omega)])) dX6_would_87
          · refine ek_tsN X 88 (by decide) (by decide) rfl (by decide) dX6_would_52 ?_
            refine ek_il X 0 rfl dX6_would_88 ?_
            refine ek_Zeq X (by omega) 97 (by decide) dX6_would_90 (fun h => absurd h (by omega)) (fun _ => ?_)
            refine ek_ic (v := nI 1) X (by decide) dX6_would_93 ?_
            refine ek_goto X 98 (by decide) dX6_would_94 ?_
            exact ek_reti X () ⟨_, rfl, (by first | (rw [if_pos (show wbOk n b ∧ _ from ⟨⟨by assumption, by omega⟩, by omega⟩)]; first | rfl | exact (congrArg nI (if_pos (by assumption))).symm | exact (congrArg nI (if_neg (by assumption))).symm | (unfold mWould; rw [if_neg (by omega), if_neg (by omega), if_neg (by omega)])) | exact (if_neg (show ¬ (wbOk n b ∧ w9 ≤ 3) from fun h => by have g1 := h.1; have g2 := g1.1; have g3 := h.2; first | contradiction | omega)).symm)⟩ (by first | rw [if_pos (show wbOk n b ∧ _ from ⟨⟨by assumption, by omega⟩, by omega⟩), if_pos (show wbOk n b from ⟨by assumption, by omega⟩), if_pos (by omega)] | (rw [if_neg (show ¬ (wbOk n b ∧ w9 ≤ 3) from fun h => by have g1 := h.1; have g2 := g1.1; have g3 := h.2; first | contradiction | omega)]; first | rw [if_pos (show wbOk n b from ⟨by assumption, by omega⟩), if_neg (by omega)] | rw [if_neg (show ¬ wbOk n b from fun h => by have g1 := h.1; have g2 := h.2; first | contradiction | omega)])) dX6_would_98
          · refine ek_tsN X 99 (by decide) (by decide) rfl (by decide) dX6_would_52 ?_
            refine ek_aln X 1 rfl dX6_would_99 ?_
            refine ek_get X hin_X6_would_X6 0 rfl rfl 9 (by decide) (List.mem_of_getElem? (i := 2) rfl) rfl dX6_would_100 ?_
            refine ek_getN X hin_X6_would_X5 12 rfl rfl 6 (by decide) (List.mem_of_getElem? (i := 24) rfl) rfl dX6_would_103 ?_
            exact ek_reti X () ⟨_, rfl, (by first | (rw [if_pos (show wbOk n b ∧ _ from ⟨⟨by assumption, by omega⟩, by omega⟩)]; first | rfl | exact (congrArg nI (if_pos (by assumption))).symm | exact (congrArg nI (if_neg (by assumption))).symm | (unfold mWould; rw [if_neg (by omega), if_neg (by omega), if_neg (by omega)])) | exact (if_neg (show ¬ (wbOk n b ∧ w9 ≤ 3) from fun h => by have g1 := h.1; have g2 := g1.1; have g3 := h.2; first | contradiction | omega)).symm)⟩ (by first | rw [if_pos (show wbOk n b ∧ _ from ⟨⟨by assumption, by omega⟩, by omega⟩), if_pos (show wbOk n b from ⟨by assumption, by omega⟩), if_pos (by omega)] | (rw [if_neg (show ¬ (wbOk n b ∧ w9 ≤ 3) from fun h => by have g1 := h.1; have g2 := g1.1; have g3 := h.2; first | contradiction | omega)]; first | rw [if_pos (show wbOk n b from ⟨by assumption, by omega⟩), if_neg (by omega)] | rw [if_neg (show ¬ wbOk n b from fun h => by have g1 := h.1; have g2 := h.2; first | contradiction | omega)])) dX6_would_106
          · refine ek_tsO X 107 (by omega) (by omega) (by decide) dX6_would_52 ?_
            refine ek_aln X 1 rfl dX6_would_107 ?_
            refine ek_get X hin_X6_would_X6 0 rfl rfl 9 (by decide) (List.mem_of_getElem? (i := 2) rfl) rfl dX6_would_108 ?_
            refine ek_getN X hin_X6_would_X5 12 rfl rfl 2 (by decide) (List.mem_of_getElem? (i := 21) rfl) rfl dX6_would_111 ?_
            exact ek_reti X () ⟨_, rfl, (by first | (rw [if_pos (show wbOk n b ∧ _ from ⟨⟨by assumption, by omega⟩, by omega⟩)]; first | rfl | exact (congrArg nI (if_pos (by assumption))).symm | exact (congrArg nI (if_neg (by assumption))).symm | (unfold mWould; rw [if_neg (by omega), if_neg (by omega), if_neg (by omega)])) | exact (if_neg (show ¬ (wbOk n b ∧ w9 ≤ 3) from fun h => by have g1 := h.1; have g2 := g1.1; have g3 := h.2; first | contradiction | omega)).symm)⟩ (by first | rw [if_pos (show wbOk n b ∧ _ from ⟨⟨by assumption, by omega⟩, by omega⟩), if_pos (show wbOk n b from ⟨by assumption, by omega⟩), if_pos (by omega)] | (rw [if_neg (show ¬ (wbOk n b ∧ w9 ≤ 3) from fun h => by have g1 := h.1; have g2 := g1.1; have g3 := h.2; first | contradiction | omega)]; first | rw [if_pos (show wbOk n b from ⟨by assumption, by omega⟩), if_neg (by omega)] | rw [if_neg (show ¬ wbOk n b from fun h => by have g1 := h.1; have g2 := h.2; first | contradiction | omega)])) dX6_would_114
        · refine ek_top (v' := nI 0) (congrArg nI (if_neg c_46)) ?_
          refine ek_is (lv' := [(4, .int (nI 0)), (0, .ref (ad 50)), (1, .int (nI n)), (2, .int (nI b)), (3, .int (nI w9))]) X (by decide) rfl dX6_would_49 ?_
          refine ek_iln X 4 rfl dX6_would_51 ?_
          rcases (show w9 = 0 ∨ w9 = 1 ∨ w9 = 2 ∨ 2 < w9 by omega) with rfl | rfl | rfl | c_52
          · refine ek_tsN X 80 (by decide) (by decide) rfl (by decide) dX6_would_52 ?_
            refine ek_aln X 1 rfl dX6_would_80 ?_
            refine ek_get X hin_X6_would_X6 0 rfl rfl 9 (by decide) (List.mem_of_getElem? (i := 2) rfl) rfl dX6_would_81 ?_
            refine ek_getN X hin_X6_would_X5 12 rfl rfl 4 (by decide) (List.mem_of_getElem? (i := 23) rfl) rfl dX6_would_84 ?_
            exact ek_reti X () ⟨_, rfl, (by first | (rw [if_pos (show wbOk n b ∧ _ from ⟨⟨by assumption, by omega⟩, by omega⟩)]; first | rfl | exact (congrArg nI (if_pos (by assumption))).symm | exact (congrArg nI (if_neg (by assumption))).symm | (unfold mWould; rw [if_neg (by omega), if_neg (by omega), if_neg (by omega)])) | exact (if_neg (show ¬ (wbOk n b ∧ w9 ≤ 3) from fun h => by have g1 := h.1; have g2 := g1.1; have g3 := h.2; first | contradiction | omega)).symm)⟩ (by first | rw [if_pos (show wbOk n b ∧ _ from ⟨⟨by assumption, by omega⟩, by omega⟩), if_pos (show wbOk n b from ⟨by assumption, by omega⟩), if_pos (by omega)] | (rw [if_neg (show ¬ (wbOk n b ∧ w9 ≤ 3) from fun h => by have g1 := h.1; have g2 := g1.1; have g3 := h.2; first | contradiction | omega)]; first | rw [if_pos (show wbOk n b from ⟨by assumption, by omega⟩), if_neg (by omega)] | rw [if_neg (show ¬ wbOk n b from fun h => by have g1 := h.1; have g2 := h.2; first | contradiction | omega)])) dX6_would_87
          · refine ek_tsN X 88 (by decide) (by decide) rfl (by decide) dX6_would_52 ?_
            refine ek_il X 0 rfl dX6_would_88 ?_
            refine ek_Zeq X (by omega) 97 (by decide) dX6_would_90 (fun _ => ?_) (fun h => absurd h (by omega))
            refine ek_ic (v := nI 0) X (by decide) dX6_would_97 ?_
            exact ek_reti X () ⟨_, rfl, (by first | (rw [if_pos (show wbOk n b ∧ _ from ⟨⟨by assumption, by omega⟩, by omega⟩)]; first | rfl | exact (congrArg nI (if_pos (by assumption))).symm | exact (congrArg nI (if_neg (by assumption))).symm | (unfold mWould; rw [if_neg (by omega), if_neg (by omega), if_neg (by omega)])) | exact (if_neg (show ¬ (wbOk n b ∧ w9 ≤ 3) from fun h => by have g1 := h.1; have g2 := g1.1; have g3 := h.2; first | contradiction | omega)).symm)⟩ (by first | rw [if_pos (show wbOk n b ∧ _ from ⟨⟨by assumption, by omega⟩, by omega⟩), if_pos (show wbOk n b from ⟨by assumption, by omega⟩), if_pos (by omega)] | (rw [if_neg (show ¬ (wbOk n b ∧ w9 ≤ 3) from fun h => by have g1 := h.1; have g2 := g1.1; have g3 := h.2; first | contradiction | omega)]; first | rw [if_pos (show wbOk n b from ⟨by assumption, by omega⟩), if_neg (by omega)] | rw [if_neg (show ¬ wbOk n b from fun h => by have g1 := h.1; have g2 := h.2; first | contradiction | omega)])) dX6_would_98
          · refine ek_tsN X 99 (by decide) (by decide) rfl (by decide) dX6_would_52 ?_
            refine ek_aln X 1 rfl dX6_would_99 ?_
            refine ek_get X hin_X6_would_X6 0 rfl rfl 9 (by decide) (List.mem_of_getElem? (i := 2) rfl) rfl dX6_would_100 ?_
            refine ek_getN X hin_X6_would_X5 12 rfl rfl 6 (by decide) (List.mem_of_getElem? (i := 24) rfl) rfl dX6_would_103 ?_
            exact ek_reti X () ⟨_, rfl, (by first | (rw [if_pos (show wbOk n b ∧ _ from ⟨⟨by assumption, by omega⟩, by omega⟩)]; first | rfl | exact (congrArg nI (if_pos (by assumption))).symm | exact (congrArg nI (if_neg (by assumption))).symm | (unfold mWould; rw [if_neg (by omega), if_neg (by omega), if_neg (by omega)])) | exact (if_neg (show ¬ (wbOk n b ∧ w9 ≤ 3) from fun h => by have g1 := h.1; have g2 := g1.1; have g3 := h.2; first | contradiction | omega)).symm)⟩ (by first | rw [if_pos (show wbOk n b ∧ _ from ⟨⟨by assumption, by omega⟩, by omega⟩), if_pos (show wbOk n b from ⟨by assumption, by omega⟩), if_pos (by omega)] | (rw [if_neg (show ¬ (wbOk n b ∧ w9 ≤ 3) from fun h => by have g1 := h.1; have g2 := g1.1; have g3 := h.2; first | contradiction | omega)]; first | rw [if_pos (show wbOk n b from ⟨by assumption, by omega⟩), if_neg (by omega)] | rw [if_neg (show ¬ wbOk n b from fun h => by have g1 := h.1; have g2 := h.2; first | contradiction | omega)])) dX6_would_106
          · refine ek_tsO X 107 (by omega) (by omega) (by decide) dX6_would_52 ?_
            refine ek_aln X 1 rfl dX6_would_107 ?_
            refine ek_get X hin_X6_would_X6 0 rfl rfl 9 (by decide) (List.mem_of_getElem? (i := 2) rfl) rfl dX6_would_108 ?_
            refine ek_getN X hin_X6_would_X5 12 rfl rfl 2 (by decide) (List.mem_of_getElem? (i := 21) rfl) rfl dX6_would_111 ?_
            exact ek_reti X () ⟨_, rfl, (by first | (rw [if_pos (show wbOk n b ∧ _ from ⟨⟨by assumption, by omega⟩, by omega⟩)]; first | rfl | exact (congrArg nI (if_pos (by assumption))).symm | exact (congrArg nI (if_neg (by assumption))).symm | (unfold mWould; rw [if_neg (by omega), if_neg (by omega), if_neg (by omega)])) | exact (if_neg (show ¬ (wbOk n b ∧ w9 ≤ 3) from fun h => by have g1 := h.1; have g2 := g1.1; have g3 := h.2; first | contradiction | omega)).symm)⟩ (by first | rw [if_pos (show wbOk n b ∧ _ from ⟨⟨by assumption, by omega⟩, by omega⟩), if_pos (show wbOk n b from ⟨by assumption, by omega⟩), if_pos (by omega)] | (rw [if_neg (show ¬ (wbOk n b ∧ w9 ≤ 3) from fun h => by have g1 := h.1; have g2 := g1.1; have g3 := h.2; first | contradiction | omega)]; first | rw [if_pos (show wbOk n b from ⟨by assumption, by omega⟩), if_neg (by omega)] | rw [if_neg (show ¬ wbOk n b from fun h => by have g1 := h.1; have g2 := h.2; first | contradiction | omega)])) dX6_would_114
      · refine ek_top (v' := nI 0) (congrArg nI (if_neg c_31)) ?_
        refine ek_Zne X (by omega) 43 (by decide) dX6_would_34 (fun h => absurd h (by omega)) (fun _ => ?_)
        refine ek_aln X 0 rfl dX6_would_37 ?_
        refine ek_ic (v := nI 2) X (by decide) dX6_would_38 ?_
        refine ek_doWi X (ek_runV (As := [.int (nI 2)]) (rest := []) X (c_X6_no l D cI cJ cR ad ((0, mC m, mP m, mW m, mEar m, mSaid m, mRo m, mTu m)) 2) gX6_would_X6_no rfl hdV_X6_no ⟨Nat.le_of_ble_eq_true rfl, Nat.le_of_ble_eq_true rfl⟩ ⟨Nat.le_of_ble_eq_true rfl, Nat.le_of_ble_eq_true rfl⟩ [0, 1, 2] rfl (by decide) 0 6 rfl rfl (Nat.le_of_ble_eq_true rfl) dX6_would_39) [0, 1, 2] [3, 4, 5, 6, 7, 8, 9, 10, 11, 12, 13, 14, 15, 16, 17, 18, 19, 20] rfl rfl (by decide) (by decide) (fun _ => wX ad cI (2, mC m, mP m, mW m, mEar m, mSaid m, mRo m, mTu m) s a) [18, 19, 20, 0, 1, 2, 3, 4, 5, 6, 7, 8, 9, 10, 11, 12, 13, 14, 15, 16, 17] (by decide) (fun _ => rfl) (fun v_39 u_39 hv_39 => ?_)
        subst hv_39
        exact ek_reti X () ⟨_, rfl, (by first | (rw [if_pos (show wbOk n b ∧ _ from ⟨⟨by assumption, by omega⟩, by omega⟩)]; first | rfl | exact (congrArg nI (if_pos (by assumption))).symm | exact (congrArg nI (if_neg (by assumption))).symm | (unfold mWould; rw [if_neg (by omega), if_neg (by omega), if_neg (by omega)])) | exact (if_neg (show ¬ (wbOk n b ∧ w9 ≤ 3) from fun h => by have g1 := h.1; have g2 := g1.1; have g3 := h.2; first | contradiction | omega)).symm)⟩ (by first | rw [if_pos (show wbOk n b ∧ _ from ⟨⟨by assumption, by omega⟩, by omega⟩), if_pos (show wbOk n b from ⟨by assumption, by omega⟩), if_pos (by omega)] | (rw [if_neg (show ¬ (wbOk n b ∧ w9 ≤ 3) from fun h => by have g1 := h.1; have g2 := g1.1; have g3 := h.2; first | contradiction | omega)]; first | rw [if_pos (show wbOk n b from ⟨by assumption, by omega⟩), if_neg (by omega)] | rw [if_neg (show ¬ wbOk n b from fun h => by have g1 := h.1; have g2 := h.2; first | contradiction | omega)])) dX6_would_42
    · refine ek_top (v' := nI 0) (congrArg nI (if_neg c_16)) ?_
      refine ek_Zne X (by omega) 28 (by decide) dX6_would_19 (fun h => absurd h (by omega)) (fun _ => ?_)
      refine ek_aln X 0 rfl dX6_would_22 ?_
      refine ek_ic (v := nI 1) X (by decide) dX6_would_23 ?_
      refine ek_doWi X (ek_runV (As := [.int (nI 1)]) (rest := []) X (c_X6_no l D cI cJ cR ad ((0, mC m, mP m, mW m, mEar m, mSaid m, mRo m, mTu m)) 1) gX6_would_X6_no rfl hdV_X6_no ⟨Nat.le_of_ble_eq_true rfl, Nat.le_of_ble_eq_true rfl⟩ ⟨Nat.le_of_ble_eq_true rfl, Nat.le_of_ble_eq_true rfl⟩ [0, 1, 2] rfl (by decide) 0 6 rfl rfl (Nat.le_of_ble_eq_true rfl) dX6_would_24) [0, 1, 2] [3, 4, 5, 6, 7, 8, 9, 10, 11, 12, 13, 14, 15, 16, 17, 18, 19, 20] rfl rfl (by decide) (by decide) (fun _ => wX ad cI (1, mC m, mP m, mW m, mEar m, mSaid m, mRo m, mTu m) s a) [18, 19, 20, 0, 1, 2, 3, 4, 5, 6, 7, 8, 9, 10, 11, 12, 13, 14, 15, 16, 17] (by decide) (fun _ => rfl) (fun v_24 u_24 hv_24 => ?_)
      subst hv_24
      exact ek_reti X () ⟨_, rfl, (by first | (rw [if_pos (show wbOk n b ∧ _ from ⟨⟨by assumption, by omega⟩, by omega⟩)]; first | rfl | exact (congrArg nI (if_pos (by assumption))).symm | exact (congrArg nI (if_neg (by assumption))).symm | (unfold mWould; rw [if_neg (by omega), if_neg (by omega), if_neg (by omega)])) | exact (if_neg (show ¬ (wbOk n b ∧ w9 ≤ 3) from fun h => by have g1 := h.1; have g2 := g1.1; have g3 := h.2; first | contradiction | omega)).symm)⟩ (by first | rw [if_pos (show wbOk n b ∧ _ from ⟨⟨by assumption, by omega⟩, by omega⟩), if_pos (show wbOk n b from ⟨by assumption, by omega⟩), if_pos (by omega)] | (rw [if_neg (show ¬ (wbOk n b ∧ w9 ≤ 3) from fun h => by have g1 := h.1; have g2 := g1.1; have g3 := h.2; first | contradiction | omega)]; first | rw [if_pos (show wbOk n b from ⟨by assumption, by omega⟩), if_neg (by omega)] | rw [if_neg (show ¬ wbOk n b from fun h => by have g1 := h.1; have g2 := h.2; first | contradiction | omega)])) dX6_would_27
  · refine ek_top (v' := nI 0) (congrArg nI (if_neg c_6)) ?_
    refine ek_Zeq X (by omega) 22 (by decide) dX6_would_9 (fun _ => ?_) (fun h => absurd h (by omega))
    refine ek_aln X 0 rfl dX6_would_22 ?_
    refine ek_ic (v := nI 1) X (by decide) dX6_would_23 ?_
    refine ek_doWi X (ek_runV (As := [.int (nI 1)]) (rest := []) X (c_X6_no l D cI cJ cR ad ((0, mC m, mP m, mW m, mEar m, mSaid m, mRo m, mTu m)) 1) gX6_would_X6_no rfl hdV_X6_no ⟨Nat.le_of_ble_eq_true rfl, Nat.le_of_ble_eq_true rfl⟩ ⟨Nat.le_of_ble_eq_true rfl, Nat.le_of_ble_eq_true rfl⟩ [0, 1, 2] rfl (by decide) 0 6 rfl rfl (Nat.le_of_ble_eq_true rfl) dX6_would_24) [0, 1, 2] [3, 4, 5, 6, 7, 8, 9, 10, 11, 12, 13, 14, 15, 16, 17, 18, 19, 20] rfl rfl (by decide) (by decide) (fun _ => wX ad cI (1, mC m, mP m, mW m, mEar m, mSaid m, mRo m, mTu m) s a) [18, 19, 20, 0, 1, 2, 3, 4, 5, 6, 7, 8, 9, 10, 11, 12, 13, 14, 15, 16, 17] (by decide) (fun _ => rfl) (fun v_24 u_24 hv_24 => ?_)
    subst hv_24
    exact ek_reti X () ⟨_, rfl, (by first | (rw [if_pos (show wbOk n b ∧ _ from ⟨⟨by assumption, by omega⟩, by omega⟩)]; first | rfl | exact (congrArg nI (if_pos (by assumption))).symm | exact (congrArg nI (if_neg (by assumption))).symm | (unfold mWould; rw [if_neg (by omega), if_neg (by omega), if_neg (by omega)])) | exact (if_neg (show ¬ (wbOk n b ∧ w9 ≤ 3) from fun h => by have g1 := h.1; have g2 := g1.1; have g3 := h.2; first | contradiction | omega)).symm)⟩ (by first | rw [if_pos (show wbOk n b ∧ _ from ⟨⟨by assumption, by omega⟩, by omega⟩), if_pos (show wbOk n b from ⟨by assumption, by omega⟩), if_pos (by omega)] | (rw [if_neg (show ¬ (wbOk n b ∧ w9 ≤ 3) from fun h => by have g1 := h.1; have g2 := g1.1; have g3 := h.2; first | contradiction | omega)]; first | rw [if_pos (show wbOk n b from ⟨by assumption, by omega⟩), if_neg (by omega)] | rw [if_neg (show ¬ wbOk n b from fun h => by have g1 := h.1; have g2 := h.2; first | contradiction | omega)])) dX6_would_27

theorem hin_X6_quickest_X6 : ∀ x ∈ wsX60, x ∈ wsX6_quickest := fun x h => List.mem_cons_of_mem _ (List.mem_append_left _ (List.mem_append_right _ h))
abbrev rm_X6_quickest : Room := { frames := 7, cells := 0, slots := 0, locals := 162 }
set_option maxHeartbeats 4000000 in
set_option maxRecDepth 100000 in
theorem c_X6_quickest (l : Launch) (D : va_G) (cI cJ cR : ClassId) (ad : Nat → Nat) (m : MdlT) (s a : MsnT) (hM : mOk m) (hT : tBase a) (h3 : mRo m 3 = 0) (n : Nat) (hn : n < 4294967296) : ek_M (S := Unit) l yX6_quickest wsX6_quickest rm_X6_quickest D (tyW cI cJ cR) nestW [.ref (ad 50), .int (nI n)] (wX ad cI m s a) (fun r9 _ => ∃ v : Int32, r9 = some (.int v) ∧ v = (if wdOk n then (mQuick (mThr 0 m) n 20 1 a).1 else nI 0)) (fun _ => wX ad cI (mThr (if wdOk n then 0 else 1) m) s (if wdOk n then (mQuick (mThr 0 m) n 20 1 a).2 else a)) := by
  refine ek_M.of (cc := cX6_quickest) (maxL := 3) (ret := (some .int)) (by decide) rfl (Nat.le_of_ble_eq_true rfl) ?_
  intro p9 e9 s9 m9 args9 below9 meth9 c9 A X hin
  obtain ⟨⟨mC1, mC2⟩, mPs, mWs, mEs, mTs, mSs, mRs, mTl⟩ := id hM
  refine ek_castL (lv' := [(0, .ref (ad 50)), (1, .int (nI n))]) rfl ?_
  refine ek_aln X 0 rfl dX6_quickest_0 ?_
  refine ek_ic (v := nI 0) X (by decide) dX6_quickest_1 ?_
  refine ek_put (w' := wX ad cI (0, mC m, mP m, mW m, mEar m, mSaid m, mRo m, mTu m) s a) X hin_X6_quickest_X6 tyX6 tyX6_ok nmX6 0 rfl rfl 0 (by decide) (List.mem_of_getElem? (i := 1) rfl) rfl rfl rfl rfl (Nat.le_of_ble_eq_true rfl) rfl dX6_quickest_2 ?_
  refine ek_iln X 1 rfl dX6_quickest_5 ?_
  refine ek_doRi (ek_runS (As := [.int (nI n)]) (rest := []) X (c_X6_isWord l D cI cJ cR n (by omega)) gX6_quickest_X6_isWord rfl hd_X6_isWord ⟨Nat.le_of_ble_eq_true rfl, Nat.le_of_ble_eq_true rfl⟩ ⟨Nat.le_of_ble_eq_true rfl, Nat.le_of_ble_eq_true rfl⟩ [] rfl (by decide) (Nat.le_of_ble_eq_true rfl) dX6_quickest_6) (fun v_6 hv_6 => ?_)
  subst hv_6
  by_cases c_6 : wdOk n
  · refine ek_top (v' := nI 1) (congrArg nI (if_pos c_6)) ?_
    refine ek_Zne X (by omega) 18 (by decide) dX6_quickest_9 (fun _ => ?_) (fun h => absurd h (by omega))
    refine ek_ic (v := nI 1) X (by decide) dX6_quickest_18 ?_
    refine ek_isn (lv' := [(2, .int (nI 1)), (0, .ref (ad 50)), (1, .int (nI n))]) X (by decide) rfl dX6_quickest_19 ?_
    refine ek_loopAt (σ := Nat × MsnT) (fun zz => (fun (b : Nat) (a1 : MsnT) => 1 ≤ b ∧ b ≤ 21 ∧ tBase a1 ∧ mQuick (mThr 0 m) n (21 - b) b a1 = mQuick (mThr 0 m) n 20 1 a) zz.1 zz.2) (fun zz => (fun (b : Nat) (a1 : MsnT) => 21 - b) zz.1 zz.2) (fun zz => (fun (b : Nat) (a1 : MsnT) => wX ad cI (0, mC m, mP m, mW m, mEar m, mSaid m, mRo m, mTu m) s a1) zz.1 zz.2) (fun zz => (fun (b : Nat) (a1 : MsnT) => [(0, .ref (ad 50)), (1, .int (nI n)), (2, .int (nI b))]) zz.1 zz.2) ?_ (1, a) ⟨by omega, by omega, hT, rfl⟩ rfl [1, 2, 0] rfl
    intro zz ha_20 ih_20
    obtain ⟨b, a1⟩ := zz
    replace ha_20 : 1 ≤ b ∧ b ≤ 21 ∧ tBase a1 ∧ mQuick (mThr 0 m) n (21 - b) b a1 = mQuick (mThr 0 m) n 20 1 a := ha_20
    refine ek_cast (w' := wX ad cI (0, mC m, mP m, mW m, mEar m, mSaid m, mRo m, mTu m) s a1) rfl ?_
    refine ek_castL (lv' := [(0, .ref (ad 50)), (1, .int (nI n)), (2, .int (nI b))]) rfl ?_
    refine ek_iln X 2 rfl dX6_quickest_20 ?_
    refine ek_bp (v := nI 20) X (by decide) dX6_quickest_21 ?_
    refine ek_Ngt X (by omega) (by omega) 43 (by decide) dX6_quickest_23 (fun c_23 => ?_) (fun c_23 => ?_)
    · skip
      refine ek_ic (v := -1) X (by decide) dX6_quickest_43 ?_
      exact ek_reti X () ⟨_, rfl, (by obtain ⟨h1, h2, h4, h5⟩ := ha_20; rw [if_pos (by assumption), ← h5, show 21 - b = 0 by omega]; rfl)⟩ (by obtain ⟨h1, h2, h4, h5⟩ := ha_20; rw [if_pos (by assumption), if_pos (by assumption), ← h5, show 21 - b = 0 by omega]; rfl) dX6_quickest_44
    · skip
      refine ek_aln X 0 rfl dX6_quickest_26 ?_
      refine ek_iln X 1 rfl dX6_quickest_27 ?_
      refine ek_iln X 2 rfl dX6_quickest_28 ?_
      refine ek_doWi X (ek_runV (As := [.int (nI n), .int (nI b)]) (rest := []) X (c_X6_comes l D cI cJ cR ad ((0, mC m, mP m, mW m, mEar m, mSaid m, mRo m, mTu m)) s a1 (mOk_thr hM) ha_20.2.2.1 h3 n b (by assumption) (by omega)) gX6_quickest_X6_comes rfl hdV_X6_comes ⟨Nat.le_of_ble_eq_true rfl, Nat.le_of_ble_eq_true rfl⟩ ⟨Nat.le_of_ble_eq_true rfl, Nat.le_of_ble_eq_true rfl⟩ [0, 1, 2, 3, 4, 5, 6, 7, 8, 9, 10, 11, 12, 13, 14, 15, 16, 17, 18, 19, 20] rfl (by decide) 0 6 rfl rfl (Nat.le_of_ble_eq_true rfl) dX6_quickest_29) [0, 1, 2, 3, 4, 5, 6, 7, 8, 9, 10, 11, 12, 13, 14, 15, 16, 17, 18, 19, 20] [] rfl rfl (by decide) (by decide) (fun _ => wX ad cI (0, mC m, mP m, mW m, mEar m, mSaid m, mRo m, mTu m) s (tThrough ((0, mC m, mP m, mW m, mEar m, mSaid m, mRo m, mTu m)) n b a1)) [0, 1, 2, 3, 4, 5, 6, 7, 8, 9, 10, 11, 12, 13, 14, 15, 16, 17, 18, 19, 20] (by decide) (fun _ => rfl) (fun v_29 u_29 hv_29 => ?_)
      subst hv_29
      by_cases c_29 : tIn (tThrough ((0, mC m, mP m, mW m, mEar m, mSaid m, mRo m, mTu m)) n b a1)
      · refine ek_top (v' := nI 1) (congrArg nI (if_pos c_29)) ?_
        refine ek_Zeq X (by omega) 37 (by decide) dX6_quickest_32 (fun h => absurd h (by omega)) (fun _ => ?_)
        refine ek_iln X 2 rfl dX6_quickest_35 ?_
        exact ek_reti X () ⟨_, rfl, (by obtain ⟨h1, h2, h4, h5⟩ := ha_20; rw [if_pos (by assumption), ← h5, show 21 - b = (20 - b) + 1 by omega]; rw [show mQuick (mThr 0 m) n ((20 - b) + 1) b a1 = (nI b, tThrough (mThr 0 m) n b a1) from if_pos (by assumption)])⟩ (by obtain ⟨h1, h2, h4, h5⟩ := ha_20; rw [if_pos (by assumption), if_pos (by assumption), ← h5, show 21 - b = (20 - b) + 1 by omega]; rw [show mQuick (mThr 0 m) n ((20 - b) + 1) b a1 = (nI b, tThrough (mThr 0 m) n b a1) from if_pos (by assumption)]) dX6_quickest_36
      · refine ek_top (v' := nI 0) (congrArg nI (if_neg c_29)) ?_
        refine ek_Zeq X (by omega) 37 (by decide) dX6_quickest_32 (fun _ => ?_) (fun h => absurd h (by omega))
        refine ek_Ninc (j := 2) (d := 1) (lv' := [(2, .int (nI (b + 1))), (0, .ref (ad 50)), (1, .int (nI n))]) X rfl (by decide) rfl dX6_quickest_37 ?_
        refine ek_goto X 20 (by decide) dX6_quickest_40 ?_
        refine ek_re [1, 2, 0] rfl ?_
        exact ih_20 (b + 1, (tThrough ((0, mC m, mP m, mW m, mEar m, mSaid m, mRo m, mTu m)) n b a1)) (show 1 ≤ (b + 1) ∧ (b + 1) ≤ 21 ∧ tBase ((tThrough ((0, mC m, mP m, mW m, mEar m, mSaid m, mRo m, mTu m)) n b a1)) ∧ mQuick (mThr 0 m) n (21 - (b + 1)) (b + 1) ((tThrough ((0, mC m, mP m, mW m, mEar m, mSaid m, mRo m, mTu m)) n b a1)) = mQuick (mThr 0 m) n 20 1 a from (by obtain ⟨h1, h2, h4, h5⟩ := ha_20; refine ⟨by omega, by omega, tBase_thr (mOk_thr hM) h4 h3 (by assumption), ?_⟩; rw [← h5, show 21 - b = (21 - (b + 1)) + 1 by omega]; exact (if_neg (by assumption)).symm)) (by show 21 - (b + 1) < 21 - b; omega)
  · refine ek_top (v' := nI 0) (congrArg nI (if_neg c_6)) ?_
    refine ek_Zne X (by omega) 18 (by decide) dX6_quickest_9 (fun h => absurd h (by omega)) (fun _ => ?_)
    refine ek_aln X 0 rfl dX6_quickest_12 ?_
    refine ek_ic (v := nI 1) X (by decide) dX6_quickest_13 ?_
    refine ek_doWi X (ek_runV (As := [.int (nI 1)]) (rest := []) X (c_X6_no l D cI cJ cR ad ((0, mC m, mP m, mW m, mEar m, mSaid m, mRo m, mTu m)) 1) gX6_quickest_X6_no rfl hdV_X6_no ⟨Nat.le_of_ble_eq_true rfl, Nat.le_of_ble_eq_true rfl⟩ ⟨Nat.le_of_ble_eq_true rfl, Nat.le_of_ble_eq_true rfl⟩ [0, 1, 2] rfl (by decide) 0 6 rfl rfl (Nat.le_of_ble_eq_true rfl) dX6_quickest_14) [0, 1, 2] [3, 4, 5, 6, 7, 8, 9, 10, 11, 12, 13, 14, 15, 16, 17, 18, 19, 20] rfl rfl (by decide) (by decide) (fun _ => wX ad cI (1, mC m, mP m, mW m, mEar m, mSaid m, mRo m, mTu m) s a) [18, 19, 20, 0, 1, 2, 3, 4, 5, 6, 7, 8, 9, 10, 11, 12, 13, 14, 15, 16, 17] (by decide) (fun _ => rfl) (fun v_14 u_14 hv_14 => ?_)
    subst hv_14
    exact ek_reti X () ⟨_, rfl, (if_neg (by assumption)).symm⟩ (by rw [if_neg (by assumption), if_neg (by assumption)]) dX6_quickest_17
