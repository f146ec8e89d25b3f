/-! ===== pure facts: the two caves stay alike ===== -/
theorem mTc_eq {m m' : MdlT} (h : mTu m = mTu m') (c : Nat) : ∀ n, mTc m c n = mTc m' c n
  | 0 => rfl
  | n + 1 => by
    show mTc m c n + (if mTu m (4 * n) = c ∨ mTu m (4 * n + 1) = c then 1 else 0) = mTc m' c n + (if mTu m' (4 * n) = c ∨ mTu m' (4 * n + 1) = c then 1 else 0)
    rw [mTc_eq h c n, h]
theorem rCave_water {u : CaveT} {m : MdlT} (h : rCave u m) (t k e s : Nat) : rCave (cC u, cP u, k, cWal u, cHgt u, cBat u, cSyl u, cDel u, cDrs u, cFrm u, cTo u, cLen u, cNar u, cPb u, cFnd u) (t, mC m, mP m, k, e, s, mRo m, mTu m) := by
  obtain ⟨⟨h1, h2, h3⟩, h4, h5, h6, h7, h8⟩ := h
  refine ⟨⟨h1, h2, rfl⟩, h4, h5, h6, fun c hc => ?_, fun c hc p hp ht => ?_⟩
  · refine (h7 c hc).trans ?_
    apply mTc_eq
    rfl
  · refine Eq.trans ?_ (h8 c hc p hp ht)
    refine congrArg (cPb u c) ?_
    apply mTc_eq
    rfl
theorem rCave_same {u : CaveT} {m : MdlT} (h : rCave u m) (t e s : Nat) : rCave u (t, mC m, mP m, mW m, e, s, mRo m, mTu m) := by
  obtain ⟨⟨h1, h2, h3⟩, h4, h5, h6, h7, h8⟩ := h
  refine ⟨⟨h1, h2, h3⟩, h4, h5, h6, fun c hc => ?_, fun c hc p hp ht => ?_⟩
  · refine (h7 c hc).trans ?_
    apply mTc_eq
    rfl
  · refine Eq.trans ?_ (h8 c hc p hp ht)
    refine congrArg (cPb u c) ?_
    apply mTc_eq
    rfl
theorem eN_at {f : Nat → Nat} {t v j w : Nat} (h : j = t → v = w) (h2 : ¬ j = t → f j = w) : eN f t v j = w := by
  by_cases e : j = t
  · rw [e, eN_self]; exact h e
  · rw [eN_ne _ _ e]; exact h2 e
theorem rCave_bats {u : CaveT} {m : MdlT} (h : rCave u m) (t c b : Nat) : rCave (cC u, cP u, cW u, cWal u, cHgt u, eN (cBat u) c b, cSyl u, cDel u, cDrs u, cFrm u, cTo u, cLen u, cNar u, cPb u, cFnd u) (t, mC m, mP m, mW m, mEar m, mSaid m, eN (mRo m) (5 * c + 2) b, mTu m) := by
  obtain ⟨⟨h1, h2, h3⟩, h4, h5, h6, h7, h8⟩ := h
  refine ⟨⟨h1, h2, h3⟩, fun j hj => ?_, h5, h6, fun c hc => ?_, fun c hc p hp ht => ?_⟩
  · obtain ⟨g0, g1, g2, g3, g4⟩ := h4 j hj
    refine ⟨?_, ?_, ?_, ?_, ?_⟩
    · show cWal u j = eN (mRo m) (5 * c + 2) b (5 * j); rw [eN_ne _ _ (by omega)]; exact g0
    · show cHgt u j = eN (mRo m) (5 * c + 2) b (5 * j + 1); rw [eN_ne _ _ (by omega)]; exact g1
    · show eN (cBat u) c b j = eN (mRo m) (5 * c + 2) b (5 * j + 2)
      by_cases e : j = c
      · rw [e, eN_self, eN_self]
      · rw [eN_ne _ _ e, eN_ne _ _ (by omega)]; exact g2
    · show cSyl u j = eN (mRo m) (5 * c + 2) b (5 * j + 3); rw [eN_ne _ _ (by omega)]; exact g3
    · show cDel u j = eN (mRo m) (5 * c + 2) b (5 * j + 4); rw [eN_ne _ _ (by omega)]; exact g4
  · refine (h7 c hc).trans ?_
    apply mTc_eq
    rfl
  · refine Eq.trans ?_ (h8 c hc p hp ht)
    refine congrArg (cPb u c) ?_
    apply mTc_eq
    rfl
theorem rCave_clap {u : CaveT} {m : MdlT} (h : rCave u m) (t c y d : Nat) : rCave (cClap u c y d) (t, mC m, mP m, mW m, mEar m, mSaid m, eN (eN (mRo m) (5 * c + 3) y) (5 * c + 4) (if y = 0 then 0 else d), mTu m) := by
  obtain ⟨⟨h1, h2, h3⟩, h4, h5, h6, h7, h8⟩ := h
  refine ⟨⟨h1, h2, h3⟩, fun j hj => ?_, h5, h6, fun c hc => ?_, fun c hc p hp ht => ?_⟩
  · obtain ⟨g0, g1, g2, g3, g4⟩ := h4 j hj
    refine ⟨?_, ?_, ?_, ?_, ?_⟩
    · show cWal u j = eN (eN (mRo m) (5 * c + 3) y) (5 * c + 4) (if y = 0 then 0 else d) (5 * j); rw [eN_ne _ _ (by omega), eN_ne _ _ (by omega)]; exact g0
    · show cHgt u j = eN (eN (mRo m) (5 * c + 3) y) (5 * c + 4) (if y = 0 then 0 else d) (5 * j + 1); rw [eN_ne _ _ (by omega), eN_ne _ _ (by omega)]; exact g1
    · show cBat u j = eN (eN (mRo m) (5 * c + 3) y) (5 * c + 4) (if y = 0 then 0 else d) (5 * j + 2); rw [eN_ne _ _ (by omega), eN_ne _ _ (by omega)]; exact g2
    · show eN (cSyl u) c y j = eN (eN (mRo m) (5 * c + 3) y) (5 * c + 4) (if y = 0 then 0 else d) (5 * j + 3)
      rw [eN_ne (eN (mRo m) (5 * c + 3) y) _ (by omega)]
      by_cases e : j = c
      · rw [e, eN_self, eN_self]
      · rw [eN_ne _ _ e, eN_ne _ _ (by omega)]; exact g3
    · show eN (cDel u) c (if y = 0 then 0 else d) j = eN (eN (mRo m) (5 * c + 3) y) (5 * c + 4) (if y = 0 then 0 else d) (5 * j + 4)
      by_cases e : j = c
      · rw [e, eN_self, eN_self]
      · rw [eN_ne _ _ e, eN_ne _ _ (by omega), eN_ne _ _ (by omega)]; exact g4
  · refine (h7 c hc).trans ?_
    apply mTc_eq
    rfl
  · refine Eq.trans ?_ (h8 c hc p hp ht)
    refine congrArg (cPb u c) ?_
    apply mTc_eq
    rfl
/-- what isn't built yet is 0 in the reference's room -/
def mZ (m : MdlT) : Prop := ∀ j, 5 * mC m ≤ j → mRo m j = 0
theorem mCpy_in {f g : Nat → Nat} {d n i : Nat} (h : i < n) : mCpy f g 0 d n (d + i) = f i := by
  unfold mCpy
  rw [if_pos (by omega), Nat.add_sub_cancel_left, Nat.zero_add]
theorem mCpy_out {f g : Nat → Nat} {d n j : Nat} (h : j < d ∨ d + n ≤ j) : mCpy f g 0 d n j = g j := by
  unfold mCpy
  rw [if_neg (by omega)]
theorem rCave_add {u : CaveT} {m : MdlT} (h : rCave u m) (hz : mZ m) (hc : mC m < 12) (t w k b : Nat) : rCave (cAdd u w k b) (t, mC m + 1, mP m, mW m, mEar m, mSaid m, mCpy (eN (eN (eN (eN (eN (fun _ => 0) 0 w) 1 k) 2 b) 3 0) 4 0) (mRo m) 0 (5 * mC m) 5, mTu m) := by
  obtain ⟨⟨h1, h2, h3⟩, h4, h5, h6, h7, h8⟩ := h
  refine ⟨⟨by show cC u + 1 = mC m + 1; rw [h1], h2, h3⟩, fun j hj => ?_, h5, fun p hp => ?_, fun c hc => ?_, fun c hc p hp ht => ?_⟩
  · obtain ⟨g0, g1, g2, g3, g4⟩ := h4 j hj
    have z3 := hz (5 * mC m + 3) (by omega)
    have z4 := hz (5 * mC m + 4) (by omega)
    show eN (cWal u) (cC u) w j = mCpy _ (mRo m) 0 (5 * mC m) 5 (5 * j) ∧ eN (cHgt u) (cC u) k j = mCpy _ (mRo m) 0 (5 * mC m) 5 (5 * j + 1) ∧ eN (cBat u) (cC u) b j = mCpy _ (mRo m) 0 (5 * mC m) 5 (5 * j + 2) ∧ cSyl u j = mCpy _ (mRo m) 0 (5 * mC m) 5 (5 * j + 3) ∧ cDel u j = mCpy _ (mRo m) 0 (5 * mC m) 5 (5 * j + 4)
    rw [h1]
    by_cases e : j = mC m
    · rw [e] at g3 g4 ⊢
      rw [eN_self, eN_self, eN_self, mCpy_in (i := 1) (by omega), mCpy_in (i := 2) (by omega), mCpy_in (i := 3) (by omega), mCpy_in (i := 4) (by omega)]
      have e0 := mCpy_in (f := eN (eN (eN (eN (eN (fun _ => 0) 0 w) 1 k) 2 b) 3 0) 4 0) (g := mRo m) (d := 5 * mC m) (n := 5) (i := 0) (by omega)
      rw [Nat.add_zero] at e0
      rw [e0, g3, g4, z3, z4]
      exact ⟨rfl, rfl, rfl, rfl, rfl⟩
    · rw [eN_ne _ _ e, eN_ne _ _ e, eN_ne _ _ e, mCpy_out (by omega), mCpy_out (by omega), mCpy_out (by omega), mCpy_out (by omega), mCpy_out (by omega)]
      exact ⟨g0, g1, g2, g3, g4⟩
  · obtain ⟨f1, f2, f3⟩ := h6 p hp
    exact ⟨Nat.lt_succ_of_lt f1, Nat.lt_succ_of_lt f2, f3⟩
  · refine (h7 c hc).trans ?_
    apply mTc_eq
    rfl
  · refine Eq.trans ?_ (h8 c hc p hp ht)
    refine congrArg (cPb u c) ?_
    apply mTc_eq
    rfl
