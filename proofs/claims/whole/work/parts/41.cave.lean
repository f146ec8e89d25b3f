/-! ===== pure facts: the class's cave and the reference's ===== -/
def mTc (m : MdlT) (c : Nat) : Nat → Nat
  | 0 => 0
  | p + 1 => mTc m c p + (if mTouch m p c then 1 else 0)
/-- the class's cave tells what the reference's room and tunnel tell; the doors of a chamber are the passages that touch it, in order -/
def rCave (u : CaveT) (m : MdlT) : Prop := (cC u = mC m ∧ cP u = mP m ∧ cW u = mW m) ∧ (∀ j, j < 12 → cWal u j = mRo m (5 * j) ∧ cHgt u j = mRo m (5 * j + 1) ∧ cBat u j = mRo m (5 * j + 2) ∧ cSyl u j = mRo m (5 * j + 3) ∧ cDel u j = mRo m (5 * j + 4)) ∧ (∀ p, p < mP m → cFrm u p = mTu m (4 * p) ∧ cTo u p = mTu m (4 * p + 1) ∧ cLen u p = mTu m (4 * p + 2) ∧ cNar u p = mTu m (4 * p + 3)) ∧ (∀ p, p < mP m → mTu m (4 * p) < mC m ∧ mTu m (4 * p + 1) < mC m ∧ ¬ mTu m (4 * p) = mTu m (4 * p + 1)) ∧ (∀ c, c < 12 → cDrs u c = mTc m c (mP m)) ∧ ∀ c, c < 12 → ∀ p, p < mP m → mTouch m p c → cPb u c (mTc m c p) = p
theorem rOpen {u : CaveT} {m : MdlT} (hM : mOk m) (h : rCave u m) {p : Nat} (hp : p < mP m) : cOpen u p ↔ mOpen m p (mW m) := by
  obtain ⟨⟨h1, h2, h3⟩, h4, h5, h6, -, -⟩ := h
  obtain ⟨⟨-, m1⟩, -⟩ := hM
  obtain ⟨e1, e2, -, -⟩ := h5 p hp
  obtain ⟨f1, f2, -⟩ := h6 p hp
  have g1 := (h4 (mTu m (4 * p)) (by omega)).2.1
  have g2 := (h4 (mTu m (4 * p + 1)) (by omega)).2.1
  show (cW u ≤ cHgt u (cFrm u p) ∧ cW u ≤ cHgt u (cTo u p)) ↔ _
  rw [e1, e2, g1, g2, h3]
theorem rNOp_n {u : CaveT} {m : MdlT} (hM : mOk m) (h : rCave u m) : ∀ n, n ≤ mP m → eC (fun i => cOpen u i) n = mNOp m n
  | 0, _ => rfl
  | n + 1, hn => by
    show eC (fun i => cOpen u i) n + (if cOpen u n then 1 else 0) = mNOp m n + (if mOpen m n (mW m) then 1 else 0)
    rw [rNOp_n hM h n (by omega), if_eqN (rOpen hM h (by omega))]
theorem rNOp {u : CaveT} {m : MdlT} (hM : mOk m) (h : rCave u m) : cNOp u = mNOp m (mP m) := by
  show eC (fun i => cOpen u i) (cP u) = _
  rw [h.1.2.1]
  exact rNOp_n hM h _ (Nat.le_refl _)
theorem rNCl_n {u : CaveT} {m : MdlT} (h : rCave u m) : ∀ n, n ≤ 12 → eC (fun c => cSyl u c ≠ 0) n = mNCl m n
  | 0, _ => rfl
  | n + 1, hn => by
    show eC (fun c => cSyl u c ≠ 0) n + (if cSyl u n ≠ 0 then 1 else 0) = mNCl m n + (if 0 < mRo m (5 * n + 3) then 1 else 0)
    rw [rNCl_n h n (by omega), if_eqN (show cSyl u n ≠ 0 ↔ 0 < mRo m (5 * n + 3) by rw [(h.2.1 n (by omega)).2.2.2.1]; omega)]
theorem rNCl {u : CaveT} {m : MdlT} (hM : mOk m) (h : rCave u m) : cNCl u = mNCl m (mC m) := by
  show eC (fun c => cSyl u c ≠ 0) (cC u) = _
  rw [h.1.1]
  exact rNCl_n h _ hM.1.2
theorem mCnt_5 (m : MdlT) (c : Nat) : ∀ n, mCnt m c 5 n = mTc m c n
  | 0 => rfl
  | n + 1 => by
    show mCnt m c 5 n + (if mTouch m n c ∧ (5 = 5 ∨ mOpen m n (mW m)) then 1 else 0) = mTc m c n + (if mTouch m n c then 1 else 0)
    rw [mCnt_5 m c n, if_eqN (show (mTouch m n c ∧ (5 = 5 ∨ mOpen m n (mW m))) ↔ mTouch m n c from ⟨fun h => h.1, fun h => ⟨h, Or.inl rfl⟩⟩)]
theorem rDoors_n {u : CaveT} {m : MdlT} (hM : mOk m) (h : rCave u m) {c : Nat} (hc : c < 12) : ∀ n, n ≤ mP m → eC (fun k => cOpen u (cPb u c k)) (mTc m c n) = mCnt m c 6 n
  | 0, _ => rfl
  | n + 1, hn => by
    have ih := rDoors_n hM h hc n (by omega)
    show eC (fun k => cOpen u (cPb u c k)) (mTc m c n + (if mTouch m n c then 1 else 0)) = mCnt m c 6 n + (if mTouch m n c ∧ (6 = 5 ∨ mOpen m n (mW m)) then 1 else 0)
    by_cases ht : mTouch m n c
    · rw [if_pos ht]
      show eC (fun k => cOpen u (cPb u c k)) (mTc m c n) + (if cOpen u (cPb u c (mTc m c n)) then 1 else 0) = _
      rw [ih, h.2.2.2.2.2 c hc n (by omega) ht, if_eqN (show cOpen u n ↔ (mTouch m n c ∧ (6 = 5 ∨ mOpen m n (mW m))) by
        rw [rOpen hM h (by omega)]
        exact ⟨fun h => ⟨ht, Or.inr h⟩, fun h => h.2.resolve_left (by omega)⟩)]
    · rw [if_neg ht, if_neg (fun h => ht h.1)]
      exact ih
theorem rTold {u : CaveT} {m : MdlT} (hM : mOk m) (h : rCave u m) {c w : Nat} (hc : c < 12) (hw : w ≤ 6) : cFact u c w = mTold m c w := by
  obtain ⟨g0, g1, g2, g3, g4⟩ := h.2.1 c hc
  rcases (show w = 0 ∨ w = 1 ∨ w = 2 ∨ w = 3 ∨ w = 4 ∨ w = 5 ∨ w = 6 by omega) with rfl | rfl | rfl | rfl | rfl | rfl | rfl
  · exact g0
  · exact g1
  · exact g2
  · exact g3
  · exact g4
  · show cDrs u c = mCnt m c 5 (mP m)
    rw [mCnt_5, h.2.2.2.2.1 c hc]
  · show eC (fun k => cOpen u (cPb u c k)) (cDrs u c) = mCnt m c 6 (mP m)
    rw [h.2.2.2.2.1 c hc]
    exact rDoors_n hM h hc _ (Nat.le_refl _)
theorem rPTold {u : CaveT} {m : MdlT} (hM : mOk m) (h : rCave u m) {p w : Nat} (hp : p < mP m) (hw : w ≤ 4) : pFact u p w = mPTold m p w := by
  obtain ⟨g0, g1, g2, g3⟩ := h.2.2.1 p hp
  rcases (show w = 0 ∨ w = 1 ∨ w = 2 ∨ w = 3 ∨ w = 4 by omega) with rfl | rfl | rfl | rfl | rfl
  · exact g0
  · exact g1
  · exact g2
  · exact g3
  · show (if cOpen u p then 1 else 0) = (if mOpen m p (mW m) then 1 else 0)
    exact if_eqN (rOpen hM h hp)
