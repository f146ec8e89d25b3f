/-! ===== pure facts: the two caves stay alike over addPassage ===== -/
theorem mTc_upd (m m' : MdlT) (c : Nat) : ∀ n, (∀ j, j < 4 * n → mTu m' j = mTu m j) → mTc m' c n = mTc m c n
  | 0, _ => rfl
  | n + 1, h => by
    have h1 := h (4 * n) (by omega)
    have h2 := h (4 * n + 1) (by omega)
    show mTc m' c n + (if mTu m' (4 * n) = c ∨ mTu m' (4 * n + 1) = c then 1 else 0) = mTc m c n + (if mTu m (4 * n) = c ∨ mTu m (4 * n + 1) = c then 1 else 0)
    rw [mTc_upd m m' c n (fun j hj => h j (by omega)), h1, h2]
theorem mTc_lt (m : MdlT) (c : Nat) {p n : Nat} (h : p < n) (ht : mTouch m p c) : mTc m c p < mTc m c n := by
  obtain ⟨d, rfl⟩ : ∃ d, n = p + 1 + d := ⟨n - (p + 1), by omega⟩
  induction d with
  | zero =>
    show mTc m c p < mTc m c p + (if mTouch m p c then 1 else 0)
    rw [if_pos ht]; omega
  | succ d ih =>
    have := ih (by omega)
    show mTc m c p < mTc m c (p + 1 + d) + (if mTouch m (p + 1 + d) c then 1 else 0)
    omega
theorem rCave_pass {u : CaveT} {m : MdlT} (h : rCave u m) {a b : Nat} (ha : a < mC m) (hb : b < mC m) (hab : ¬ a = b) (t n w : Nat) : rCave (cPass u a b n w) (t, mC m, mP m + 1, mW m, mEar m, mSaid m, mRo m, mCpy (eN (eN (eN (eN (fun _ => 0) 0 a) 1 b) 2 n) 3 w) (mTu m) 0 (4 * mP m) 4) := by
  obtain ⟨⟨h1, h2, h3⟩, h4, h5, h6, h7, h8⟩ := h
  obtain ⟨T, hT⟩ : ∃ T, T = mCpy (eN (eN (eN (eN (fun _ => 0) 0 a) 1 b) 2 n) 3 w) (mTu m) 0 (4 * mP m) 4 := ⟨_, rfl⟩
  have old : ∀ j, j < 4 * mP m → T j = mTu m j := fun j hj => by rw [hT]; exact mCpy_out (Or.inl hj)
  have n0 : T (4 * mP m) = a := by
    have := mCpy_in (f := eN (eN (eN (eN (fun _ => 0) 0 a) 1 b) 2 n) 3 w) (g := mTu m) (d := 4 * mP m) (n := 4) (i := 0) (by omega)
    rw [Nat.add_zero] at this; rw [hT, this]; rfl
  have n1 : T (4 * mP m + 1) = b := by rw [hT, mCpy_in (i := 1) (by omega)]; rfl
  have n2 : T (4 * mP m + 2) = n := by rw [hT, mCpy_in (i := 2) (by omega)]; rfl
  have n3 : T (4 * mP m + 3) = w := by rw [hT, mCpy_in (i := 3) (by omega)]; rfl
  rw [← hT]
  have hc : ∀ c, mTc (t, mC m, mP m + 1, mW m, mEar m, mSaid m, mRo m, T) c (mP m) = mTc m c (mP m) := fun c => mTc_upd m (t, mC m, mP m + 1, mW m, mEar m, mSaid m, mRo m, T) c (mP m) old
  have hc1 : ∀ c, mTc (t, mC m, mP m + 1, mW m, mEar m, mSaid m, mRo m, T) c (mP m + 1) = mTc m c (mP m) + (if a = c ∨ b = c then 1 else 0) := fun c => by
    show mTc (t, mC m, mP m + 1, mW m, mEar m, mSaid m, mRo m, T) c (mP m) + (if T (4 * mP m) = c ∨ T (4 * mP m + 1) = c then 1 else 0) = _
    rw [hc, n0, n1]
  have hC := h4
  refine ⟨⟨h1, by show cP u + 1 = mP m + 1; rw [h2], h3⟩, h4, fun p hp => ?_, fun p hp => ?_, fun c hc12 => ?_, fun c hc12 p hp ht => ?_⟩
  · have hp2 : p < mP m + 1 := hp
    show eN (cFrm u) (cP u) a p = T (4 * p) ∧ eN (cTo u) (cP u) b p = T (4 * p + 1) ∧ eN (cLen u) (cP u) n p = T (4 * p + 2) ∧ eN (cNar u) (cP u) w p = T (4 * p + 3)
    rw [h2]
    by_cases e : p = mP m
    · rw [e, eN_self, eN_self, eN_self, eN_self, n0, n1, n2, n3]; exact ⟨rfl, rfl, rfl, rfl⟩
    · rw [eN_ne _ _ e, eN_ne _ _ e, eN_ne _ _ e, eN_ne _ _ e, old _ (by omega), old _ (by omega), old _ (by omega), old _ (by omega)]
      exact h5 p (by omega)
  · have hp2 : p < mP m + 1 := hp
    show T (4 * p) < mC m ∧ T (4 * p + 1) < mC m ∧ ¬ T (4 * p) = T (4 * p + 1)
    by_cases e : p = mP m
    · rw [e, n0, n1]; exact ⟨ha, hb, hab⟩
    · rw [old _ (by omega), old _ (by omega)]; exact h6 p (by omega)
  · refine Eq.trans ?_ (hc1 c).symm
    show eN (eN (cDrs u) a (cDrs u a + 1)) b (eN (cDrs u) a (cDrs u a + 1) b + 1) c = _
    rw [← h7 c hc12]
    by_cases e : c = b
    · rw [e, eN_self, eN_ne _ _ (fun h => hab h.symm), if_pos (Or.inr rfl)]
    · rw [eN_ne _ _ e]
      by_cases e2 : c = a
      · rw [e2, eN_self, if_pos (Or.inl rfl)]
      · rw [eN_ne _ _ e2, if_neg (by omega), Nat.add_zero]
  · have hp2 : p < mP m + 1 := hp
    have ht2 : T (4 * p) = c ∨ T (4 * p + 1) = c := ht
    show eN (eN (cPb u) a (eN (cPb u a) (cDrs u a) (cP u))) b (eN (eN (cPb u) a (eN (cPb u a) (cDrs u a) (cP u)) b) (eN (cDrs u) a (cDrs u a + 1) b) (cP u)) c (mTc (t, mC m, mP m + 1, mW m, mEar m, mSaid m, mRo m, T) c p) = p
    rw [mTc_upd m (t, mC m, mP m + 1, mW m, mEar m, mSaid m, mRo m, T) c p (fun j hj => old j (by omega)), eN_ne (cPb u) _ (fun h => hab h.symm), eN_ne (cDrs u) _ (fun h => hab h.symm)]
    by_cases ep : p = mP m
    · rw [ep] at ht2 ⊢
      rw [n0, n1] at ht2
      rw [← h7 c hc12]
      by_cases e : c = b
      · rw [e, eN_self, eN_self, h2]
      · rw [eN_ne _ _ e, show c = a by omega, eN_self, eN_self, h2]
    · have hp3 : p < mP m := by omega
      rw [old _ (by omega), old _ (by omega)] at ht2
      have hlt := mTc_lt m c hp3 ht2
      rw [← h7 c hc12] at hlt
      have h9 := h8 c hc12 p hp3 ht2
      by_cases e : c = b
      · rw [e] at hlt h9 ⊢
        rw [eN_self, eN_ne _ _ (by omega)]; exact h9
      · rw [eN_ne _ _ e]
        by_cases e2 : c = a
        · rw [e2] at hlt h9 ⊢
          rw [eN_self, eN_ne _ _ (by omega)]; exact h9
        · rw [eN_ne _ _ e2]; exact h9
