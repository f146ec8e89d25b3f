/-! ===== pure facts: shortest ways, and the highest water ===== -/
/-- how many of the twelve are reached -/
def hFn (w : Nat → Nat) : Nat := fb_ct (fun c => decide (w c < 120)) 12
theorem hFn_upd (w : Nat → Nat) {t : Nat} (x : Nat) (ht : t < 12) : hFn (eN w t x) + (if w t < 120 then 1 else 0) = hFn w + (if x < 120 then 1 else 0) := by
  have e := fb_ct_upd (fun j => decide (w j < 120)) (decide (x < 120)) ht
  have e2 : hFn (eN w t x) = fb_ct (fun k => if k = t then decide (x < 120) else decide (w k < 120)) 12 := fb_ct_cong (fun k _ => by
    by_cases hk : k = t
    · subst hk
      show decide (eN w k x k < 120) = if k = k then decide (x < 120) else decide (w k < 120)
      rw [eN_self, if_pos rfl]
    · show decide (eN w t x k < 120) = if k = t then decide (x < 120) else decide (w k < 120)
      rw [eN_ne _ _ hk, if_neg hk])
  rw [e2]
  simpa [hFn] using e
/-- lengths found so far: 120 where there is none, and else no more than 9 for each reached behind the first -/
def sB (w : Nat → Nat) : Prop := (∀ c, w c ≤ 120) ∧ ∀ c, c < 12 → w c < 120 → w c + 9 ≤ 9 * hFn w
theorem sB_lt {w : Nat → Nat} (h : sB w) {c : Nat} (hc : c < 12) (h2 : w c < 120) : w c ≤ 99 := by
  have h1 := h.2 c hc h2
  have h3 : hFn w ≤ 12 := fb_ct_le _ 12
  omega
/-- one comparison: x over y -/
def sR1 (w : Nat → Nat) (x y n : Nat) : Nat → Nat := eN w x (min (w x) (w y + n))
theorem sB_R1 {w : Nat → Nat} (h : sB w) {x y n : Nat} (hx : x < 12) (hy : y < 12) (hn : n ≤ 9) : sB (sR1 w x y n) := by
  have hu := hFn_upd w (min (w x) (w y + n)) hx
  have b1 := h.1 x
  have b2 := h.1 y
  refine ⟨fun c => eN_le h.1 (by omega) c, fun c hc h2 => ?_⟩
  show eN w x (min (w x) (w y + n)) c + 9 ≤ 9 * hFn (eN w x (min (w x) (w y + n)))
  have h2' : eN w x (min (w x) (w y + n)) c < 120 := h2
  by_cases c1 : w x < 120
  · rw [if_pos c1, if_pos (show min (w x) (w y + n) < 120 by omega)] at hu
    have := h.2 x hx c1
    by_cases e : c = x
    · rw [e, eN_self]; omega
    · rw [eN_ne _ _ e] at h2' ⊢
      have := h.2 c hc h2'
      omega
  · by_cases c2 : w y < 120
    · have h3 := sB_lt h hy c2
      have h4 := h.2 y hy c2
      rw [if_neg c1, if_pos (show min (w x) (w y + n) < 120 by omega)] at hu
      by_cases e : c = x
      · rw [e, eN_self]; omega
      · rw [eN_ne _ _ e] at h2' ⊢
        have := h.2 c hc h2'
        omega
    · rw [if_neg c1, if_neg (show ¬ min (w x) (w y + n) < 120 by omega)] at hu
      by_cases e : c = x
      · rw [e, eN_self] at h2'; omega
      · rw [eN_ne _ _ e] at h2' ⊢
        have := h.2 c hc h2'
        omega
theorem sRel_R1 (m : MdlT) (h p : Nat) (w : Nat → Nat) : sRel m h p w = if mOpen m p h then sR1 (sR1 w (mTu m (4 * p)) (mTu m (4 * p + 1)) (mTu m (4 * p + 2))) (mTu m (4 * p + 1)) (mTu m (4 * p)) (mTu m (4 * p + 2)) else w := rfl
theorem sR1_comm (w : Nat → Nat) {x y : Nat} (n : Nat) (h : ¬ x = y) (c : Nat) : sR1 (sR1 w x y n) y x n c = sR1 (sR1 w y x n) x y n c := by
  have h' : ¬ y = x := fun e => h e.symm
  show eN (eN w x (min (w x) (w y + n))) y (min (eN w x (min (w x) (w y + n)) y) (eN w x (min (w x) (w y + n)) x + n)) c = eN (eN w y (min (w y) (w x + n))) x (min (eN w y (min (w y) (w x + n)) x) (eN w y (min (w y) (w x + n)) y + n)) c
  rw [eN_self, eN_self, eN_ne w _ h', eN_ne w _ h]
  by_cases c1 : c = x
  · rw [c1, eN_self, eN_ne _ _ h, eN_self]; omega
  · by_cases c2 : c = y
    · rw [c2, eN_self, eN_ne _ _ h', eN_self]; omega
    · rw [eN_ne _ _ c2, eN_ne _ _ c1, eN_ne _ _ c1, eN_ne _ _ c2]
/-- what a reference's passages must be for its ways -/
def sT (m : MdlT) : Prop := mC m ≤ 12 ∧ ∀ p, p < mP m → mTu m (4 * p) < mC m ∧ mTu m (4 * p + 1) < mC m ∧ (¬ mTu m (4 * p) = mTu m (4 * p + 1)) ∧ mTu m (4 * p + 2) ≤ 9
theorem sB_rel {m : MdlT} (hT : sT m) {w : Nat → Nat} (h : sB w) (k : Nat) {p : Nat} (hp : p < mP m) : sB (sRel m k p w) := by
  obtain ⟨h0, h1⟩ := hT
  obtain ⟨d1, d2, d3, d4⟩ := h1 p hp
  rw [sRel_R1]
  split
  · exact sB_R1 (sB_R1 h (by omega) (by omega) d4) (by omega) (by omega) d4
  · exact h
theorem sB_turn {m : MdlT} (hT : sT m) {w : Nat → Nat} (h : sB w) (k : Nat) : ∀ p, p ≤ mP m → sB (sTurn m k w p)
  | 0, _ => h
  | p + 1, hp => sB_rel hT (sB_turn hT h k p (by omega)) k (by omega)
theorem sFill_at (a : Nat) : ∀ n c, c < n → sFill a n c = if c = a then 0 else 120
  | 0, _, h => absurd h (by omega)
  | n + 1, c, h => by
    show eN (sFill a n) n (if n = a then 0 else 120) c = _
    by_cases e : c = n
    · rw [e, eN_self]
    · rw [eN_ne _ _ e]; exact sFill_at a n c (by omega)
theorem sB_fill {a : Nat} (ha : a < 12) : sB (sFill a 12) := by
  refine ⟨sFill_le a 12, fun c hc h2 => ?_⟩
  rw [sFill_at a 12 c hc] at h2 ⊢
  by_cases e : c = a
  · rw [if_pos e]
    have : 0 < hFn (sFill a 12) := fb_ct_pos.mpr ⟨a, ha, decide_eq_true (by rw [sFill_at a 12 a ha, if_pos rfl]; omega)⟩
    omega
  · rw [if_neg e] at h2; omega
theorem sB_all {m : MdlT} (hT : sT m) {a : Nat} (ha : a < 12) (k : Nat) : ∀ t, sB (sAll m a k t)
  | 0 => sB_fill ha
  | t + 1 => sB_turn hT (sB_all hT ha k t) k _ (Nat.le_refl _)
/-- the one side's lengths are the other's -/
def rF (f : Nat → Int32) (w : Nat → Nat) : Prop := ∀ c, c < 12 → f c = sVal (w c)
theorem m1_neg : (-1 : Int32) < 0 := by decide
theorem nI_nneg {n : Nat} (h : n < 2147483648) : ¬ nI n < 0 := fun e => by
  have h2 : nI n < nI 0 := e
  rw [nI_ltI h (by omega)] at h2
  omega
theorem rF_short {f : Nat → Int32} {w : Nat → Nat} (h : rF f w) (hB : sB w) {x y n : Nat} (hx : x < 12) (hy : y < 12) (hn : n ≤ 9) : rF (eShort f y x n) (sR1 w x y n) := by
  intro c hc
  have b1 := hB.1 x
  have b2 := hB.1 y
  have hfy := h y hy
  have hfx := h x hx
  unfold eShort
  show _ = sVal (eN w x (min (w x) (w y + n)) c)
  by_cases c2 : w y < 120
  · have h3 := sB_lt hB hy c2
    have ey : f y = nI (w y) := by rw [hfy]; exact if_pos c2
    have es : f y + nI n = nI (w y + n) := by rw [ey, nI_add]
    rw [if_neg (show ¬ f y < 0 by rw [ey]; exact nI_nneg (by omega)), es]
    by_cases c1 : w x < 120
    · have ex : f x = nI (w x) := by rw [hfx]; exact if_pos c1
      have hlt : nI (w y + n) < f x ↔ w y + n < w x := by rw [ex]; exact nI_ltI (by omega) (by omega)
      have hneg : ¬ f x < 0 := by rw [ex]; exact nI_nneg (by omega)
      by_cases c3 : w y + n < w x
      · rw [if_pos (Or.inr (hlt.mpr c3))]
        by_cases e : c = x
        · rw [e, eN_self, eN_self, Nat.min_eq_right (by omega)]
          exact (if_pos (by omega)).symm
        · rw [eN_ne _ _ e, eN_ne _ _ e]; exact h c hc
      · rw [if_neg (fun a => a.elim hneg (fun a => c3 (hlt.mp a)))]
        by_cases e : c = x
        · rw [e, eN_self, Nat.min_eq_left (by omega)]; exact hfx
        · rw [eN_ne _ _ e]; exact h c hc
    · have ex : f x = -1 := by rw [hfx]; exact if_neg c1
      rw [if_pos (Or.inl (by rw [ex]; exact m1_neg))]
      by_cases e : c = x
      · rw [e, eN_self, eN_self, Nat.min_eq_right (by omega)]
        exact (if_pos (by omega)).symm
      · rw [eN_ne _ _ e, eN_ne _ _ e]; exact h c hc
  · have ey : f y = -1 := by rw [hfy]; exact if_neg c2
    rw [if_pos (show f y < 0 by rw [ey]; exact m1_neg)]
    by_cases e : c = x
    · rw [e, eN_self, Nat.min_eq_left (by omega)]; exact hfx
    · rw [eN_ne _ _ e]; exact h c hc
theorem rT_ok {u : CaveT} {m : MdlT} (hM : mOk m) (hU : cOk u) (h : rCav0 u m) : sT m := ⟨hM.1.2, fun p hp => by
  obtain ⟨-, -, h5, h6, -, -⟩ := h
  obtain ⟨d1, d2, d3⟩ := h6 p hp
  have e := (h5 p hp).2.2.1
  have l := hU.2.2.2.2.2.2.2.2.2.2.2.1 p
  exact ⟨d1, d2, d3, by omega⟩⟩
theorem rF_step {u : CaveT} {m : MdlT} (hM : mOk m) (hT : sT m) (hC : rCav0 u m) {f : Nat → Int32} {w : Nat → Nat} (h : rF f w) (hB : sB w) {p : Nat} (hp : p < mP m) : rF (wayStep u f p) (sRel m (mW m) p w) := by
  obtain ⟨h0, h1⟩ := id hT
  obtain ⟨d1, d2, d3, d4⟩ := h1 p hp
  obtain ⟨e1, e2, e3, -⟩ := hC.2.2.1 p hp
  unfold wayStep
  rw [sRel_R1]
  by_cases ho : mOpen m p (mW m)
  · rw [if_pos ho, if_pos ((rOpen0 hM hC hp).mpr ho), e1, e2, e3]
    have s1 := rF_short h hB (x := mTu m (4 * p + 1)) (y := mTu m (4 * p)) (n := mTu m (4 * p + 2)) (by omega) (by omega) d4
    have s2 := rF_short s1 (sB_R1 hB (by omega) (by omega) d4) (x := mTu m (4 * p)) (y := mTu m (4 * p + 1)) (n := mTu m (4 * p + 2)) (by omega) (by omega) d4
    intro c hc
    rw [sR1_comm w _ d3]
    exact s2 c hc
  · rw [if_neg ho, if_neg (fun a => ho ((rOpen0 hM hC hp).mp a))]
    exact h
theorem rF_round {u : CaveT} {m : MdlT} (hM : mOk m) (hT : sT m) (hC : rCav0 u m) {f : Nat → Int32} {w : Nat → Nat} (h : rF f w) (hB : sB w) : ∀ p, p ≤ mP m → rF (wayRound u f p) (sTurn m (mW m) w p)
  | 0, _ => h
  | p + 1, hp => rF_step hM hT hC (rF_round hM hT hC h hB p (by omega)) (sB_turn hT hB _ p (by omega)) (by omega)
theorem rF_all {u : CaveT} {m : MdlT} (hM : mOk m) (hT : sT m) (hC : rCav0 u m) {a : Nat} (ha : a < 12) : ∀ t, rF (wayAll u (eN (eFill 12 (-1) (cFnd u)) a (nI 0)) t) (sAll m a (mW m) t)
  | 0 => fun c hc => by
    show eN (eFill 12 (-1) (cFnd u)) a (nI 0) c = sVal (sFill a 12 c)
    rw [sFill_at a 12 c hc]
    by_cases e : c = a
    · rw [e, eN_self, if_pos rfl]; rfl
    · rw [eN_ne _ _ e, if_neg e]
      unfold eFill
      rw [if_pos hc]; rfl
  | t + 1 => by
    show rF (wayRound u (wayAll u (eN (eFill 12 (-1) (cFnd u)) a (nI 0)) t) (cP u)) (sTurn m (mW m) (sAll m a (mW m) t) (mP m))
    rw [hC.1.2.1]
    exact rF_round hM hT hC (rF_all hM hT hC ha t) (sB_all hT ha _ t) _ (Nat.le_refl _)
/-- the shortest way is the same -/
theorem rWay {u : CaveT} {m : MdlT} (hM : mOk m) (hU : cOk u) (hC : rCav0 u m) {a b : Nat} (ha : a < 12) (hb : b < 12) : wayOf u a b = mShort m a b (mW m) := by
  have h := rF_all hM (rT_ok hM hU hC) hC ha (mC m - 1) b hb
  rw [← hC.1.1] at h
  show wayAll u (eN (eFill 12 (-1) (cFnd u)) a (nI 0)) (cC u - 1) b = sVal (sAll m a (mW m) (mC m - 1) b)
  rw [h, hC.1.1]
theorem pW_max : ∀ a, a < 32 → ∀ b, b < 32 → emax (pW a) (pW b) = pW (max a b) := by decide +kernel
theorem pW_min : ∀ a, a < 32 → ∀ b, b < 32 → emin (pW a) (pW b) = pW (min a b) := by decide +kernel
/-- heights told by one more, 0 where there is no way -/
def uR1 (u : CaveT) (k : Nat → Nat) (x y : Nat) : Nat → Nat := eN k y (max (k y) (min (k x) (min (cHgt u x + 1) (cHgt u y + 1))))
def rG (f : Nat → Int32) (k : Nat → Nat) : Prop := ∀ c, c < 12 → f c = pW (k c) ∧ k c < 32
theorem rG_raise {u : CaveT} (hU : cOk u) {f : Nat → Int32} {k : Nat → Nat} (h : rG f k) {x y : Nat} (hx : x < 12) (hy : y < 12) : rG (eRaise u f x y) (uR1 u k x y) := by
  intro c hc
  have q1 := hU.2.2.2.2.1 x
  have q2 := hU.2.2.2.2.1 y
  obtain ⟨f1, f2⟩ := h x hx
  obtain ⟨f3, f4⟩ := h y hy
  have e : emax (f y) (emin (f x) (emin (nI (cHgt u x)) (nI (cHgt u y)))) = pW (max (k y) (min (k x) (min (cHgt u x + 1) (cHgt u y + 1)))) := by
    rw [f1, f3, show nI (cHgt u x) = pW (cHgt u x + 1) from rfl, show nI (cHgt u y) = pW (cHgt u y + 1) from rfl, pW_min _ (by omega) _ (by omega), pW_min _ (by omega) _ (by omega), pW_max _ (by omega) _ (by omega)]
  show eN f y (emax (f y) (emin (f x) (emin (nI (cHgt u x)) (nI (cHgt u y))))) c = pW (eN k y _ c) ∧ eN k y _ c < 32
  rw [e]
  by_cases ec : c = y
  · rw [ec, eN_self, eN_self]; exact ⟨rfl, by omega⟩
  · rw [eN_ne _ _ ec, eN_ne _ _ ec]; exact h c hc
def uRnd (u : CaveT) (k : Nat → Nat) : Nat → Nat → Nat
  | 0 => k
  | n + 1 => uR1 u (uR1 u (uRnd u k n) (cFrm u n) (cTo u n)) (cTo u n) (cFrm u n)
def uAll (u : CaveT) (k : Nat → Nat) : Nat → Nat → Nat
  | 0 => k
  | r + 1 => uRnd u (uAll u k r) (cP u)
theorem rG_round {u : CaveT} (hU : cOk u) {f : Nat → Int32} {k : Nat → Nat} (h : rG f k) : ∀ n, rG (upRound u f n) (uRnd u k n)
  | 0 => h
  | n + 1 => rG_raise hU (rG_raise hU (rG_round hU h n) (hU.2.2.2.2.2.2.2.2.2.1 n) (hU.2.2.2.2.2.2.2.2.2.2.1 n)) (hU.2.2.2.2.2.2.2.2.2.2.1 n) (hU.2.2.2.2.2.2.2.2.2.1 n)
theorem rG_all {u : CaveT} (hU : cOk u) {f : Nat → Int32} {k : Nat → Nat} (h : rG f k) : ∀ r, rG (upAll u f r) (uAll u k r)
  | 0 => h
  | r + 1 => rG_round hU (rG_all hU h r) _
/-- reached at the height v: told by the heights, and by the reference's ways at v -/
def rV (v : Nat) (k w : Nat → Nat) : Prop := ∀ c, c < 12 → (v + 1 ≤ k c ↔ w c < 120)
theorem rV_one {u : CaveT} {v : Nat} {k w : Nat → Nat} (h : rV v k w) (hB : sB w) {x y n : Nat} (hx : x < 12) (hy : y < 12) (hn : n ≤ 9) (ho : v ≤ cHgt u x ∧ v ≤ cHgt u y) : rV v (uR1 u k x y) (sR1 w y x n) := by
  intro c hc
  show v + 1 ≤ eN k y (max (k y) (min (k x) (min (cHgt u x + 1) (cHgt u y + 1)))) c ↔ eN w y (min (w y) (w x + n)) c < 120
  by_cases e : c = y
  · rw [e, eN_self, eN_self]
    have h1 := h x hx
    have h2 := h y hy
    have b1 := hB.1 x
    have h3 : w x < 120 → w x ≤ 99 := sB_lt hB hx
    by_cases c1 : w x < 120
    · have := h3 c1
      have := h1.mpr c1
      exact ⟨fun _ => by omega, fun _ => by omega⟩
    · have : ¬ v + 1 ≤ k x := fun a => c1 (h1.mp a)
      by_cases c2 : w y < 120
      · have := h2.mpr c2
        exact ⟨fun _ => by omega, fun _ => by omega⟩
      · have : ¬ v + 1 ≤ k y := fun a => c2 (h2.mp a)
        exact ⟨fun a => by omega, fun a => by omega⟩
  · rw [eN_ne _ _ e, eN_ne _ _ e]; exact h c hc
theorem rV_not {u : CaveT} {v : Nat} {k w : Nat → Nat} (h : rV v k w) {x y : Nat} (ho : ¬ (v ≤ cHgt u x ∧ v ≤ cHgt u y)) : rV v (uR1 u k x y) w := by
  intro c hc
  rw [← h c hc]
  show v + 1 ≤ eN k y (max (k y) (min (k x) (min (cHgt u x + 1) (cHgt u y + 1)))) c ↔ v + 1 ≤ k c
  by_cases e : c = y
  · rw [e, eN_self]
    exact ⟨fun _ => by omega, fun _ => by omega⟩
  · rw [eN_ne _ _ e]
theorem rV_step {u : CaveT} {m : MdlT} (hM : mOk m) (hT : sT m) (hC : rCav0 u m) {v : Nat} {k w : Nat → Nat} (h : rV v k w) (hB : sB w) {p : Nat} (hp : p < mP m) : rV v (uR1 u (uR1 u k (cFrm u p) (cTo u p)) (cTo u p) (cFrm u p)) (sRel m v p w) := by
  obtain ⟨h0, h1⟩ := id hT
  obtain ⟨d1, d2, d3, d4⟩ := h1 p hp
  obtain ⟨e1, e2, e3, -⟩ := hC.2.2.1 p hp
  have g1 := (hC.2.1 (mTu m (4 * p)) (by omega)).2.1
  have g2 := (hC.2.1 (mTu m (4 * p + 1)) (by omega)).2.1
  rw [sRel_R1, e1, e2]
  by_cases ho : mOpen m p v
  · rw [if_pos ho]
    have o1 : v ≤ cHgt u (mTu m (4 * p)) := by rw [g1]; exact ho.1
    have o2 : v ≤ cHgt u (mTu m (4 * p + 1)) := by rw [g2]; exact ho.2
    have s1 := rV_one (u := u) h hB (x := mTu m (4 * p)) (y := mTu m (4 * p + 1)) (n := mTu m (4 * p + 2)) (by omega) (by omega) d4 ⟨o1, o2⟩
    have s2 := rV_one (u := u) s1 (sB_R1 hB (by omega) (by omega) d4) (x := mTu m (4 * p + 1)) (y := mTu m (4 * p)) (n := mTu m (4 * p + 2)) (by omega) (by omega) d4 ⟨o2, o1⟩
    intro c hc
    rw [sR1_comm w _ d3]
    exact s2 c hc
  · rw [if_neg ho]
    have n1 : ¬ (v ≤ cHgt u (mTu m (4 * p)) ∧ v ≤ cHgt u (mTu m (4 * p + 1))) := by rw [g1, g2]; exact ho
    exact rV_not (rV_not h n1) (fun a => n1 ⟨a.2, a.1⟩)
theorem rV_round {u : CaveT} {m : MdlT} (hM : mOk m) (hT : sT m) (hC : rCav0 u m) {v : Nat} {k w : Nat → Nat} (h : rV v k w) (hB : sB w) : ∀ p, p ≤ mP m → rV v (uRnd u k p) (sTurn m v w p)
  | 0, _ => h
  | p + 1, hp => rV_step hM hT hC (rV_round hM hT hC h hB p (by omega)) (sB_turn hT hB _ p (by omega)) (by omega)
abbrev uK : Nat → Nat := eN (fun _ => 0) 0 31
theorem rV_all {u : CaveT} {m : MdlT} (hM : mOk m) (hT : sT m) (hC : rCav0 u m) {v : Nat} (hv : v ≤ 30) : ∀ r, rV v (uAll u uK r) (sAll m 0 v r)
  | 0 => fun c hc => by
    show v + 1 ≤ eN (fun _ => 0) 0 31 c ↔ sFill 0 12 c < 120
    rw [sFill_at 0 12 c hc]
    by_cases e : c = 0
    · rw [e, eN_self, if_pos rfl]; exact ⟨fun _ => by omega, fun _ => by omega⟩
    · rw [eN_ne _ _ e, if_neg e]; exact ⟨fun a => by omega, fun a => by omega⟩
  | r + 1 => by
    show rV v (uRnd u (uAll u uK r) (cP u)) (sTurn m v (sAll m 0 v r) (mP m))
    rw [hC.1.2.1]
    exact rV_round hM hT hC (rV_all hM hT hC hv r) (sB_all hT (by omega) _ r) _ (Nat.le_refl _)
theorem sVal_m1 (x : Nat) : sVal x = -1 ↔ ¬ x < 120 := by
  unfold sVal
  by_cases h : x < 120
  · rw [if_pos h]
    exact ⟨fun e => absurd e (nI_ne1 (by omega)), fun a => absurd h a⟩
  · rw [if_neg h]
    exact ⟨fun _ => h, fun _ => rfl⟩
/-- the highest water is the same -/
theorem rHigh {u : CaveT} {m : MdlT} (hM : mOk m) (hU : cOk u) (hC : rCav0 u m) {c : Nat} (hc : c < 12) : upOf u c = mHigh m c 31 := by
  have hT := rT_ok hM hU hC
  have hi : rG (eN (eFill 12 (-1) (cFnd u)) 0 (nI 30)) uK := fun j hj => by
    show eN (eFill 12 (-1) (cFnd u)) 0 (nI 30) j = pW (eN (fun _ => 0) 0 31 j) ∧ eN (fun _ => 0) 0 31 j < 32
    by_cases e : j = 0
    · rw [e, eN_self, eN_self]; exact ⟨rfl, by omega⟩
    · rw [eN_ne _ _ e, eN_ne _ _ e]
      unfold eFill
      rw [if_pos hj]
      exact ⟨rfl, by omega⟩
  obtain ⟨g1, g2⟩ := rG_all hU hi (cC u - 1) c hc
  obtain ⟨k, hk⟩ : ∃ k, uAll u uK (cC u - 1) c = k := ⟨_, rfl⟩
  rw [hk] at g1 g2
  have hv : ∀ v, v ≤ 30 → (mShort m 0 c v = -1 ↔ ¬ v + 1 ≤ k) := fun v hv => by
    have h1 := rV_all hM hT hC hv (cC u - 1) c hc
    rw [hk] at h1
    show sVal (sAll m 0 v (mC m - 1) c) = -1 ↔ _
    rw [sVal_m1, h1, hC.1.1]
  have key : ∀ n, n ≤ 31 → k ≤ n → mHigh m c n = pW k := by
    intro n
    induction n with
    | zero => intro _ h0; rw [show k = 0 by omega]; rfl
    | succ n ih =>
      intro hn hkn
      show (if mShort m 0 c n = -1 then mHigh m c n else nI n) = pW k
      by_cases e : k = n + 1
      · rw [if_neg (fun a => (hv n (by omega)).mp a (by omega)), e]; rfl
      · rw [if_pos ((hv n (by omega)).mpr (by omega))]
        exact ih (by omega) (by omega)
  rw [key 31 (Nat.le_refl _) (by omega)]
  exact g1
