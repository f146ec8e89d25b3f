/-! ===== pure facts: a word's sound in the two caves, coming by coming ===== -/
/-- a bit of the one side (a) and of the other (b): b may be set alone where what it stands for comes too late -/
def bR (X L : Nat) (a b : Bool) : Prop := (a = true → b = true) ∧ (b = true → a = true ∨ 200 < X + L)
theorem bR.up {X Y L : Nat} {a b : Bool} (h : bR X L a b) (hxy : X ≤ Y) : bR Y L a b := ⟨h.1, fun hb => (h.2 hb).imp id (fun h => by omega)⟩
theorem bR.eq {X L : Nat} {a b : Bool} (h : bR X L a b) (hx : ¬ 200 < X + L) : a = b := by
  obtain ⟨h1, h2⟩ := h
  cases a
  · cases b
    · rfl
    · exact ((h2 rfl).resolve_right hx)
  · exact (h1 rfl).symm
theorem bR.late {X L : Nat} {a b : Bool} (h : bR X L a b) (d : Bool) (hd : d = true → 200 < X + L) : bR X L a (b || d) :=
  ⟨fun ha => by rw [h.1 ha]; rfl, fun hb => by
    cases d
    · rw [Bool.or_false] at hb; exact h.2 hb
    · exact Or.inr (hd rfl)⟩
theorem bR.both {X L : Nat} {a b : Bool} (h : bR X L a b) (d : Bool) : bR X L (a || d) (b || d) := by
  cases d
  · rw [Bool.or_false, Bool.or_false]; exact h
  · rw [Bool.or_true, Bool.or_true]; exact ⟨fun _ => rfl, fun _ => Or.inl rfl⟩
/-- the two caves alike, but for what stands of clappers -/
def rCav0 (u : CaveT) (m : MdlT) : Prop := (cC u = mC m ∧ cP u = mP m ∧ cW u = mW m) ∧ (∀ j, j < 12 → cWal u j = mRo m (5 * j) ∧ cHgt u j = mRo m (5 * j + 1) ∧ cBat u j = mRo m (5 * j + 2)) ∧ (∀ p, p < mP m → cFrm u p = mTu m (4 * p) ∧ cTo u p = mTu m (4 * p + 1) ∧ cLen u p = mTu m (4 * p + 2) ∧ cNar u p = mTu m (4 * p + 3)) ∧ (∀ p, p < mP m → mTu m (4 * p) < mC m ∧ mTu m (4 * p + 1) < mC m ∧ ¬ mTu m (4 * p) = mTu m (4 * p + 1)) ∧ (∀ c, c < 12 → cDrs u c = mTc m c (mP m)) ∧ ∀ c, c < 12 → ∀ p, p < mP m → mTouch m p c → cPb u c (mTc m c p) = p
theorem rCave.to0 {u : CaveT} {m : MdlT} (h : rCave u m) : rCav0 u m := ⟨h.1, fun j hj => ⟨(h.2.1 j hj).1, (h.2.1 j hj).2.1, (h.2.1 j hj).2.2.1⟩, h.2.2⟩
theorem rOpen0 {u : CaveT} {m : MdlT} (hM : mOk m) (h : rCav0 u m) {p : Nat} (hp : p < mP m) : cOpen u p ↔ mOpen m p (mW m) := by
  obtain ⟨⟨h1, h2, h3⟩, h4, h5, h6, -, -⟩ := h
  obtain ⟨⟨-, m1⟩, -⟩ := hM
  obtain ⟨e1, e2, -, -⟩ := h5 p hp
  obtain ⟨f1, f2, -⟩ := h6 p hp
  have g1 := (h4 (mTu m (4 * p)) (by omega)).2.1
  have g2 := (h4 (mTu m (4 * p + 1)) (by omega)).2.1
  show (cW u ≤ cHgt u (cFrm u p) ∧ cW u ≤ cHgt u (cTo u p)) ↔ _
  rw [e1, e2, g1, g2, h3]
/-- runs, clappers and ways used, at the time X -/
def rS (X : Nat) (u : CaveT) (m : MdlT) (g : SndT) (t : MsnT) : Prop := (sR g = tRu t ∧ ∀ r, r < tRu t → sSy g r = tSy t r ∧ sPl g r = tPc t r) ∧ (∀ c, c < mC m → cSyl u c = tOwn m t c ∧ cDel u c = tDly m t c) ∧ (∀ c, c < mC m → bR X (tDly m t c) ((sCl g).testBit c) ((tCl t).testBit c)) ∧ ∀ r, r < tRu t → ∀ p, p < mP m → bR X (mTu m (4 * p + 2)) ((sU g r).testBit (2 * p)) ((tTh t r).testBit p) ∧ bR X (mTu m (4 * p + 2)) ((sU g r).testBit (2 * p + 1)) ((tBa t r).testBit p)
theorem rS.up {X Y : Nat} {u : CaveT} {m : MdlT} {g : SndT} {t : MsnT} (h : rS X u m g t) (hxy : X ≤ Y) : rS Y u m g t :=
  ⟨h.1, h.2.1, fun c hc => (h.2.2.1 c hc).up hxy, fun r hr p hp => ⟨(h.2.2.2 r hr p hp).1.up hxy, (h.2.2.2 r hr p hp).2.up hxy⟩⟩
/-- an entry of the reference's waiting row: not before X, and the way by which it comes is used up -/
def rN (X : Nat) (m : MdlT) (t : MsnT) (n : Nat) : Prop := X ≤ n / 19 / 17 / 12 ∧ n / 19 / 17 % 12 < mC m ∧ (0 < n % 19 → (if mTu m (4 * (n % 19 - 1)) = n / 19 / 17 % 12 then tBa t (n / 19 % 17) else tTh t (n / 19 % 17)).testBit (n % 19 - 1) = true)
def rW (X : Nat) (m : MdlT) (t : MsnT) : Prop := ∀ j, j < tWa t → rN X m t (tOd t j)
theorem rN_mono {X : Nat} {m : MdlT} {t t' : MsnT} {n : Nat} (h1 : ∀ p, (tTh t (n / 19 % 17)).testBit p = true → (tTh t' (n / 19 % 17)).testBit p = true) (h2 : ∀ p, (tBa t (n / 19 % 17)).testBit p = true → (tBa t' (n / 19 % 17)).testBit p = true) (h : rN X m t n) : rN X m t' n := by
  refine ⟨h.1, h.2.1, fun h0 => ?_⟩
  have h3 := h.2.2 h0
  by_cases hc : mTu m (4 * (n % 19 - 1)) = n / 19 / 17 % 12
  · rw [if_pos hc] at h3 ⊢; exact h2 _ h3
  · rw [if_neg hc] at h3 ⊢; exact h1 _ h3
theorem rS_come {X : Nat} {u : CaveT} {m : MdlT} {g : SndT} {t : MsnT} (h : rS X u m g t) (x c r b z : Nat) : rS X u m g (tCome x c r b z t) := by
  obtain ⟨h1, h2, h3, h4⟩ := h
  unfold tCome
  split
  · exact ⟨h1, h2, h3, h4⟩
  · exact ⟨h1, h2, h3, h4⟩
theorem rW_come {X : Nat} {m : MdlT} {t : MsnT} (h : rW X m t) {x c r b z : Nat} (hn : rN X m t (kR x c r b)) : rW X m (tCome x c r b z t) := by
  unfold tCome
  split
  · exact h
  · intro j hj
    have hj2 : j < tWa t + 1 := hj
    exact tIns_all (P := rN X m t) (kR x c r b) z hn (tWa t) (tOd t) (tPw t) (tWa t) (Nat.le_refl _) (fun i hi hne => h i (by omega)) j (by omega)
theorem bit_or (a p i : Nat) (h : a.testBit i = true) : (a ||| 2 ^ p).testBit i = true := by rw [fb_bit_set, h]; rfl
theorem rN_th {X : Nat} {m : MdlT} {t : MsnT} {r p n : Nat} (h : rN X m t n) : rN X m (tThS t r (tTh t r ||| 2 ^ p)) n :=
  rN_mono (t := t) (fun i hi => by
    show (eN (tTh t) r (tTh t r ||| 2 ^ p) (n / 19 % 17)).testBit i = true
    by_cases e : n / 19 % 17 = r
    · rw [e, eN_self]; rw [e] at hi; exact bit_or _ _ _ hi
    · rw [eN_ne _ _ e]; exact hi) (fun i hi => hi) h
theorem rN_ba {X : Nat} {m : MdlT} {t : MsnT} {r p n : Nat} (h : rN X m t n) : rN X m (tBaS t r (tBa t r ||| 2 ^ p)) n :=
  rN_mono (t := t) (fun i hi => hi) (fun i hi => by
    show (eN (tBa t) r (tBa t r ||| 2 ^ p) (n / 19 % 17)).testBit i = true
    by_cases e : n / 19 % 17 = r
    · rw [e, eN_self]; rw [e] at hi; exact bit_or _ _ _ hi
    · rw [eN_ne _ _ e]; exact hi) h
theorem rS_thA {X : Nat} {u : CaveT} {m : MdlT} {g : SndT} {t : MsnT} (h : rS X u m g t) {r p : Nat} (hx : 200 < X + mTu m (4 * p + 2)) : rS X u m g (tThS t r (tTh t r ||| 2 ^ p)) := by
  obtain ⟨h1, h2, h3, h4⟩ := h
  refine ⟨h1, h2, h3, fun i hi j hj => ?_⟩
  obtain ⟨b1, b2⟩ := h4 i hi j hj
  refine ⟨?_, b2⟩
  show bR X _ _ ((eN (tTh t) r (tTh t r ||| 2 ^ p) i).testBit j)
  by_cases e : i = r
  · rw [e, eN_self, fb_bit_set]; rw [e] at b1
    exact b1.late _ (fun hd => by rw [of_decide_eq_true hd]; exact hx)
  · rw [eN_ne _ _ e]; exact b1
theorem rS_baA {X : Nat} {u : CaveT} {m : MdlT} {g : SndT} {t : MsnT} (h : rS X u m g t) {r p : Nat} (hx : 200 < X + mTu m (4 * p + 2)) : rS X u m g (tBaS t r (tBa t r ||| 2 ^ p)) := by
  obtain ⟨h1, h2, h3, h4⟩ := h
  refine ⟨h1, h2, h3, fun i hi j hj => ?_⟩
  obtain ⟨b1, b2⟩ := h4 i hi j hj
  refine ⟨b1, ?_⟩
  show bR X _ _ ((eN (tBa t) r (tBa t r ||| 2 ^ p) i).testBit j)
  by_cases e : i = r
  · rw [e, eN_self, fb_bit_set]; rw [e] at b2
    exact b2.late _ (fun hd => by rw [of_decide_eq_true hd]; exact hx)
  · rw [eN_ne _ _ e]; exact b2
theorem rS_thB {X : Nat} {u : CaveT} {m : MdlT} {g : SndT} {t : MsnT} (h : rS X u m g t) (r p : Nat) : rS X u m (sUse g r (2 * p)) (tThS t r (tTh t r ||| 2 ^ p)) := by
  obtain ⟨h1, h2, h3, h4⟩ := h
  refine ⟨h1, h2, h3, fun i hi j hj => ?_⟩
  obtain ⟨b1, b2⟩ := h4 i hi j hj
  show bR X _ ((eN (sU g) r (sU g r ||| 2 ^ (2 * p)) i).testBit (2 * j)) ((eN (tTh t) r (tTh t r ||| 2 ^ p) i).testBit j) ∧ bR X _ ((eN (sU g) r (sU g r ||| 2 ^ (2 * p)) i).testBit (2 * j + 1)) ((tBa t i).testBit j)
  by_cases e : i = r
  · rw [e, eN_self, eN_self, fb_bit_set, fb_bit_set, fb_bit_set]; rw [e] at b1 b2
    rw [show decide (2 * j = 2 * p) = decide (j = p) from decide_eq_decide.mpr (by omega), show decide (2 * j + 1 = 2 * p) = false from decide_eq_false (by omega), Bool.or_false]
    exact ⟨b1.both _, b2⟩
  · rw [eN_ne _ _ e, eN_ne _ _ e]; exact ⟨b1, b2⟩
theorem rS_baB {X : Nat} {u : CaveT} {m : MdlT} {g : SndT} {t : MsnT} (h : rS X u m g t) (r p : Nat) : rS X u m (sUse g r (2 * p + 1)) (tBaS t r (tBa t r ||| 2 ^ p)) := by
  obtain ⟨h1, h2, h3, h4⟩ := h
  refine ⟨h1, h2, h3, fun i hi j hj => ?_⟩
  obtain ⟨b1, b2⟩ := h4 i hi j hj
  show bR X _ ((eN (sU g) r (sU g r ||| 2 ^ (2 * p + 1)) i).testBit (2 * j)) ((tTh t i).testBit j) ∧ bR X _ ((eN (sU g) r (sU g r ||| 2 ^ (2 * p + 1)) i).testBit (2 * j + 1)) ((eN (tBa t) r (tBa t r ||| 2 ^ p) i).testBit j)
  by_cases e : i = r
  · rw [e, eN_self, eN_self, fb_bit_set, fb_bit_set, fb_bit_set]; rw [e] at b1 b2
    rw [show decide (2 * j + 1 = 2 * p + 1) = decide (j = p) from decide_eq_decide.mpr (by omega), show decide (2 * j = 2 * p + 1) = false from decide_eq_false (by omega), Bool.or_false]
    exact ⟨b1, b2.both _⟩
  · rw [eN_ne _ _ e, eN_ne _ _ e]; exact ⟨b1, b2⟩
theorem bit_t {a p : Nat} (h : a / 2 ^ p % 2 = 1) : a.testBit p = true := by rw [Nat.testBit_eq_decide_div_mod_eq]; exact decide_eq_true h
theorem bit_f {a p : Nat} (h : ¬ a / 2 ^ p % 2 = 1) : a.testBit p = false := by rw [Nat.testBit_eq_decide_div_mod_eq]; exact decide_eq_false h
theorem bit_at {a i j : Nat} (h : i = j) : (a ||| 2 ^ j).testBit i = true := by rw [fb_bit_set, decide_eq_true h, Bool.or_true]
set_option maxHeartbeats 1000000 in
/-- one way into a passage -/
theorem rGo {X : Nat} {u : CaveT} {m : MdlT} {g : SndT} {q : QueT} {t : MsnT} (hM : mOk m) (hT : tOk m t) (hC : rCav0 u m) (hS : rS X u m g t) (hQ : rQ q t) (hW : rW X m t) {c r p z : Nat} (hr : r < tRu t) (hp : p < mP m) (he : mTouch m p c) : rS X u m (gGo u p c r X z g q).1 (tGo m X c r p z t) ∧ rQ (gGo u p c r X z g q).2 (tGo m X c r p z t) ∧ rW X m (tGo m X c r p z t) := by
  obtain ⟨-, -, h5, h6, -, -⟩ := hC
  obtain ⟨e1, e2, e3, e4⟩ := h5 p hp
  obtain ⟨d1, d2, d3⟩ := h6 p hp
  have hp18 : p < 18 := by have := hM.2.1; omega
  have hC12 := hM.1.2
  have hr17 : r < 17 := by have := hT.1.1.1; omega
  by_cases hc : mTu m (4 * p) = c
  · have k1 : bitK u p c = 2 * p := by
      show 2 * p + (if cFrm u p = c then 0 else 1) = 2 * p
      rw [e1, if_pos hc, Nat.add_zero]
    have k2 : cOth u p c = mTu m (4 * p + 1) := by
      show (if cFrm u p = c then cTo u p else cFrm u p) = _
      rw [e1, if_pos hc, e2]
    have k3 : tOth m p c = mTu m (4 * p + 1) := by
      show mTu m (4 * p) + mTu m (4 * p + 1) - c = _
      omega
    have k4 : cBeh u p z = z * (90 - 5 * mTu m (4 * p + 3)) / 100 := by
      show z * (90 - 5 * cNar u p) / 100 = _
      rw [e4]
    have G : gGo u p c r X z g q = if 200 < X + mTu m (4 * p + 2) then (g, q) else if sU g r &&& 2 ^ (2 * p) = 0 then (sUse g r (2 * p), qPut q (pkC (X + mTu m (4 * p + 2)) (mTu m (4 * p + 1)) r (p + 1) (z * (90 - 5 * mTu m (4 * p + 3)) / 100))) else (g, q) := by
      unfold gGo
      rw [k1, k2, k4, e3]
    have T : tGo m X c r p z t = if tTh t r / 2 ^ p % 2 = 1 then t else tCome (X + mTu m (4 * p + 2)) (mTu m (4 * p + 1)) r (p + 1) (z * (90 - 5 * mTu m (4 * p + 3)) / 100) (tThS t r (tTh t r ||| 2 ^ p)) := by
      unfold tGo
      rw [if_pos hc, k3]
    rw [G, T]
    have b0 := (hS.2.2.2 r hr p hp).1
    by_cases hx : 200 < X + mTu m (4 * p + 2)
    · rw [if_pos hx]
      by_cases hb : tTh t r / 2 ^ p % 2 = 1
      · rw [if_pos hb]; exact ⟨hS, hQ, hW⟩
      · rw [if_neg hb, tCome_far _ _ _ _ _ _ hx]
        exact ⟨rS_thA hS hx, hQ, fun j hj => rN_th (hW j hj)⟩
    · rw [if_neg hx]
      have hbb := b0.eq hx
      by_cases hb : tTh t r / 2 ^ p % 2 = 1
      · rw [if_pos hb, if_neg (show ¬ sU g r &&& 2 ^ (2 * p) = 0 from fun h => by
          rw [fb_bit_nat, hbb, bit_t hb] at h; exact absurd h (by decide))]
        exact ⟨hS, hQ, hW⟩
      · rw [if_neg hb, if_pos (show sU g r &&& 2 ^ (2 * p) = 0 by rw [fb_bit_nat, hbb, bit_f hb])]
        obtain ⟨y1, y2, y3, y4⟩ := kR_t (t := X + mTu m (4 * p + 2)) (c := mTu m (4 * p + 1)) (r := r) (b := p + 1) (by omega) hr17 (by omega)
        refine ⟨rS_come (rS_thB hS r p) _ _ _ _ _, rQ_put (t := tThS t r (tTh t r ||| 2 ^ p)) hQ (by omega) hr17 (by omega) (by omega) (fun j hj hk => ?_), rW_come (t := tThS t r (tTh t r ||| 2 ^ p)) (fun j hj => rN_th (hW j hj)) ⟨by rw [y1]; omega, by rw [y2]; exact d2, fun _ => ?_⟩⟩
        · have hk2 : tOd t j = kR (X + mTu m (4 * p + 2)) (mTu m (4 * p + 1)) r (p + 1) := hk
          have h3 := (hW j hj).2.2
          rw [hk2, y2, y3, y4] at h3
          have h4 := h3 (by omega)
          rw [show p + 1 - 1 = p from rfl, if_neg d3, bit_f hb] at h4
          exact absurd h4 (by decide)
        · rw [y2, y3, y4, show p + 1 - 1 = p from rfl, if_neg d3]
          show (eN (tTh t) r (tTh t r ||| 2 ^ p) r).testBit p = true
          rw [eN_self]; exact bit_at rfl
  · have hc2 : mTu m (4 * p + 1) = c := he.resolve_left hc
    have k1 : bitK u p c = 2 * p + 1 := by
      show 2 * p + (if cFrm u p = c then 0 else 1) = 2 * p + 1
      rw [e1, if_neg hc]
    have k2 : cOth u p c = mTu m (4 * p) := by
      show (if cFrm u p = c then cTo u p else cFrm u p) = _
      rw [e1, if_neg hc]
    have k3 : tOth m p c = mTu m (4 * p) := by
      show mTu m (4 * p) + mTu m (4 * p + 1) - c = _
      omega
    have k4 : cBeh u p z = z * (90 - 5 * mTu m (4 * p + 3)) / 100 := by
      show z * (90 - 5 * cNar u p) / 100 = _
      rw [e4]
    have G : gGo u p c r X z g q = if 200 < X + mTu m (4 * p + 2) then (g, q) else if sU g r &&& 2 ^ (2 * p + 1) = 0 then (sUse g r (2 * p + 1), qPut q (pkC (X + mTu m (4 * p + 2)) (mTu m (4 * p)) r (p + 1) (z * (90 - 5 * mTu m (4 * p + 3)) / 100))) else (g, q) := by
      unfold gGo
      rw [k1, k2, k4, e3]
    have T : tGo m X c r p z t = if tBa t r / 2 ^ p % 2 = 1 then t else tCome (X + mTu m (4 * p + 2)) (mTu m (4 * p)) r (p + 1) (z * (90 - 5 * mTu m (4 * p + 3)) / 100) (tBaS t r (tBa t r ||| 2 ^ p)) := by
      unfold tGo
      rw [if_neg hc, k3]
    rw [G, T]
    have b0 := (hS.2.2.2 r hr p hp).2
    by_cases hx : 200 < X + mTu m (4 * p + 2)
    · rw [if_pos hx]
      by_cases hb : tBa t r / 2 ^ p % 2 = 1
      · rw [if_pos hb]; exact ⟨hS, hQ, hW⟩
      · rw [if_neg hb, tCome_far _ _ _ _ _ _ hx]
        exact ⟨rS_baA hS hx, hQ, fun j hj => rN_ba (hW j hj)⟩
    · rw [if_neg hx]
      have hbb := b0.eq hx
      by_cases hb : tBa t r / 2 ^ p % 2 = 1
      · rw [if_pos hb, if_neg (show ¬ sU g r &&& 2 ^ (2 * p + 1) = 0 from fun h => by
          rw [fb_bit_nat, hbb, bit_t hb] at h; exact absurd h (by decide))]
        exact ⟨hS, hQ, hW⟩
      · rw [if_neg hb, if_pos (show sU g r &&& 2 ^ (2 * p + 1) = 0 by rw [fb_bit_nat, hbb, bit_f hb])]
        obtain ⟨y1, y2, y3, y4⟩ := kR_t (t := X + mTu m (4 * p + 2)) (c := mTu m (4 * p)) (r := r) (b := p + 1) (by omega) hr17 (by omega)
        refine ⟨rS_come (rS_baB hS r p) _ _ _ _ _, rQ_put (t := tBaS t r (tBa t r ||| 2 ^ p)) hQ (by omega) hr17 (by omega) (by omega) (fun j hj hk => ?_), rW_come (t := tBaS t r (tBa t r ||| 2 ^ p)) (fun j hj => rN_ba (hW j hj)) ⟨by rw [y1]; omega, by rw [y2]; exact d1, fun _ => ?_⟩⟩
        · have hk2 : tOd t j = kR (X + mTu m (4 * p + 2)) (mTu m (4 * p)) r (p + 1) := hk
          have h3 := (hW j hj).2.2
          rw [hk2, y2, y3, y4] at h3
          have h4 := h3 (by omega)
          rw [show p + 1 - 1 = p from rfl, if_pos rfl, bit_f hb] at h4
          exact absurd h4 (by decide)
        · rw [y2, y3, y4, show p + 1 - 1 = p from rfl, if_pos rfl]
          show (eN (tBa t) r (tBa t r ||| 2 ^ p) r).testBit p = true
          rw [eN_self]; exact bit_at rfl
set_option maxHeartbeats 1000000 in
/-- a new run -/
theorem rStart {X : Nat} {u : CaveT} {m : MdlT} {g : SndT} {q : QueT} {t : MsnT} (hM : mOk m) (hT : tOk m t) (hS : rS X u m g t) (hQ : rQ q t) (hW : rW X m t) {x c p y z : Nat} (hr : tRu t < 17) (hc : c < mC m) (hx : x ≤ 200) (hX : X ≤ x) : rS X u m (sRunG y p c x z g q).1 (tStart x c p y z t) ∧ rQ (sRunG y p c x z g q).2 (tStart x c p y z t) ∧ rW X m (tStart x c p y z t) := by
  have e : sR g = tRu t := hS.1.1
  have hC12 := hM.1.2
  have hent := hT.1.2.2.2.2.2.2.2.1
  rw [show sRunG y p c x z g q = sRun y p c x z g q from if_neg (by omega), show tStart x c p y z t = tCome x c (tRu t) 0 z (tMore (tNew p y t)) from tMore_come _ _ _ _ _ _]
  obtain ⟨y1, y2, y3, y4⟩ := kR_t (t := x) (c := c) (r := tRu t) (b := 0) (by omega) hr (by omega)
  refine ⟨rS_come ?_ _ _ _ _ _, ?_, rW_come (t := tMore (tNew p y t)) (fun j hj => ?_) ⟨by rw [y1]; exact hX, by rw [y2]; exact hc, fun h0 => by omega⟩⟩
  · obtain ⟨⟨h0, h1⟩, h2, h3, h4⟩ := hS
    refine ⟨⟨by show sR g + 1 = tRu t + 1; rw [h0], fun r hr2 => ?_⟩, h2, h3, fun r hr2 i hi => ?_⟩
    · have hr3 : r < tRu t + 1 := hr2
      show eN (sSy g) (sR g) y r = eN (tSy t) (tRu t) y r ∧ eN (sPl g) (sR g) p r = eN (tPc t) (tRu t) p r
      rw [e]
      by_cases er : r = tRu t
      · rw [er, eN_self, eN_self, eN_self, eN_self]; exact ⟨rfl, rfl⟩
      · rw [eN_ne _ _ er, eN_ne _ _ er, eN_ne _ _ er, eN_ne _ _ er]; exact h1 r (by omega)
    · have hr3 : r < tRu t + 1 := hr2
      show bR X _ ((eN (sU g) (sR g) 0 r).testBit (2 * i)) ((eN (tTh t) (tRu t) 0 r).testBit i) ∧ bR X _ ((eN (sU g) (sR g) 0 r).testBit (2 * i + 1)) ((eN (tBa t) (tRu t) 0 r).testBit i)
      rw [e]
      by_cases er : r = tRu t
      · rw [er, eN_self, eN_self, eN_self, Nat.zero_testBit, Nat.zero_testBit, Nat.zero_testBit]
        exact ⟨⟨fun h => h, fun h => Or.inl h⟩, ⟨fun h => h, fun h => Or.inl h⟩⟩
      · rw [eN_ne _ _ er, eN_ne _ _ er, eN_ne _ _ er]; exact h4 r (by omega) i hi
  · show rQ (qPut q (pkC x c (sR g) 0 z)) _
    rw [e]
    exact rQ_put (t := tMore (tNew p y t)) hQ (by omega) hr (by omega) hx (fun j hj hk => by
      have hk2 : tOd t j = kR x c (tRu t) 0 := hk
      have := (hent j hj).2.1
      rw [hk2, y3] at this
      omega)
  · have hj2 : j < tWa t := hj
    have hru := (hent j hj2).2.1
    refine rN_mono (t := t) (fun i hi => ?_) (fun i hi => ?_) (hW j hj2)
    · show (eN (tTh t) (tRu t) 0 (tOd t j / 19 % 17)).testBit i = true
      rw [eN_ne _ _ (by omega)]; exact hi
    · show (eN (tBa t) (tRu t) 0 (tOd t j / 19 % 17)).testBit i = true
      rw [eN_ne _ _ (by omega)]; exact hi
theorem rS_setA {X : Nat} {u : CaveT} {m : MdlT} {g : SndT} {t : MsnT} (h : rS X u m g t) {c : Nat} (hx : 200 < X + tDly m t c) : rS X u m g (tSet t c) := by
  obtain ⟨h1, h2, h3, h4⟩ := h
  refine ⟨h1, h2, fun i hi => ?_, h4⟩
  show bR X (tDly m t i) _ ((tCl t ||| 2 ^ c).testBit i)
  rw [fb_bit_set]
  exact (h3 i hi).late _ (fun hd => by rw [of_decide_eq_true hd]; exact hx)
theorem rS_setB {X : Nat} {u : CaveT} {m : MdlT} {g : SndT} {t : MsnT} (h : rS X u m g t) (c : Nat) : rS X u m (sClp g c) (tSet t c) := by
  obtain ⟨h1, h2, h3, h4⟩ := h
  refine ⟨h1, h2, fun i hi => ?_, h4⟩
  show bR X (tDly m t i) ((sCl g ||| 2 ^ c).testBit i) ((tCl t ||| 2 ^ c).testBit i)
  rw [fb_bit_set, fb_bit_set]
  exact (h3 i hi).both _
set_option maxHeartbeats 1000000 in
/-- the clapper there -/
theorem rClap {X : Nat} {u : CaveT} {m : MdlT} {g : SndT} {q : QueT} {t : MsnT} (hM : mOk m) (hT : tOk m t) (hS : rS X u m g t) (hQ : rQ q t) (hW : rW X m t) {c r : Nat} (hc : c < mC m) (hr : r < tRu t) : rS X u m (gClap u c r X g q).1 (tClap m X c r t) ∧ rQ (gClap u c r X g q).2 (tClap m X c r t) ∧ rW X m (tClap m X c r t) := by
  have hC12 := hM.1.2
  obtain ⟨s1, s2⟩ := hS.2.1 c hc
  obtain ⟨s3, s4⟩ := hS.1.2 r hr
  have b0 := hS.2.2.1 c hc
  have G : gClap u c r X g q = if tOwn m t c = tSy t r ∧ sCl g &&& 2 ^ c = 0 ∧ X + tDly m t c ≤ 200 then sRunG (tSy t r) (tPc t r) c (X + tDly m t c) 60 (sClp g c) q else (g, q) := by
    unfold gClap
    rw [s1, s2, s3, s4]
  rw [G]
  unfold tClap
  by_cases h1 : tOwn m t c = tSy t r
  · by_cases hx : 200 < X + tDly m t c
    · rw [if_neg (show ¬ (tOwn m t c = tSy t r ∧ sCl g &&& 2 ^ c = 0 ∧ X + tDly m t c ≤ 200) from fun h => by omega)]
      by_cases hb : tCl t / 2 ^ c % 2 = 1
      · rw [if_neg (show ¬ (tOwn m t c = tSy t r ∧ ¬ tCl t / 2 ^ c % 2 = 1) from fun h => h.2 hb)]
        exact ⟨hS, hQ, hW⟩
      · rw [if_pos (show tOwn m t c = tSy t r ∧ ¬ tCl t / 2 ^ c % 2 = 1 from ⟨h1, hb⟩), if_pos hx]
        exact ⟨rS_setA hS hx, hQ, hW⟩
    · have hbb := b0.eq hx
      by_cases hb : tCl t / 2 ^ c % 2 = 1
      · rw [if_neg (show ¬ (tOwn m t c = tSy t r ∧ ¬ tCl t / 2 ^ c % 2 = 1) from fun h => h.2 hb), if_neg (show ¬ (tOwn m t c = tSy t r ∧ sCl g &&& 2 ^ c = 0 ∧ X + tDly m t c ≤ 200) from fun h => by
          have h2 := h.2.1
          rw [fb_bit_nat, hbb, bit_t hb] at h2; exact absurd h2 (by decide))]
        exact ⟨hS, hQ, hW⟩
      · obtain ⟨q1, q2, q3⟩ := tClap_run hT (show c < 12 by omega) hr h1 hb
        rw [if_pos (show tOwn m t c = tSy t r ∧ ¬ tCl t / 2 ^ c % 2 = 1 from ⟨h1, hb⟩), if_neg hx, if_pos (show tOwn m t c = tSy t r ∧ sCl g &&& 2 ^ c = 0 ∧ X + tDly m t c ≤ 200 from ⟨h1, by rw [fb_bit_nat, hbb, bit_f hb], by omega⟩), h1]
        exact rStart (t := tSet t c) hM (tSet_ok hT (by omega) q2) (rS_setB hS c) hQ hW q1 hc (by omega) (by omega)
  · rw [if_neg (show ¬ (tOwn m t c = tSy t r ∧ sCl g &&& 2 ^ c = 0 ∧ X + tDly m t c ≤ 200) from fun h => h1 h.1), if_neg (show ¬ (tOwn m t c = tSy t r ∧ ¬ tCl t / 2 ^ c % 2 = 1) from fun h => h1 h.1)]
    exact ⟨hS, hQ, hW⟩
