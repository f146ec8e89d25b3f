/-! ===== what is told of a word doesn't depend on what the arrays held before ===== -/
def gS (g g' : SndT) : Prop := sR g = sR g' ∧ sCl g = sCl g' ∧ ∀ r, r < sR g → sSy g r = sSy g' r ∧ sPl g r = sPl g' r ∧ sU g r = sU g' r
def qS (q q' : QueT) : Prop := qN q = qN q' ∧ ∀ j, j < qN q → qH q j = qH q' j
def eS (h h' : EchT) : Prop := hEar h = hEar h' ∧ hK h = hK h' ∧ hCt h = hCt h'
theorem eN_S {f f' : Nat → Nat} {n : Nat} (h : ∀ j, j < n → f j = f' j) (t v : Nat) : ∀ j, j < n → eN f t v j = eN f' t v j := fun j hj => by
  by_cases e : j = t
  · rw [e, eN_self, eN_self]
  · rw [eN_ne _ _ e, eN_ne _ _ e]
    exact h j hj
theorem eN_S1 {f f' : Nat → Nat} {n : Nat} (h : ∀ j, j < n → f j = f' j) (v : Nat) : ∀ j, j < n + 1 → eN f n v j = eN f' n v j := fun j hj => by
  by_cases e : j = n
  · rw [e, eN_self, eN_self]
  · rw [eN_ne _ _ e, eN_ne _ _ e]
    exact h j (by omega)
/-- the places below n are alike, but the place t (that is written yet) -/
theorem qUp_S {n : Nat} : ∀ (f : Nat) (h h' : Nat → Nat) (t x : Nat), t < n → (∀ j, j < n → j ≠ t → h j = h' j) → ∀ j, j < n → qUp f h t x j = qUp f h' t x j
  | 0, h, h', t, x, _, e, j, hj => by
    show eN h t x j = eN h' t x j
    by_cases e2 : j = t
    · rw [e2, eN_self, eN_self]
    · rw [eN_ne _ _ e2, eN_ne _ _ e2]
      exact e j hj e2
  | f + 1, h, h', t, x, ht, e, j, hj => by
    show (if 0 < t ∧ x < h ((t - 1) / 2) then qUp f (eN h t (h ((t - 1) / 2))) ((t - 1) / 2) x else eN h t x) j = (if 0 < t ∧ x < h' ((t - 1) / 2) then qUp f (eN h' t (h' ((t - 1) / 2))) ((t - 1) / 2) x else eN h' t x) j
    have last : eN h t x j = eN h' t x j := by
      by_cases e2 : j = t
      · rw [e2, eN_self, eN_self]
      · rw [eN_ne _ _ e2, eN_ne _ _ e2]
        exact e j hj e2
    by_cases h0 : 0 < t
    · have ep : h ((t - 1) / 2) = h' ((t - 1) / 2) := e _ (by omega) (by omega)
      rw [← ep]
      by_cases hx : x < h ((t - 1) / 2)
      · rw [if_pos ⟨h0, hx⟩, if_pos ⟨h0, hx⟩]
        refine qUp_S f _ _ _ x (by omega) (fun i hi hne => ?_) j hj
        by_cases e2 : i = t
        · rw [e2, eN_self, eN_self]
        · rw [eN_ne _ _ e2, eN_ne _ _ e2]
          exact e i hi e2
      · rw [if_neg (fun hh => hx hh.2), if_neg (fun hh => hx hh.2)]
        exact last
    · rw [if_neg (fun hh => h0 hh.1), if_neg (fun hh => h0 hh.1)]
      exact last
theorem qSink_S {n : Nat} : ∀ (f : Nat) (h h' : Nat → Nat) (t x : Nat), (∀ j, j < n → h j = h' j) → ∀ j, j < n → qSink n f h t x j = qSink n f h' t x j
  | 0, h, h', t, x, e, j, hj => eN_S e t x j hj
  | f + 1, h, h', t, x, e, j, hj => by
    rw [qSink_s, qSink_s]
    by_cases h0 : 2 * t + 1 < n
    · rw [if_pos h0, if_pos h0]
      have es : qSon n h t = qSon n h' t := by
        show (if 2 * t + 1 + 1 < n ∧ h (2 * t + 1 + 1) < h (2 * t + 1) then 2 * t + 1 + 1 else 2 * t + 1) = if 2 * t + 1 + 1 < n ∧ h' (2 * t + 1 + 1) < h' (2 * t + 1) then 2 * t + 1 + 1 else 2 * t + 1
        by_cases h1 : 2 * t + 1 + 1 < n
        · rw [e _ h1, e _ h0]
        · rw [if_neg (fun hh => h1 hh.1), if_neg (fun hh => h1 hh.1)]
      have hs : qSon n h t < n := by
        show (if 2 * t + 1 + 1 < n ∧ h (2 * t + 1 + 1) < h (2 * t + 1) then 2 * t + 1 + 1 else 2 * t + 1) < n
        split <;> omega
      rw [← es, ← e _ hs]
      by_cases hx : x < h (qSon n h t)
      · rw [if_pos hx, if_pos hx]
        exact eN_S e t x j hj
      · rw [if_neg hx, if_neg hx]
        exact qSink_S f _ _ _ x (eN_S e t _) j hj
    · rw [if_neg h0, if_neg h0]
      exact eN_S e t x j hj
theorem qS_put {q q' : QueT} (h : qS q q') (x : Nat) : qS (qPut q x) (qPut q' x) := by
  obtain ⟨h1, h2⟩ := h
  refine ⟨congrArg (· + 1) h1, fun j hj => ?_⟩
  show qUp (qN q) (qH q) (qN q) x j = qUp (qN q') (qH q') (qN q') x j
  rw [← h1]
  have hj2 : j < qN q + 1 := hj
  exact qUp_S (n := qN q + 1) _ _ _ _ x (by omega) (fun i hi hne => h2 i (by omega)) j hj2
theorem qS_take {q q' : QueT} (h : qS q q') (h0 : 0 < qN q) : qS (qTake q) (qTake q') := by
  obtain ⟨h1, h2⟩ := h
  refine ⟨congrArg (· - 1) h1, fun j hj => ?_⟩
  show qSink (qN q - 1) (qN q - 1) (qH q) 0 (qH q (qN q - 1)) j = qSink (qN q' - 1) (qN q' - 1) (qH q') 0 (qH q' (qN q' - 1)) j
  have hj2 : j < qN q - 1 := hj
  rw [← h1, ← h2 (qN q - 1) (by omega)]
  exact qSink_S _ _ _ _ _ (fun i hi => h2 i (by omega)) j hj2
theorem gS_use {g g' : SndT} (h : gS g g') (r k : Nat) (hr : r < sR g) : gS (sUse g r k) (sUse g' r k) := by
  obtain ⟨h1, h2, h3⟩ := h
  refine ⟨h1, h2, fun i hi => ⟨(h3 i hi).1, (h3 i hi).2.1, ?_⟩⟩
  show eN (sU g) r (sU g r ||| 2 ^ k) i = eN (sU g') r (sU g' r ||| 2 ^ k) i
  rw [(h3 r hr).2.2]
  exact eN_S (n := sR g) (fun j hj => (h3 j hj).2.2) r _ i hi
theorem gGo_S (u : CaveT) {i c r t z : Nat} {g g' : SndT} {q q' : QueT} (h : gS g g') (hq : qS q q') (hr : r < sR g) : gS (gGo u i c r t z g q).1 (gGo u i c r t z g' q').1 ∧ qS (gGo u i c r t z g q).2 (gGo u i c r t z g' q').2 ∧ sR (gGo u i c r t z g q).1 = sR g := by
  unfold gGo
  rw [← (h.2.2 r hr).2.2]
  split
  · exact ⟨h, hq, rfl⟩
  · split
    · exact ⟨gS_use h _ _ hr, qS_put hq _, rfl⟩
    · exact ⟨h, hq, rfl⟩
theorem sRunG_S {y p c t z : Nat} {g g' : SndT} {q q' : QueT} (h : gS g g') (hq : qS q q') : gS (sRunG y p c t z g q).1 (sRunG y p c t z g' q').1 ∧ qS (sRunG y p c t z g q).2 (sRunG y p c t z g' q').2 ∧ sR g ≤ sR (sRunG y p c t z g q).1 := by
  obtain ⟨h1, h2, h3⟩ := h
  unfold sRunG
  rw [← h1]
  split
  · exact ⟨⟨h1, h2, h3⟩, hq, Nat.le_refl _⟩
  · refine ⟨⟨congrArg (· + 1) h1, h2, fun i hi => ?_⟩, ?_, Nat.le_succ _⟩
    · have hi2 : i < sR g + 1 := hi
      show eN (sSy g) (sR g) y i = eN (sSy g') (sR g') y i ∧ eN (sPl g) (sR g) p i = eN (sPl g') (sR g') p i ∧ eN (sU g) (sR g) 0 i = eN (sU g') (sR g') 0 i
      rw [← h1]
      exact ⟨eN_S1 (fun j hj => (h3 j hj).1) y i hi2, eN_S1 (fun j hj => (h3 j hj).2.1) p i hi2, eN_S1 (fun j hj => (h3 j hj).2.2) 0 i hi2⟩
    · show qS (qPut q (pkC t c (sR g) 0 z)) (qPut q' (pkC t c (sR g') 0 z))
      rw [← h1]
      exact qS_put hq _
theorem gClap_S (u : CaveT) {c r t : Nat} {g g' : SndT} {q q' : QueT} (h : gS g g') (hq : qS q q') (hr : r < sR g) : gS (gClap u c r t g q).1 (gClap u c r t g' q').1 ∧ qS (gClap u c r t g q).2 (gClap u c r t g' q').2 ∧ sR g ≤ sR (gClap u c r t g q).1 := by
  unfold gClap
  rw [← (h.2.2 r hr).1, ← (h.2.2 r hr).2.1, ← h.2.1]
  split
  · refine sRunG_S (g := sClp g c) ⟨h.1, ?_, h.2.2⟩ hq
    show sCl g ||| 2 ^ c = sCl g' ||| 2 ^ c
    rw [h.2.1]
  · exact ⟨h, hq, Nat.le_refl _⟩
theorem gOn_S (u : CaveT) {c r t z : Nat} {v : Int32} {g g' : SndT} {q q' : QueT} (h : gS g g') (hq : qS q q') (hr : r < sR g) : ∀ d, gS (gOn u c r v t z g q d).1 (gOn u c r v t z g' q' d).1 ∧ qS (gOn u c r v t z g q d).2 (gOn u c r v t z g' q' d).2 ∧ sR (gOn u c r v t z g q d).1 = sR g
  | 0 => ⟨h, hq, rfl⟩
  | d + 1 => by
    obtain ⟨i1, i2, i3⟩ := gOn_S u h hq hr (c := c) (t := t) (z := z) (v := v) d
    show gS (gOnS u c r v t z d (gOn u c r v t z g q d)).1 (gOnS u c r v t z d (gOn u c r v t z g' q' d)).1 ∧ qS (gOnS u c r v t z d (gOn u c r v t z g q d)).2 (gOnS u c r v t z d (gOn u c r v t z g' q' d)).2 ∧ sR (gOnS u c r v t z d (gOn u c r v t z g q d)).1 = sR g
    unfold gOnS
    split
    · exact ⟨i1, i2, i3⟩
    · split
      · obtain ⟨j1, j2, j3⟩ := gGo_S u (i := cPb u c d) (c := c) (t := t) (z := z) i1 i2 (show r < _ by omega)
        exact ⟨j1, j2, j3.trans i3⟩
      · exact ⟨i1, i2, i3⟩
theorem gFar_S (u : CaveT) {t c r b z : Nat} {g g' : SndT} {q q' : QueT} (h : gS g g') (hq : qS q q') (hr : r < sR g) : gS (gFar u t c r b z g q).1 (gFar u t c r b z g' q').1 ∧ qS (gFar u t c r b z g q).2 (gFar u t c r b z g' q').2 := by
  obtain ⟨i1, i2, i3⟩ := gClap_S u (c := c) (t := t) h hq hr
  obtain ⟨j1, j2, j3⟩ := gOn_S u (c := c) (t := t) (z := z) (v := pW b) i1 i2 (show r < _ by omega) (cDrs u c)
  unfold gFar gRest
  split
  · obtain ⟨k1, k2, -⟩ := gGo_S u (i := b - 1) (c := c) (t := t) (z := z * cWal u c / 100) j1 j2 (show r < _ by omega)
    exact ⟨k1, k2⟩
  · exact ⟨j1, j2⟩
theorem hHear_S {h h' : EchT} (e : eS h h') (t p y z p' y' : Nat) : eS (hHear h t p y z) (hHear h' t p' y' z) := by
  obtain ⟨e1, e2, e3⟩ := e
  unfold hHear
  rw [← e1, ← e2]
  split
  · exact ⟨e1, e2, e3⟩
  · split
    · exact ⟨e1, congrArg (· + 1) e2, congrArg (· + 1) e3⟩
    · exact ⟨e1, congrArg (· + 1) e2, e3⟩
theorem gCome_S (u : CaveT) {x : Nat} {g g' : SndT} {q q' : QueT} {h h' : EchT} (e : gS g g') (hq : qS q q') (eh : eS h h') : gS (gCome u x g q h).1 (gCome u x g' q' h').1 ∧ qS (gCome u x g q h).2.1 (gCome u x g' q' h').2.1 ∧ eS (gCome u x g q h).2.2 (gCome u x g' q' h').2.2 := by
  unfold gCome gComeP
  rw [← e.1]
  have em : eS (hMay (x / 2 ^ 21) (x / 2 ^ 17 % 2 ^ 4) (x / 2 ^ 12 % 2 ^ 5) (x / 2 ^ 7 % 2 ^ 5) (x % 2 ^ 7) g h) (hMay (x / 2 ^ 21) (x / 2 ^ 17 % 2 ^ 4) (x / 2 ^ 12 % 2 ^ 5) (x / 2 ^ 7 % 2 ^ 5) (x % 2 ^ 7) g' h') := by
    unfold hMay
    split
    · exact hHear_S eh _ _ _ _ _ _
    · exact eh
  split
  · exact ⟨e, hq, eh⟩
  · rename_i hn
    split
    · exact ⟨e, hq, em⟩
    · obtain ⟨k1, k2⟩ := gFar_S u (t := x / 2 ^ 21) (c := x / 2 ^ 17 % 2 ^ 4) (b := x / 2 ^ 7 % 2 ^ 5) (z := x % 2 ^ 7) e hq (r := x / 2 ^ 12 % 2 ^ 5) (by omega)
      exact ⟨k1, k2, em⟩
theorem gLoop_S (u : CaveT) : ∀ (f : Nat) (s s' : SndT × QueT × EchT), gS s.1 s'.1 → qS s.2.1 s'.2.1 → eS s.2.2 s'.2.2 → eS (gLoop u f s).2.2 (gLoop u f s').2.2
  | 0, _, _, _, _, h => h
  | f + 1, s, s', e, hq, eh => by
    show eS (if qN s.2.1 = 0 then s else gLoop u f (gCome u (qH s.2.1 0) s.1 (qTake s.2.1) s.2.2)).2.2 (if qN s'.2.1 = 0 then s' else gLoop u f (gCome u (qH s'.2.1 0) s'.1 (qTake s'.2.1) s'.2.2)).2.2
    rw [← hq.1]
    split
    · exact eh
    · rename_i h0
      rw [← hq.2 0 (by omega)]
      obtain ⟨a, b, c⟩ := gCome_S u (x := qH s.2.1 0) e (qS_take hq (by omega)) eh
      exact gLoop_S u f _ _ a b c
theorem gSay_S (w n b : Nat) {g g' : SndT} {q q' : QueT} (h : gS g g') (hq : qS q q') : ∀ i, gS (gSay w n b g q i).1 (gSay w n b g' q' i).1 ∧ qS (gSay w n b g q i).2 (gSay w n b g' q' i).2
  | 0 => ⟨h, hq⟩
  | i + 1 => by
    obtain ⟨a, b9⟩ := gSay_S w n b h hq i
    obtain ⟨c, d, -⟩ := sRunG_S (y := w / 10 ^ (n - 1 - i) % 10) (p := i) (c := 0) (t := i * b) (z := 100) a b9
    exact ⟨c, d⟩
/-- what counts of a word, whatever was there before -/
theorem told_S (u : CaveT) (w b x : Nat) (g g' : SndT) (q q' : QueT) (h h' : EchT) : hCt (gThrough u w b x g q h).2.2 = hCt (gThrough u w b x g' q' h').2.2 := by
  obtain ⟨a, b9⟩ := gSay_S w (dgs 6 w) b (g := gZero g) (g' := gZero g') (q := qZero q) (q' := qZero q') ⟨rfl, rfl, fun r hr => absurd hr (Nat.not_lt_zero r)⟩ ⟨rfl, fun j hj => absurd hj (Nat.not_lt_zero j)⟩ (dgs 6 w)
  exact (gLoop_S u 629 _ _ a b9 (show eS (hBegin h (dgs 6 w) x) (hBegin h' (dgs 6 w) x) from ⟨rfl, rfl, rfl⟩)).2.2
