/-! ===== what is heard: times, places, syllables, strengths ===== -/
/-- how a cave lies: passages between two different chambers that are there, 1 long at least; the doors are the passages there -/
def cGeo (u : CaveT) : Prop := (∀ p, p < cP u → (cFrm u p < cC u ∧ cTo u p < cC u) ∧ cFrm u p ≠ cTo u p ∧ 1 ≤ cLen u p) ∧ ∀ c k, k < cDrs u c → cPb u c k < cP u ∧ (cFrm u (cPb u c k) = c ∨ cTo u (cPb u c k) = c)
/-- L is no more than the open passages at the chamber 0 are long -/
def cLst (u : CaveT) (L : Nat) : Prop := ∀ p, p < cP u → cOpen u p → (cFrm u p = 0 ∨ cTo u p = 0) → L ≤ cLen u p
def jP (u : CaveT) (L B T p t c b z : Nat) : Prop := (T ≤ t ∧ t ≤ 200) ∧ (c < cC u ∧ b ≤ cP u) ∧ (0 < b → cOpen u (b - 1) ∧ (cFrm u (b - 1) = c ∨ cTo u (b - 1) = c)) ∧ (c = 0 → p * B ≤ t ∧ z ≤ 100) ∧ (c ≠ 0 → p * B + L ≤ t ∧ z ≤ 90) ∧ (c = 0 → 0 < b → p * B + 2 * L ≤ t ∧ z ≤ 81)
def jX (u : CaveT) (L B T : Nat) (g : SndT) (x : Nat) : Prop := x / 2 ^ 12 % 2 ^ 5 < sR g ∧ jP u L B T (sPl g (x / 2 ^ 12 % 2 ^ 5)) (x / 2 ^ 21) (x / 2 ^ 17 % 2 ^ 4) (x / 2 ^ 7 % 2 ^ 5) (x % 2 ^ 7)
def jR (w n : Nat) (g : SndT) : Prop := ∀ r, r < sR g → sPl g r < n ∧ sSy g r = w / 10 ^ (n - 1 - sPl g r) % 10
def jQ (u : CaveT) (L B T w n : Nat) (g : SndT) (q : QueT) : Prop := (sR g ≤ 17 ∧ hpOk (qN q) (qH q)) ∧ (∀ j, j < qN q → jX u L B T g (qH q j)) ∧ jR w n g
theorem qPut_mem {q : QueT} {x j : Nat} (hj : j < qN (qPut q x)) : qH (qPut q x) j = x ∨ ∃ i, i < qN q ∧ qH q i = qH (qPut q x) j := by
  have h1 := hCn_has (h := qH (qPut q x)) hj
  rw [qPut_cn] at h1
  by_cases e : x = qH (qPut q x) j
  · exact Or.inl e.symm
  · rw [if_neg e] at h1
    exact Or.inr (hCn_pos (by omega))
theorem qTake_mem {q : QueT} (h0 : 0 < qN q) {j : Nat} (hj : j < qN (qTake q)) : ∃ i, i < qN q ∧ qH q i = qH (qTake q) j := by
  have h1 := hCn_has (h := qH (qTake q)) hj
  have h2 := qTake_cn h0 (qH (qTake q) j)
  exact hCn_pos (by omega)
theorem jX_mono {u : CaveT} {L B T : Nat} {g g' : SndT} {x : Nat} (h : jX u L B T g x) (h1 : sR g ≤ sR g') (h2 : ∀ r, r < sR g → sPl g' r = sPl g r) : jX u L B T g' x := by
  obtain ⟨a, b⟩ := h
  refine ⟨by omega, ?_⟩
  rw [h2 _ a]
  exact b
theorem jX_pk {u : CaveT} {L B T : Nat} {g : SndT} {t c r b z : Nat} (hc : c < 16) (hr : r < 32) (hb : b < 32) (hz : z < 128) (h1 : r < sR g) (h2 : jP u L B T (sPl g r) t c b z) : jX u L B T g (pkC t c r b z) := by
  obtain ⟨e1, e2, e3, e4, e5⟩ := pkC_t (t := t) hc hr hb hz
  unfold jX
  rw [e1, e2, e3, e4, e5]
  exact ⟨h1, h2⟩
theorem jQ_put {u : CaveT} {L B T w n : Nat} {g g' : SndT} {q : QueT} (h : jQ u L B T w n g q) (h0 : sR g' ≤ 17) (h1 : sR g ≤ sR g') (h2 : ∀ r, r < sR g → sPl g' r = sPl g r) (h3 : jR w n g') {x : Nat} (hx : jX u L B T g' x) : jQ u L B T w n g' (qPut q x) := by
  obtain ⟨⟨a1, a2⟩, a3, a4⟩ := h
  refine ⟨⟨h0, qPut_hp a2 x⟩, fun j hj => ?_, h3⟩
  rcases qPut_mem hj with e | ⟨i, hi, e⟩
  · rw [e]; exact hx
  · rw [← e]; exact jX_mono (a3 i hi) h1 h2
theorem jQ_use {u : CaveT} {L B T w n : Nat} {g : SndT} {q : QueT} (h : jQ u L B T w n g q) (r k : Nat) : jQ u L B T w n (sUse g r k) q := h
theorem beh_le (u : CaveT) (i : Nat) {z M : Nat} (hz : z ≤ M) : cBeh u i z ≤ M * 90 / 100 := by
  show z * (90 - 5 * cNar u i) / 100 ≤ M * 90 / 100
  exact Nat.div_le_div_right (Nat.mul_le_mul hz (by omega))
/-- on by the passage i -/
theorem jGo {u : CaveT} {L B T w n : Nat} {g : SndT} {q : QueT} (hB : cOk u) (hG : cGeo u) (hL : cLst u L) (h : jQ u L B T w n g q) {i c r t z : Nat} (hi : i < cP u) (ho : cOpen u i) (he : cFrm u i = c ∨ cTo u i = c) (hr : r < sR g) (hT : T ≤ t) (h0 : c = 0 → sPl g r * B ≤ t ∧ z ≤ 100) (h1 : c ≠ 0 → sPl g r * B + L ≤ t ∧ z ≤ 90) : jQ u L B T w n (gGo u i c r t z g q).1 (gGo u i c r t z g q).2 ∧ sR (gGo u i c r t z g q).1 = sR g ∧ sPl (gGo u i c r t z g q).1 = sPl g := by
  unfold gGo
  split
  · exact ⟨h, rfl, rfl⟩
  · rename_i hle
    split
    · refine ⟨jQ_put (g := g) h h.1.1 (Nat.le_refl _) (fun _ _ => rfl) h.2.2 ?_, rfl, rfl⟩
      obtain ⟨⟨g1, g2⟩, g3, g4⟩ := hG.1 i hi
      have hP := hB.2.1
      have hC := hB.1.2
      have hz : z ≤ 100 := by
        by_cases hc : c = 0
        · exact (h0 hc).2
        · have := (h1 hc).2; omega
      have hoC : cOth u i c < cC u := by
        show (if cFrm u i = c then cTo u i else cFrm u i) < cC u
        split <;> assumption
      have hoT : cFrm u i = cOth u i c ∨ cTo u i = cOth u i c := by
        show cFrm u i = (if cFrm u i = c then cTo u i else cFrm u i) ∨ cTo u i = (if cFrm u i = c then cTo u i else cFrm u i)
        split
        · exact Or.inr rfl
        · exact Or.inl rfl
      have hoN : cOth u i c ≠ c := by
        show (if cFrm u i = c then cTo u i else cFrm u i) ≠ c
        split
        · rename_i e; intro e2; exact g3 (e.trans e2.symm)
        · assumption
      have hr17 := h.1.1
      have hb100 := beh_le u i hz
      refine jX_pk (by omega) (by omega) (by omega) (by omega) hr ⟨⟨by omega, by omega⟩, ⟨hoC, by omega⟩, fun _ => ?_, fun e => ?_, fun e => ?_, fun e _ => ?_⟩
      · rw [Nat.add_sub_cancel]; exact ⟨ho, hoT⟩
      · have hc : c ≠ 0 := fun e2 => hoN (e.trans e2.symm)
        have := h1 hc
        have := beh_le u i this.2
        exact ⟨by show sPl g r * B ≤ _; omega, by omega⟩
      · by_cases hc : c = 0
        · have h2 := h0 hc
          have h3 := hL i hi ho (by rw [← hc]; exact he)
          have := beh_le u i h2.2
          exact ⟨by show sPl g r * B + L ≤ _; omega, by omega⟩
        · have h2 := h1 hc
          have := beh_le u i h2.2
          exact ⟨by show sPl g r * B + L ≤ _; omega, by omega⟩
      · have hc : c ≠ 0 := fun e2 => hoN (e.trans e2.symm)
        have h2 := h1 hc
        have h3 := hL i hi ho (by rw [← e]; exact hoT)
        have := beh_le u i h2.2
        exact ⟨by show sPl g r * B + 2 * L ≤ _; omega, by omega⟩
    · exact ⟨h, rfl, rfl⟩
/-- a run begins -/
theorem jRun {u : CaveT} {L B T w n : Nat} {g : SndT} {q : QueT} (hB : cOk u) (h : jQ u L B T w n g q) {y p c t z : Nat} (hp : p < n ∧ y = w / 10 ^ (n - 1 - p) % 10) (hx : jP u L B T p t c 0 z) (hz : z ≤ 100) : jQ u L B T w n (sRunG y p c t z g q).1 (sRunG y p c t z g q).2 ∧ sR g ≤ sR (sRunG y p c t z g q).1 ∧ ∀ r, r < sR g → sPl (sRunG y p c t z g q).1 r = sPl g r := by
  unfold sRunG
  split
  · exact ⟨h, Nat.le_refl _, fun _ _ => rfl⟩
  · rename_i h17
    have hpl : ∀ r, r < sR g → eN (sPl g) (sR g) p r = sPl g r := fun r hr => eN_ne _ _ (by omega)
    refine ⟨jQ_put (g := g) h (by show sR g + 1 ≤ 17; omega) (by show sR g ≤ sR g + 1; omega) hpl (fun r hr => ?_) ?_, by show sR g ≤ sR g + 1; omega, hpl⟩
    · show eN (sPl g) (sR g) p r < n ∧ eN (sSy g) (sR g) y r = w / 10 ^ (n - 1 - eN (sPl g) (sR g) p r) % 10
      by_cases e : r = sR g
      · subst e
        rw [eN_self, eN_self]
        exact hp
      · have hr2 : r < sR g + 1 := hr
        rw [eN_ne _ _ e, eN_ne _ _ e]
        exact h.2.2 r (by omega)
    · have hC := hB.1.2
      have := hx.2.1.1
      refine jX_pk (by omega) (by omega) (by omega) (by omega) (by show sR g < sR g + 1; omega) ?_
      show jP u L B T (eN (sPl g) (sR g) p (sR g)) t c 0 z
      rw [eN_self]
      exact hx
theorem jClap {u : CaveT} {L B T w n : Nat} {g : SndT} {q : QueT} (hB : cOk u) (h : jQ u L B T w n g q) {c r t z b : Nat} (hr : r < sR g) (hx : jP u L B T (sPl g r) t c b z) : jQ u L B T w n (gClap u c r t g q).1 (gClap u c r t g q).2 ∧ sR g ≤ sR (gClap u c r t g q).1 ∧ ∀ i, i < sR g → sPl (gClap u c r t g q).1 i = sPl g i := by
  unfold gClap
  split
  · rename_i hh
    obtain ⟨⟨x1, x2⟩, ⟨x3, x4⟩, x5, x6, x7, x8⟩ := hx
    exact jRun (g := sClp g c) hB h (h.2.2 r hr) ⟨⟨by omega, hh.2.2⟩, ⟨x3, Nat.zero_le _⟩, fun h0 => absurd h0 (Nat.lt_irrefl 0), fun e => ⟨by have := (x6 e).1; omega, by omega⟩, fun e => ⟨by have := (x7 e).1; omega, by omega⟩, fun _ h0 => absurd h0 (Nat.lt_irrefl 0)⟩ (by omega)
  · exact ⟨h, Nat.le_refl _, fun _ _ => rfl⟩
theorem jOn {u : CaveT} {L B T w n : Nat} {g : SndT} {q : QueT} (hB : cOk u) (hG : cGeo u) (hL : cLst u L) (h : jQ u L B T w n g q) {c r t z : Nat} {v : Int32} (hr : r < sR g) (hT : T ≤ t) (h0 : c = 0 → sPl g r * B ≤ t ∧ z ≤ 100) (h1 : c ≠ 0 → sPl g r * B + L ≤ t ∧ z ≤ 90) : ∀ d, d ≤ cDrs u c → jQ u L B T w n (gOn u c r v t z g q d).1 (gOn u c r v t z g q d).2 ∧ sR (gOn u c r v t z g q d).1 = sR g ∧ sPl (gOn u c r v t z g q d).1 = sPl g
  | 0, _ => ⟨h, rfl, rfl⟩
  | d + 1, hd => by
    obtain ⟨i1, i2, i3⟩ := jOn hB hG hL h hr hT h0 h1 (v := v) d (by omega)
    show jQ u L B T w n (gOnS u c r v t z d (gOn u c r v t z g q d)).1 (gOnS u c r v t z d (gOn u c r v t z g q d)).2 ∧ sR (gOnS u c r v t z d (gOn u c r v t z g q d)).1 = sR g ∧ sPl (gOnS u c r v t z d (gOn u c r v t z g q d)).1 = sPl g
    unfold gOnS
    split
    · exact ⟨i1, i2, i3⟩
    · split
      · rename_i ho
        obtain ⟨k1, k2⟩ := hG.2 c d (by omega)
        obtain ⟨j1, j2, j3⟩ := jGo hB hG hL i1 (c := c) (r := r) (t := t) (z := z) k1 ho k2 (by omega) hT (by rw [i3]; exact h0) (by rw [i3]; exact h1)
        exact ⟨j1, j2.trans i2, j3.trans i3⟩
      · exact ⟨i1, i2, i3⟩
theorem jFar {u : CaveT} {L B T w n : Nat} {g : SndT} {q : QueT} (hB : cOk u) (hG : cGeo u) (hL : cLst u L) (h : jQ u L B T w n g q) {t c r b z : Nat} (hr : r < sR g) (hx : jP u L B T (sPl g r) t c b z) : jQ u L B T w n (gFar u t c r b z g q).1 (gFar u t c r b z g q).2 := by
  obtain ⟨i1, i2, i3⟩ := jClap hB h hr hx
  obtain ⟨⟨x1, x2⟩, ⟨x3, x4⟩, x5, x6, x7, x8⟩ := hx
  have hp := i3 r hr
  obtain ⟨j1, j2, j3⟩ := jOn hB hG hL i1 (c := c) (r := r) (t := t) (z := z) (v := pW b) (by omega) x1 (by rw [hp]; exact x6) (by rw [hp]; exact x7) (cDrs u c) (Nat.le_refl _)
  unfold gFar gRest
  split
  · rename_i hcb
    have hw := hB.2.2.2.1 c
    have hz := (x7 hcb.1).2
    have hz2 : z * cWal u c / 100 ≤ z := Nat.le_trans (Nat.div_le_div_right (Nat.mul_le_mul_left z hw)) (by omega)
    obtain ⟨o1, o2⟩ := x5 hcb.2
    exact (jGo hB hG hL j1 (i := b - 1) (c := c) (r := r) (t := t) (by omega) o1 o2 (by omega) x1 (fun e => absurd e hcb.1) (fun _ => by rw [j3, hp]; exact ⟨(x7 hcb.1).1, by omega⟩)).1
  · exact j1
/-- the time when the place p was first heard so that it counted, among the first k -/
def jF (h : EchT) (p : Nat) : Nat → Int32
  | 0 => -1
  | k + 1 => if hFa h (k * 5 + 4) = 1 ∧ hFa h (k * 5 + 1) = p ∧ jF h p k < 0 then nI (hFa h (k * 5)) else jF h p k
/-- how many of the first k count -/
def jC (h : EchT) : Nat → Nat
  | 0 => 0
  | k + 1 => jC h k + if hFa h (k * 5 + 4) = 1 then 1 else 0
/-- one that was heard -/
def jH (L B w n x : Nat) (h : EchT) (k : Nat) : Prop := (hFa h (k * 5) ≤ 200 ∧ hFa h (k * 5 + 1) * B + 2 * L ≤ hFa h (k * 5)) ∧ (hFa h (k * 5 + 1) < n ∧ hFa h (k * 5 + 2) = w / 10 ^ (n - 1 - hFa h (k * 5 + 1)) % 10) ∧ hFa h (k * 5 + 3) ≤ 81 ∧ hFa h (k * 5 + 4) = if x ≤ hFa h (k * 5 + 3) then 1 else 0
def jE (L B T w n x : Nat) (h : EchT) : Prop := (hPl h = n ∧ hEar h = x ∧ hK h ≤ 60) ∧ (∀ k, k < hK h → jH L B w n x h k ∧ hFa h (k * 5) ≤ T) ∧ (∀ k, k + 1 < hK h → hFa h (k * 5) ≤ hFa h ((k + 1) * 5)) ∧ (hCt h = jC h (hK h) ∧ ∀ p, p < 6 → hFi h p = jF h p (hK h)) ∧ (∀ p, p < hOr h → p < n → ¬ hFi h p < 0) ∧ (n = 1 → hOr h = if hCt h = 0 then 0 else 1)
theorem jF_cong {h h' : EchT} {p : Nat} : ∀ {k : Nat}, (∀ j, j < k * 5 → hFa h j = hFa h' j) → jF h p k = jF h' p k
  | 0, _ => rfl
  | k + 1, e => by
    show (if hFa h (k * 5 + 4) = 1 ∧ hFa h (k * 5 + 1) = p ∧ jF h p k < 0 then nI (hFa h (k * 5)) else jF h p k) = if hFa h' (k * 5 + 4) = 1 ∧ hFa h' (k * 5 + 1) = p ∧ jF h' p k < 0 then nI (hFa h' (k * 5)) else jF h' p k
    rw [e _ (by omega), e (k * 5 + 1) (by omega), e (k * 5) (by omega), jF_cong (k := k) (fun j hj => e j (by omega))]
theorem jC_cong {h h' : EchT} : ∀ {k : Nat}, (∀ j, j < k * 5 → hFa h j = hFa h' j) → jC h k = jC h' k
  | 0, _ => rfl
  | k + 1, e => by
    show jC h k + (if hFa h (k * 5 + 4) = 1 then 1 else 0) = jC h' k + if hFa h' (k * 5 + 4) = 1 then 1 else 0
    rw [e _ (by omega), jC_cong (k := k) (fun j hj => e j (by omega))]
theorem jH_cong {L B w n x : Nat} {h h' : EchT} {k : Nat} (e : ∀ j, j < (k + 1) * 5 → hFa h j = hFa h' j) (a : jH L B w n x h k) : jH L B w n x h' k := by
  unfold jH at a ⊢
  rw [← e (k * 5) (by omega), ← e (k * 5 + 1) (by omega), ← e (k * 5 + 2) (by omega), ← e (k * 5 + 3) (by omega), ← e (k * 5 + 4) (by omega)]
  exact a
theorem keep_old (h : EchT) (t p y z : Nat) {j : Nat} (hj : j < hK h * 5) : hFa (hKeep h t p y z) j = hFa h j := by
  show eN (eN (eN (eN (eN (hFa h) (hK h * 5) t) (hK h * 5 + 1) p) (hK h * 5 + 2) y) (hK h * 5 + 3) z) (hK h * 5 + 4) (if hEar h ≤ z then 1 else 0) j = hFa h j
  rw [eN_ne _ _ (by omega), eN_ne _ _ (by omega), eN_ne _ _ (by omega), eN_ne _ _ (by omega), eN_ne _ _ (by omega)]
theorem keep_new (h : EchT) (t p y z : Nat) : hFa (hKeep h t p y z) (hK h * 5) = t ∧ hFa (hKeep h t p y z) (hK h * 5 + 1) = p ∧ hFa (hKeep h t p y z) (hK h * 5 + 2) = y ∧ hFa (hKeep h t p y z) (hK h * 5 + 3) = z ∧ hFa (hKeep h t p y z) (hK h * 5 + 4) = if hEar h ≤ z then 1 else 0 := by
  refine ⟨?_, ?_, ?_, ?_, ?_⟩
  · show eN (eN (eN (eN (eN (hFa h) (hK h * 5) t) (hK h * 5 + 1) p) (hK h * 5 + 2) y) (hK h * 5 + 3) z) (hK h * 5 + 4) (if hEar h ≤ z then 1 else 0) (hK h * 5) = t
    rw [eN_ne _ _ (by omega), eN_ne _ _ (by omega), eN_ne _ _ (by omega), eN_ne _ _ (by omega), eN_self]
  · show eN (eN (eN (eN (eN (hFa h) (hK h * 5) t) (hK h * 5 + 1) p) (hK h * 5 + 2) y) (hK h * 5 + 3) z) (hK h * 5 + 4) (if hEar h ≤ z then 1 else 0) (hK h * 5 + 1) = p
    rw [eN_ne _ _ (by omega), eN_ne _ _ (by omega), eN_ne _ _ (by omega), eN_self]
  · show eN (eN (eN (eN (eN (hFa h) (hK h * 5) t) (hK h * 5 + 1) p) (hK h * 5 + 2) y) (hK h * 5 + 3) z) (hK h * 5 + 4) (if hEar h ≤ z then 1 else 0) (hK h * 5 + 2) = y
    rw [eN_ne _ _ (by omega), eN_ne _ _ (by omega), eN_self]
  · show eN (eN (eN (eN (eN (hFa h) (hK h * 5) t) (hK h * 5 + 1) p) (hK h * 5 + 2) y) (hK h * 5 + 3) z) (hK h * 5 + 4) (if hEar h ≤ z then 1 else 0) (hK h * 5 + 3) = z
    rw [eN_ne _ _ (by omega), eN_self]
  · exact eN_self _ _ _
/-- one more is heard -/
theorem jHear {L B T w n x : Nat} {h : EchT} (hE : jE L B T w n x h) (hn : n ≤ 6) {t p y z : Nat} (hT : T ≤ t) (ht : t ≤ 200) (hp : p < n ∧ y = w / 10 ^ (n - 1 - p) % 10) (hl : p * B + 2 * L ≤ t) (hz : z ≤ 81) : jE L B t w n x (hHear h t p y z) := by
  obtain ⟨⟨e1, e2, e3⟩, e4, e5, ⟨e6, e7⟩, e8, e9⟩ := hE
  unfold hHear
  split
  · rename_i hk
    refine ⟨⟨e1, e2, e3⟩, fun k hk => ⟨(e4 k hk).1, Nat.le_trans (e4 k hk).2 hT⟩, e5, ⟨e6, e7⟩, e8, e9⟩
  · rename_i hk
    obtain ⟨n1, n2, n3, n4, n5⟩ := keep_new h t p y z
    have old : ∀ j, j < hK h * 5 → hFa h j = hFa (hKeep h t p y z) j := fun j hj => (keep_old h t p y z hj).symm
    have a4 : ∀ k, k < hK h + 1 → jH L B w n x (hKeep h t p y z) k ∧ hFa (hKeep h t p y z) (k * 5) ≤ t := fun k hk2 => by
      by_cases e : k = hK h
      · subst e
        refine ⟨?_, by rw [n1]; exact Nat.le_refl _⟩
        unfold jH
        rw [n1, n2, n3, n4, n5, e2]
        exact ⟨⟨ht, hl⟩, hp, hz, rfl⟩
      · obtain ⟨b1, b2⟩ := e4 k (by omega)
        exact ⟨jH_cong (fun j hj => old j (by omega)) b1, by rw [← old _ (by omega)]; omega⟩
    have a5 : ∀ k, k + 1 < hK h + 1 → hFa (hKeep h t p y z) (k * 5) ≤ hFa (hKeep h t p y z) ((k + 1) * 5) := fun k hk2 => by
      by_cases e : k + 1 = hK h
      · rw [e, n1, ← old _ (by omega)]
        exact Nat.le_trans (e4 k (by omega)).2 hT
      · rw [← old _ (by omega), ← old _ (by omega)]
        exact e5 k (by omega)
    have cC : jC (hKeep h t p y z) (hK h) = hCt h := by rw [e6]; exact (jC_cong old).symm
    have cF : ∀ p', p' < 6 → jF (hKeep h t p y z) p' (hK h) = hFi h p' := fun p' hp' => by rw [e7 p' hp']; exact (jF_cong old).symm
    split
    · rename_i hx
      rw [if_pos hx] at n5
      have f6 : ∀ p', p' < 6 → (if hFi h p < 0 then eN (hFi h) p (nI t) else hFi h) p' = jF (hKeep h t p y z) p' (hK h + 1) := fun p' hp' => by
        show _ = if hFa (hKeep h t p y z) (hK h * 5 + 4) = 1 ∧ hFa (hKeep h t p y z) (hK h * 5 + 1) = p' ∧ jF (hKeep h t p y z) p' (hK h) < 0 then nI (hFa (hKeep h t p y z) (hK h * 5)) else jF (hKeep h t p y z) p' (hK h)
        rw [n5, n2, n1, cF p' hp']
        by_cases e : p' = p
        · subst e
          by_cases hf : hFi h p' < 0
          · rw [if_pos hf, if_pos ⟨rfl, rfl, hf⟩, eN_self]
          · rw [if_neg hf, if_neg (fun hh => hf hh.2.2)]
        · rw [if_neg (show ¬ (1 = 1 ∧ p = p' ∧ hFi h p' < 0) from fun hh => e hh.2.1.symm)]
          split
          · exact eN_ne _ _ e
          · rfl
      refine ⟨⟨e1, e2, by show hK h + 1 ≤ 60; omega⟩, a4, a5, ⟨?_, fun p' hp' => (f6 p' hp').trans (jF_cong (h := hKeep h t p y z) (h' := hCount (hKeep h t p y z) t p) (k := hK h + 1) (fun _ _ => rfl))⟩, fun p' hp' hpn => ?_, fun hn1 => ?_⟩
      · refine Eq.trans ?_ (jC_cong (h := hKeep h t p y z) (h' := hCount (hKeep h t p y z) t p) (k := hK h + 1) (fun _ _ => rfl))
        show hCt h + 1 = jC (hKeep h t p y z) (hK h) + if hFa (hKeep h t p y z) (hK h * 5 + 4) = 1 then 1 else 0
        rw [cC, n5]
        rfl
      · show ¬ (if hFi h p < 0 then eN (hFi h) p (nI t) else hFi h) p' < 0
        have hp2 : p' < (if p = hOr h then hOr h + 1 else hOr h) := hp'
        have nt : ¬ nI t < 0 := fun hlt => by
          have h0 := (nI_ltI (a := t) (b := 0) (by omega) (by omega)).mp hlt
          omega
        by_cases hf : hFi h p < 0
        · rw [if_pos hf]
          by_cases e : p' = p
          · rw [e, eN_self]
            exact nt
          · rw [eN_ne _ _ e]
            refine e8 p' ?_ hpn
            split at hp2 <;> omega
        · rw [if_neg hf]
          by_cases e : p' = p
          · rw [e]; exact hf
          · refine e8 p' ?_ hpn
            split at hp2 <;> omega
      · show (if p = hOr h then hOr h + 1 else hOr h) = if hCt h + 1 = 0 then 0 else 1
        have h9 := e9 hn1
        rw [if_neg (Nat.succ_ne_zero _)]
        have : p = 0 := by omega
        rw [h9]
        by_cases hc : hCt h = 0
        · rw [if_pos hc, if_pos this]
        · rw [if_neg hc, if_neg (by omega)]
    · rename_i hx
      rw [if_neg hx] at n5
      refine ⟨⟨e1, e2, by show hK h + 1 ≤ 60; omega⟩, a4, a5, ⟨?_, fun p' hp' => ?_⟩, e8, e9⟩
      · show hCt h = jC (hKeep h t p y z) (hK h) + if hFa (hKeep h t p y z) (hK h * 5 + 4) = 1 then 1 else 0
        rw [cC, n5]
        rfl
      · show hFi h p' = if hFa (hKeep h t p y z) (hK h * 5 + 4) = 1 ∧ hFa (hKeep h t p y z) (hK h * 5 + 1) = p' ∧ jF (hKeep h t p y z) p' (hK h) < 0 then nI (hFa (hKeep h t p y z) (hK h * 5)) else jF (hKeep h t p y z) p' (hK h)
        rw [n5, if_neg (fun hh => absurd hh.1 (by decide)), cF p' hp']
/-- a coming -/
theorem jCome {u : CaveT} {L B T w n x : Nat} {g : SndT} {q : QueT} {h : EchT} (hB : cOk u) (hG : cGeo u) (hL : cLst u L) (hn : n ≤ 6) (hQ : jQ u L B T w n g q) (hE : jE L B T w n x h) (h0 : 0 < qN q) : ∃ T', jQ u L B T' w n (gCome u (qH q 0) g (qTake q) h).1 (gCome u (qH q 0) g (qTake q) h).2.1 ∧ jE L B T' w n x (gCome u (qH q 0) g (qTake q) h).2.2 := by
  obtain ⟨⟨a1, a2⟩, a3, a4⟩ := hQ
  obtain ⟨x1, x2⟩ := a3 0 h0
  refine ⟨qH q 0 / 2 ^ 21, ?_⟩
  have hQ2 : jQ u L B (qH q 0 / 2 ^ 21) w n g (qTake q) := by
    refine ⟨⟨a1, qTake_hp a2⟩, fun j hj => ?_, a4⟩
    obtain ⟨i, hi, e⟩ := qTake_mem h0 hj
    rw [← e]
    obtain ⟨y1, ⟨y2, y3⟩, y4⟩ := a3 i hi
    exact ⟨y1, ⟨Nat.div_le_div_right (hpOk_min a2 i hi), y3⟩, y4⟩
  have hx2 : jP u L B (qH q 0 / 2 ^ 21) (sPl g (qH q 0 / 2 ^ 12 % 2 ^ 5)) (qH q 0 / 2 ^ 21) (qH q 0 / 2 ^ 17 % 2 ^ 4) (qH q 0 / 2 ^ 7 % 2 ^ 5) (qH q 0 % 2 ^ 7) := ⟨⟨Nat.le_refl _, x2.1.2⟩, x2.2⟩
  have hE2 : jE L B (qH q 0 / 2 ^ 21) w n x (hMay (qH q 0 / 2 ^ 21) (qH q 0 / 2 ^ 17 % 2 ^ 4) (qH q 0 / 2 ^ 12 % 2 ^ 5) (qH q 0 / 2 ^ 7 % 2 ^ 5) (qH q 0 % 2 ^ 7) g h) := by
    unfold hMay
    split
    · rename_i hh
      have z9 := x2.2.2.2.2.2 hh.1 hh.2
      exact jHear hE hn x2.1.1 x2.1.2 (a4 _ x1) z9.1 z9.2
    · obtain ⟨e0, e4, e5⟩ := hE
      exact ⟨e0, fun k hk => ⟨(e4 k hk).1, Nat.le_trans (e4 k hk).2 x2.1.1⟩, e5⟩
  unfold gCome gComeP
  split
  · rename_i hh
    exfalso
    have := x2.2.1
    omega
  · split
    · exact ⟨hQ2, hE2⟩
    · exact ⟨jFar hB hG hL hQ2 x1 hx2, hE2⟩
theorem jLoop {u : CaveT} {L B w n x : Nat} (hB : cOk u) (hG : cGeo u) (hL : cLst u L) (hn : n ≤ 6) : ∀ (f T : Nat) (s : SndT × QueT × EchT), jQ u L B T w n s.1 s.2.1 → jE L B T w n x s.2.2 → ∃ T', jE L B T' w n x (gLoop u f s).2.2
  | 0, T, s, _, hE => ⟨T, hE⟩
  | f + 1, T, s, hQ, hE => by
    show ∃ T', jE L B T' w n x (if qN s.2.1 = 0 then s else gLoop u f (gCome u (qH s.2.1 0) s.1 (qTake s.2.1) s.2.2)).2.2
    split
    · exact ⟨T, hE⟩
    · rename_i h0
      obtain ⟨T', h1, h2⟩ := jCome hB hG hL hn hQ hE (Nat.pos_of_ne_zero h0)
      exact jLoop hB hG hL hn f T' _ h1 h2
theorem jSay {u : CaveT} {L B w n : Nat} {g : SndT} {q : QueT} (hB : cOk u) (hn : n ≤ 6) (hb : B ≤ 20) : ∀ i, i ≤ n → jQ u L B 0 w n (gSay w n B (gZero g) (qZero q) i).1 (gSay w n B (gZero g) (qZero q) i).2
  | 0, _ => ⟨⟨Nat.zero_le _, fun j _ hj => absurd hj (Nat.not_lt_zero j)⟩, fun j hj => absurd hj (Nat.not_lt_zero j), fun r hr => absurd hr (Nat.not_lt_zero r)⟩
  | i + 1, hi => by
    have ht : i * B ≤ 5 * 20 := Nat.mul_le_mul (by omega) hb
    have hC := hB.1.1
    exact (jRun hB (jSay hB hn hb i (by omega)) (y := w / 10 ^ (n - 1 - i) % 10) (p := i) (c := 0) (t := i * B) (z := 100) ⟨by omega, rfl⟩ ⟨⟨Nat.zero_le _, by omega⟩, ⟨by omega, Nat.zero_le _⟩, fun h0 => absurd h0 (Nat.lt_irrefl 0), fun _ => ⟨Nat.le_refl _, Nat.le_refl _⟩, fun e => absurd rfl e, fun _ h0 => absurd h0 (Nat.lt_irrefl 0)⟩ (Nat.le_refl _)).1
/-- what is heard of a word -/
theorem jThrough {u : CaveT} {L w B x : Nat} {g : SndT} {q : QueT} {h : EchT} (hB : cOk u) (hG : cGeo u) (hL : cLst u L) (hb : B ≤ 20) : ∃ T, jE L B T w (dgs 6 w) x (gThrough u w B x g q h).2.2 := by
  have hn := dgs_le 6 w
  refine jLoop hB hG hL hn 629 0 _ (jSay hB hn hb _ (Nat.le_refl _)) ⟨⟨rfl, rfl, Nat.zero_le _⟩, fun k hk => absurd hk (Nat.not_lt_zero k), fun k hk => absurd hk (Nat.not_lt_zero _), ⟨rfl, fun p hp => ?_⟩, fun p hp => absurd hp (Nat.not_lt_zero p), fun _ => rfl⟩
  show eFill 6 (-1) (hFi h) p = -1
  exact if_pos hp
