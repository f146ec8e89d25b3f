/-! ===== ways and heights: open just as high as is told; no way is shorter than the first passage ===== -/
/-- a way's length is told by one more, 0 where there is no way -/
def wN (k : Nat → Nat) (x y s : Nat) : Nat → Nat := if k x = 0 then k else if k y = 0 ∨ k x + s < k y then eN k y (k x + s) else k
def wStp (u : CaveT) (k : Nat → Nat) (i : Nat) : Nat → Nat := if cOpen u i then wN (wN k (cFrm u i) (cTo u i) (cLen u i)) (cTo u i) (cFrm u i) (cLen u i) else k
def wRnd (u : CaveT) (k : Nat → Nat) : Nat → Nat → Nat
  | 0 => k
  | n + 1 => wStp u (wRnd u k n) n
def wAll (u : CaveT) (k : Nat → Nat) : Nat → Nat → Nat
  | 0 => k
  | r + 1 => wRnd u (wAll u k r) (cP u)
def rW1 (M : Nat) (f : Nat → Int32) (k : Nat → Nat) : Prop := ∀ c, c < 12 → f c = pW (k c) ∧ k c ≤ M
theorem pW_0 : pW 0 = -1 := rfl
theorem pW_s (n : Nat) : pW (n + 1) = nI n := by
  show (if n + 1 = 0 then -1 else nI (n + 1 - 1)) = nI n
  rw [if_neg (Nat.succ_ne_zero n), Nat.add_sub_cancel]
theorem pW_neg {n : Nat} (h : n ≤ 100000) : pW n < 0 ↔ n = 0 := by
  cases n with
  | zero => exact ⟨fun _ => rfl, fun _ => by decide⟩
  | succ n =>
    rw [pW_s]
    constructor
    · intro h2
      have := (nI_ltI (a := n) (b := 0) (by omega) (by omega)).mp h2
      omega
    · intro h2
      omega
theorem pW_lt {a b : Nat} (ha : a ≤ 100000) (hb : b ≤ 100000) (h0 : 0 < a) (h1 : 0 < b) : pW a < pW b ↔ a < b := by
  obtain ⟨a, rfl⟩ : ∃ z, a = z + 1 := ⟨a - 1, by omega⟩
  obtain ⟨b, rfl⟩ : ∃ z, b = z + 1 := ⟨b - 1, by omega⟩
  rw [pW_s, pW_s, nI_ltI (by omega) (by omega)]
  omega
theorem rW1_short {M : Nat} {f : Nat → Int32} {k : Nat → Nat} (h : rW1 M f k) (hM : M ≤ 90000) {x y s : Nat} (hx : x < 12) (hy : y < 12) (hs : s ≤ 9) : rW1 (M + 9) (eShort f x y s) (wN k x y s) := by
  obtain ⟨f1, b1⟩ := h x hx
  obtain ⟨f2, b2⟩ := h y hy
  have up : rW1 (M + 9) f k := fun c hc => ⟨(h c hc).1, by have := (h c hc).2; omega⟩
  unfold eShort wN
  by_cases e : k x = 0
  · rw [if_pos (by rw [f1]; exact (pW_neg (by omega)).mpr e), if_pos e]
    exact up
  · rw [if_neg (by rw [f1]; exact fun hh => e ((pW_neg (by omega)).mp hh)), if_neg e]
    have ea : f x + nI s = pW (k x + s) := by
      rw [f1]
      obtain ⟨z, hz⟩ : ∃ z, k x = z + 1 := ⟨k x - 1, by omega⟩
      rw [hz, show z + 1 + s = z + s + 1 by omega, pW_s, pW_s, nI_add]
    have ec : (f y < 0 ∨ f x + nI s < f y) ↔ (k y = 0 ∨ k x + s < k y) := by
      rw [ea, f2, pW_neg (by omega)]
      by_cases ey : k y = 0
      · exact ⟨fun _ => Or.inl ey, fun _ => Or.inl ey⟩
      · rw [pW_lt (by omega) (by omega) (by omega) (by omega)]
    by_cases e2 : k y = 0 ∨ k x + s < k y
    · rw [if_pos (ec.mpr e2), if_pos e2, ea]
      intro c hc
      by_cases e3 : c = y
      · rw [e3, eN_self, eN_self]; exact ⟨rfl, by omega⟩
      · rw [eN_ne _ _ e3, eN_ne _ _ e3]; exact up c hc
    · rw [if_neg (fun hh => e2 (ec.mp hh)), if_neg e2]
      exact up
theorem rW1_up {M M' : Nat} {f : Nat → Int32} {k : Nat → Nat} (h : rW1 M f k) (hM : M ≤ M') : rW1 M' f k := fun c hc => ⟨(h c hc).1, Nat.le_trans (h c hc).2 hM⟩
theorem rW1_step {u : CaveT} (hU : cOk u) {M : Nat} {f : Nat → Int32} {k : Nat → Nat} (h : rW1 M f k) (hM : M ≤ 80000) (i : Nat) : rW1 (M + 18) (wayStep u f i) (wStp u k i) := by
  have a1 := hU.2.2.2.2.2.2.2.2.2.1 i
  have a2 := hU.2.2.2.2.2.2.2.2.2.2.1 i
  have a3 := hU.2.2.2.2.2.2.2.2.2.2.2.1 i
  unfold wayStep wStp
  by_cases e : cOpen u i
  · rw [if_pos e, if_pos e]
    exact rW1_short (rW1_short h (by omega) a1 a2 a3) (by omega) a2 a1 a3
  · rw [if_neg e, if_neg e]
    exact rW1_up h (by omega)
theorem rW1_round {u : CaveT} (hU : cOk u) {M : Nat} {f : Nat → Int32} {k : Nat → Nat} (h : rW1 M f k) (hM : M ≤ 70000) : ∀ n, n ≤ 18 → rW1 (M + 18 * n) (wayRound u f n) (wRnd u k n)
  | 0, _ => h
  | n + 1, hn => rW1_up (rW1_step hU (rW1_round hU h hM n (by omega)) (by omega) n) (by omega)
theorem rW1_all {u : CaveT} (hU : cOk u) {M : Nat} {f : Nat → Int32} {k : Nat → Nat} (h : rW1 M f k) (hM : M ≤ 100) : ∀ r, r ≤ 12 → rW1 (M + 324 * r) (wayAll u f r) (wAll u k r)
  | 0, _ => h
  | r + 1, hr => by
    have hP := hU.2.1
    exact rW1_up (rW1_round hU (rW1_all hU h hM r (by omega)) (by omega) (cP u) hP) (by omega)
theorem pW_max : ∀ a, a < 32 → ∀ b, b < 32 → emax (pW a) (pW b) = pW (max a b) := by decide +kernel
theorem pW_min : ∀ a, a < 32 → ∀ b, b < 32 → emin (pW a) (pW b) = pW (min a b) := by decide +kernel
/-- heights told by one more, 0 where there is no way -/
def uR1 (u : CaveT) (k : Nat → Nat) (x y : Nat) : Nat → Nat := eN k y (max (k y) (min (k x) (min (cHgt u x + 1) (cHgt u y + 1))))
def rG (f : Nat → Int32) (k : Nat → Nat) : Prop := ∀ c, c < 12 → f c = pW (k c) ∧ k c < 32
theorem rG_raise {u : CaveT} (hU : cOk u) {f : Nat → Int32} {k : Nat → Nat} (h : rG f k) {x y : Nat} (hx : x < 12) (hy : y < 12) : rG (eRaise u f x y) (uR1 u k x y) := by
  intro c hc
  have q1 := hU.2.2.2.2.1 x
  have q2 := hU.2.2.2.2.1 y
  obtain ⟨f1, f2⟩ := h x hx
  obtain ⟨f3, f4⟩ := h y hy
  have e : emax (f y) (emin (f x) (emin (nI (cHgt u x)) (nI (cHgt u y)))) = pW (max (k y) (min (k x) (min (cHgt u x + 1) (cHgt u y + 1)))) := by
    rw [f1, f3, show nI (cHgt u x) = pW (cHgt u x + 1) from rfl, show nI (cHgt u y) = pW (cHgt u y + 1) from rfl, pW_min _ (by omega) _ (by omega), pW_min _ (by omega) _ (by omega), pW_max _ (by omega) _ (by omega)]
  show eN f y (emax (f y) (emin (f x) (emin (nI (cHgt u x)) (nI (cHgt u y))))) c = pW (eN k y _ c) ∧ eN k y _ c < 32
  rw [e]
  by_cases ec : c = y
  · rw [ec, eN_self, eN_self]; exact ⟨rfl, by omega⟩
  · rw [eN_ne _ _ ec, eN_ne _ _ ec]; exact h c hc
def uRnd (u : CaveT) (k : Nat → Nat) : Nat → Nat → Nat
  | 0 => k
  | n + 1 => uR1 u (uR1 u (uRnd u k n) (cFrm u n) (cTo u n)) (cTo u n) (cFrm u n)
def uAll (u : CaveT) (k : Nat → Nat) : Nat → Nat → Nat
  | 0 => k
  | r + 1 => uRnd u (uAll u k r) (cP u)
theorem rG_round {u : CaveT} (hU : cOk u) {f : Nat → Int32} {k : Nat → Nat} (h : rG f k) : ∀ n, rG (upRound u f n) (uRnd u k n)
  | 0 => h
  | n + 1 => rG_raise hU (rG_raise hU (rG_round hU h n) (hU.2.2.2.2.2.2.2.2.2.1 n) (hU.2.2.2.2.2.2.2.2.2.2.1 n)) (hU.2.2.2.2.2.2.2.2.2.2.1 n) (hU.2.2.2.2.2.2.2.2.2.1 n)
theorem rG_all {u : CaveT} (hU : cOk u) {f : Nat → Int32} {k : Nat → Nat} (h : rG f k) : ∀ r, rG (upAll u f r) (uAll u k r)
  | 0 => h
  | r + 1 => rG_round hU (rG_all hU h r) _
/-- there is a way just where the height reaches the water -/
def jV (v : Nat) (k g : Nat → Nat) : Prop := ∀ c, c < 12 → (0 < k c ↔ v + 1 ≤ g c)
/-- no way is shorter than L, but to the chamber 0 -/
def jL (L : Nat) (k : Nat → Nat) : Prop := k 0 = 1 ∧ ∀ c, c < 12 → c ≠ 0 → k c = 0 ∨ L + 1 ≤ k c
theorem jV_one {u : CaveT} {v : Nat} {k g : Nat → Nat} (h : jV v k g) {x y s : Nat} (hx : x < 12) (hy : y < 12) (ho : v ≤ cHgt u x ∧ v ≤ cHgt u y) : jV v (wN k x y s) (uR1 u g x y) := by
  have h1 := h x hx
  have h2 := h y hy
  intro c hc
  unfold uR1 wN
  by_cases e : k x = 0
  · rw [if_pos e]
    by_cases ec : c = y
    · subst ec
      rw [eN_self]
      omega
    · rw [eN_ne _ _ ec]
      exact h c hc
  · rw [if_neg e]
    by_cases e2 : k y = 0 ∨ k x + s < k y
    · rw [if_pos e2]
      by_cases ec : c = y
      · subst ec
        rw [eN_self, eN_self]
        omega
      · rw [eN_ne _ _ ec, eN_ne _ _ ec]
        exact h c hc
    · rw [if_neg e2]
      by_cases ec : c = y
      · subst ec
        rw [eN_self]
        omega
      · rw [eN_ne _ _ ec]
        exact h c hc
theorem jV_not {u : CaveT} {v : Nat} {k g : Nat → Nat} (h : jV v k g) {x y : Nat} (hy : y < 12) (ho : ¬ (v ≤ cHgt u x ∧ v ≤ cHgt u y)) : jV v k (uR1 u g x y) := by
  intro c hc
  unfold uR1
  by_cases ec : c = y
  · subst ec
    rw [eN_self]
    have := h c hc
    omega
  · rw [eN_ne _ _ ec]
    exact h c hc
theorem jV_step {u : CaveT} (hU : cOk u) {k g : Nat → Nat} (h : jV (cW u) k g) (i : Nat) : jV (cW u) (wStp u k i) (uR1 u (uR1 u g (cFrm u i) (cTo u i)) (cTo u i) (cFrm u i)) := by
  have a1 := hU.2.2.2.2.2.2.2.2.2.1 i
  have a2 := hU.2.2.2.2.2.2.2.2.2.2.1 i
  unfold wStp
  by_cases e : cOpen u i
  · rw [if_pos e]
    exact jV_one (jV_one h a1 a2 e) a2 a1 ⟨e.2, e.1⟩
  · rw [if_neg e]
    exact jV_not (jV_not h a2 e) a1 (fun hh => e ⟨hh.2, hh.1⟩)
theorem jV_round {u : CaveT} (hU : cOk u) {k g : Nat → Nat} (h : jV (cW u) k g) : ∀ n, jV (cW u) (wRnd u k n) (uRnd u g n)
  | 0 => h
  | n + 1 => jV_step hU (jV_round hU h n) n
theorem jV_all {u : CaveT} (hU : cOk u) {k g : Nat → Nat} (h : jV (cW u) k g) : ∀ r, jV (cW u) (wAll u k r) (uAll u g r)
  | 0 => h
  | r + 1 => jV_round hU (jV_all hU h r) _
theorem jL_one {L : Nat} {k : Nat → Nat} (h : jL L k) {x y s : Nat} (hx : x < 12) (hs : 1 ≤ s) (hl : x = 0 → L ≤ s) : jL L (wN k x y s) := by
  obtain ⟨h0, h1⟩ := h
  unfold wN
  split
  · exact ⟨h0, h1⟩
  · rename_i e
    split
    · rename_i e2
      have hy : y ≠ 0 := by
        intro e3
        rw [e3, h0] at e2
        omega
      refine ⟨by rw [eN_ne _ _ (Ne.symm hy)]; exact h0, fun c hc hc0 => ?_⟩
      by_cases ec : c = y
      · rw [ec, eN_self]
        refine Or.inr ?_
        by_cases ex : x = 0
        · have := hl ex
          omega
        · have := h1 x hx ex
          omega
      · rw [eN_ne _ _ ec]
        exact h1 c hc hc0
    · exact ⟨h0, h1⟩
theorem jL_step {u : CaveT} (hU : cOk u) (hG : cGeo u) {L : Nat} (hL : cLst u L) {k : Nat → Nat} (h : jL L k) {i : Nat} (hi : i < cP u) : jL L (wStp u k i) := by
  have a1 := hU.2.2.2.2.2.2.2.2.2.1 i
  have a2 := hU.2.2.2.2.2.2.2.2.2.2.1 i
  have a3 := (hG.1 i hi).2.2
  unfold wStp
  split
  · rename_i e
    exact jL_one (jL_one h a1 a3 (fun e0 => hL i hi e (Or.inl e0))) a2 a3 (fun e0 => hL i hi e (Or.inr e0))
  · exact h
theorem jL_round {u : CaveT} (hU : cOk u) (hG : cGeo u) {L : Nat} (hL : cLst u L) {k : Nat → Nat} (h : jL L k) : ∀ n, n ≤ cP u → jL L (wRnd u k n)
  | 0, _ => h
  | n + 1, hn => jL_step hU hG hL (jL_round hU hG hL h n (by omega)) (by omega)
theorem jL_all {u : CaveT} (hU : cOk u) (hG : cGeo u) {L : Nat} (hL : cLst u L) {k : Nat → Nat} (h : jL L k) : ∀ r, jL L (wAll u k r)
  | 0 => h
  | r + 1 => jL_round hU hG hL (jL_all hU hG hL h r) _ (Nat.le_refl _)
abbrev uK : Nat → Nat := eN (fun _ => 0) 0 31
abbrev wK : Nat → Nat := eN (fun _ => 0) 0 1
theorem wK_0 : wK 0 = 1 := eN_self _ _ _
theorem wK_n {j : Nat} (h : ¬ j = 0) : wK j = 0 := eN_ne _ _ h
theorem uK_0 : uK 0 = 31 := eN_self _ _ _
theorem uK_n {j : Nat} (h : ¬ j = 0) : uK j = 0 := eN_ne _ _ h
/-- a way and a height, as the law compares them -/
theorem jWay {u : CaveT} (hU : cOk u) (hG : cGeo u) {L : Nat} (hL : cLst u L) {c : Nat} (hc : c < 12) : ∃ a b : Nat, wayOf u 0 c = pW a ∧ upOf u c = pW b ∧ a ≤ 4000 ∧ b < 32 ∧ (0 < a ↔ cW u + 1 ≤ b) ∧ (2 ≤ a → L + 1 ≤ a) := by
  have hC := hU.1.2
  have hW := hU.2.2.1
  have i1 : rW1 1 (eN (eFill 12 (-1) (cFnd u)) 0 (nI 0)) wK := fun j hj => by
    by_cases e : j = 0
    · subst e
      rw [eN_self, wK_0]
      exact ⟨rfl, Nat.le_refl _⟩
    · rw [eN_ne _ _ e, wK_n e]
      exact ⟨if_pos hj, Nat.zero_le _⟩
  have i2 : rG (eN (eFill 12 (-1) (cFnd u)) 0 (nI 30)) uK := fun j hj => by
    by_cases e : j = 0
    · subst e
      rw [eN_self, uK_0]
      exact ⟨rfl, by decide⟩
    · rw [eN_ne _ _ e, uK_n e]
      exact ⟨if_pos hj, by decide⟩
  have i3 : jV (cW u) wK uK := fun j hj => by
    by_cases e : j = 0
    · subst e
      rw [wK_0, uK_0]
      omega
    · rw [wK_n e, uK_n e]
      omega
  have i4 : jL L wK := ⟨eN_self _ _ _, fun j hj e => Or.inl (eN_ne _ _ e)⟩
  obtain ⟨p1, p2⟩ := rW1_all hU i1 (by omega) (cC u - 1) (by omega) c hc
  obtain ⟨p3, p4⟩ := rG_all hU i2 (cC u - 1) c hc
  have p5 := jV_all hU i3 (cC u - 1) c hc
  have p6 := jL_all hU hG hL i4 (cC u - 1)
  refine ⟨_, _, p1, p3, by omega, p4, p5, fun h2 => ?_⟩
  by_cases e : c = 0
  · subst e
    have := p6.1
    omega
  · have := p6.2 c hc e
    omega
/-- the least length of an open passage at the chamber 0, among the first n; 99 without one -/
def lLst (u : CaveT) : Nat → Nat
  | 0 => 99
  | n + 1 => if cOpen u n ∧ (cFrm u n = 0 ∨ cTo u n = 0) then min (lLst u n) (cLen u n) else lLst u n
theorem lLst_le (u : CaveT) : ∀ n p, p < n → cOpen u p → (cFrm u p = 0 ∨ cTo u p = 0) → lLst u n ≤ cLen u p
  | 0, p, hp, _, _ => absurd hp (Nat.not_lt_zero p)
  | n + 1, p, hp, ho, he => by
    show (if cOpen u n ∧ (cFrm u n = 0 ∨ cTo u n = 0) then min (lLst u n) (cLen u n) else lLst u n) ≤ cLen u p
    by_cases e : p = n
    · subst e
      rw [if_pos ⟨ho, he⟩]
      omega
    · have := lLst_le u n p (by omega) ho he
      split <;> omega
theorem lLst_99 (u : CaveT) : ∀ n, lLst u n ≤ 99
  | 0 => Nat.le_refl _
  | n + 1 => by
    have := lLst_99 u n
    show (if cOpen u n ∧ (cFrm u n = 0 ∨ cTo u n = 0) then min (lLst u n) (cLen u n) else lLst u n) ≤ 99
    split <;> omega
theorem lLst_ok (u : CaveT) : cLst u (lLst u (cP u)) := fun p hp ho he => lLst_le u (cP u) p hp ho he
