/-! ===== pure facts: rows of numbers, counted; the heap ===== -/
/-- how often v stands among the first n of h -/
def hCn (h : Nat → Nat) (v n : Nat) : Nat := fb_ct (fun j => decide (h j = v)) n
theorem hCn_upd (h : Nat → Nat) (v : Nat) {t n : Nat} (x : Nat) (ht : t < n) : hCn (eN h t x) v n + (if h t = v then 1 else 0) = hCn h v n + (if x = v then 1 else 0) := by
  have e := fb_ct_upd (fun j => decide (h j = v)) (decide (x = v)) ht
  have e2 : hCn (eN h t x) v n = fb_ct (fun k => if k = t then decide (x = v) else decide (h k = v)) n := fb_ct_cong (fun k _ => by
    by_cases hk : k = t
    · subst hk
      show decide (eN h k x k = v) = if k = k then decide (x = v) else decide (h k = v)
      rw [eN_self, if_pos rfl]
    · show decide (eN h t x k = v) = if k = t then decide (x = v) else decide (h k = v)
      rw [eN_ne _ _ hk, if_neg hk])
  rw [e2]
  simpa [hCn] using e
theorem hCn_succ (h : Nat → Nat) (v n : Nat) : hCn h v (n + 1) = hCn h v n + (if h n = v then 1 else 0) := by
  have e := fb_ct_succ (fun j => decide (h j = v)) n
  simpa [hCn] using e
theorem hCn_cong {h k : Nat → Nat} (v : Nat) {n : Nat} (e : ∀ j, j < n → h j = k j) : hCn h v n = hCn k v n := fb_ct_cong (fun j hj => by rw [e j hj])
theorem hCn_end (h : Nat → Nat) (v n x : Nat) : hCn (eN h n x) v (n + 1) = hCn h v n + (if x = v then 1 else 0) := by
  rw [hCn_succ, eN_self, hCn_cong v (fun j hj => eN_ne h x (by omega))]
theorem hCn_pos {h : Nat → Nat} {v n : Nat} (hp : 0 < hCn h v n) : ∃ j, j < n ∧ h j = v := by
  obtain ⟨k, h1, h2⟩ := fb_ct_pos.mp hp
  exact ⟨k, h1, of_decide_eq_true h2⟩
theorem hCn_has {h : Nat → Nat} {n j : Nat} (hj : j < n) : 0 < hCn h (h j) n := fb_ct_pos.mpr ⟨j, hj, decide_eq_true rfl⟩
/-- the hole moves: what stood at p goes to t, x to p -/
theorem hCn_swap (h : Nat → Nat) (v : Nat) {t p n : Nat} (x : Nat) (ht : t < n) (hp : p < n) (hne : p ≠ t) : hCn (eN (eN h t (h p)) p x) v n = hCn (eN h t x) v n := by
  have e1 := hCn_upd (eN h t (h p)) v x hp
  have e2 := hCn_upd h v (h p) ht
  have e3 := hCn_upd h v x ht
  rw [eN_ne _ _ hne] at e1
  omega
theorem qUp_cn (v n : Nat) : ∀ (f : Nat) (h : Nat → Nat) (t x : Nat), t < n → hCn (qUp f h t x) v n = hCn (eN h t x) v n
  | 0, _, _, _, _ => rfl
  | f + 1, h, t, x, ht => by
    unfold qUp
    split
    · rename_i hc
      rw [qUp_cn v n f _ _ x (by omega), hCn_swap h v x ht (by omega) (by omega)]
    · rfl
theorem qSink_cn (v n : Nat) : ∀ (f : Nat) (h : Nat → Nat) (t x : Nat), t < n → hCn (qSink n f h t x) v n = hCn (eN h t x) v n
  | 0, _, _, _, _ => rfl
  | f + 1, h, t, x, ht => by
    rw [qSink_s]
    split
    · rename_i hc
      have hs : qSon n h t < n ∧ t < qSon n h t := by
        by_cases hq : 2 * t + 1 + 1 < n ∧ h (2 * t + 1 + 1) < h (2 * t + 1)
        · have e : qSon n h t = 2 * t + 1 + 1 := if_pos hq
          rw [e]; omega
        · have e : qSon n h t = 2 * t + 1 := if_neg hq
          rw [e]; omega
      split
      · rfl
      · rw [qSink_cn v n f _ _ x hs.1, hCn_swap h v x ht hs.1 (by omega)]
    · rfl
/-- each stands not before its parent -/
def hpOk (n : Nat) (h : Nat → Nat) : Prop := ∀ j, 0 < j → j < n → h ((j - 1) / 2) ≤ h j
theorem hpOk_min {n : Nat} {h : Nat → Nat} (H : hpOk n h) : ∀ j, j < n → h 0 ≤ h j := by
  intro j
  induction j using Nat.strongRecOn with
  | _ j ih =>
    intro hj
    by_cases h0 : j = 0
    · rw [h0]; exact Nat.le_refl _
    · exact Nat.le_trans (ih ((j - 1) / 2) (by omega) (by omega)) (H j (by omega) hj)
theorem qUp_hp (n : Nat) : ∀ (f : Nat) (h : Nat → Nat) (t x : Nat), t < n → t ≤ f → (∀ j, 0 < j → j < n → j ≠ t → (j - 1) / 2 ≠ t → h ((j - 1) / 2) ≤ h j) → (∀ j, 0 < j → j < n → (j - 1) / 2 = t → x ≤ h j) → (0 < t → ∀ j, 0 < j → j < n → (j - 1) / 2 = t → h ((t - 1) / 2) ≤ h j) → hpOk n (qUp f h t x)
  | 0, h, t, x, ht, hf, H, C, P => by
    intro j h0 hj
    show eN h t x ((j - 1) / 2) ≤ eN h t x j
    rw [eN_ne h x (show j ≠ t by omega)]
    by_cases e : (j - 1) / 2 = t
    · rw [e, eN_self]; exact C j h0 hj e
    · rw [eN_ne h x e]; exact H j h0 hj (by omega) e
  | f + 1, h, t, x, ht, hf, H, C, P => by
    unfold qUp
    split
    · rename_i hc
      have hpt : (t - 1) / 2 < t := by omega
      refine qUp_hp n f _ _ x (by omega) (by omega) ?_ ?_ ?_
      · intro j h0 hj h1 h2
        have hjt : j ≠ t := fun e => h2 (by rw [e])
        rw [eN_ne h _ hjt]
        by_cases e : (j - 1) / 2 = t
        · rw [e, eN_self]; exact P hc.1 j h0 hj e
        · rw [eN_ne h _ e]; exact H j h0 hj hjt e
      · intro j h0 hj h1
        by_cases e : j = t
        · rw [e, eN_self]; omega
        · rw [eN_ne h _ e]
          have := H j h0 hj e (by omega)
          rw [h1] at this
          omega
      · intro hp j h0 hj h1
        have hpp := H ((t - 1) / 2) hp (by omega) (by omega) (by omega)
        rw [eN_ne h _ (show ((t - 1) / 2 - 1) / 2 ≠ t by omega)]
        by_cases e : j = t
        · rw [e, eN_self]; exact hpp
        · rw [eN_ne h _ e]
          have := H j h0 hj e (by omega)
          rw [h1] at this
          omega
    · rename_i hc
      intro j h0 hj
      by_cases hjt : j = t
      · subst hjt
        rw [eN_self, eN_ne h x (show (j - 1) / 2 ≠ j by omega)]
        omega
      · rw [eN_ne h x hjt]
        by_cases e : (j - 1) / 2 = t
        · rw [e, eN_self]; exact C j h0 hj e
        · rw [eN_ne h x e]; exact H j h0 hj hjt e
theorem qSink_hp (n : Nat) : ∀ (f : Nat) (h : Nat → Nat) (t x : Nat), t < n → n ≤ f + t → (∀ j, 0 < j → j < n → j ≠ t → (j - 1) / 2 ≠ t → h ((j - 1) / 2) ≤ h j) → (0 < t → ∀ j, 0 < j → j < n → (j - 1) / 2 = t → h ((t - 1) / 2) ≤ h j) → (0 < t → h ((t - 1) / 2) ≤ x) → hpOk n (qSink n f h t x)
  | 0, h, t, x, ht, hf, H, P, Q => by omega
  | f + 1, h, t, x, ht, hf, H, P, Q => by
    have stop : (∀ j, 0 < j → j < n → (j - 1) / 2 = t → x ≤ h j) → hpOk n (eN h t x) := by
      intro C j h0 hj
      by_cases hjt : j = t
      · subst hjt
        rw [eN_self, eN_ne h x (show (j - 1) / 2 ≠ j by omega)]
        exact Q h0
      · rw [eN_ne h x hjt]
        by_cases e : (j - 1) / 2 = t
        · rw [e, eN_self]; exact C j h0 hj e
        · rw [eN_ne h x e]; exact H j h0 hj hjt e
    rw [qSink_s]
    split
    · rename_i hc
      obtain ⟨s, hs⟩ : ∃ s, s = qSon n h t := ⟨_, rfl⟩
      have hs2 : s < n ∧ t < s ∧ (s - 1) / 2 = t ∧ ∀ j, 0 < j → j < n → (j - 1) / 2 = t → h s ≤ h j := by
        rw [hs]
        by_cases hq : 2 * t + 1 + 1 < n ∧ h (2 * t + 1 + 1) < h (2 * t + 1)
        · have e : qSon n h t = 2 * t + 1 + 1 := if_pos hq
          rw [e]
          refine ⟨hq.1, by omega, by omega, fun j h0 hj h1 => ?_⟩
          rcases (show j = 2 * t + 1 ∨ j = 2 * t + 1 + 1 by omega) with e2 | e2
          · rw [e2]; omega
          · rw [e2]; exact Nat.le_refl _
        · have e : qSon n h t = 2 * t + 1 := if_neg hq
          rw [e]
          refine ⟨hc, by omega, by omega, fun j h0 hj h1 => ?_⟩
          rcases (show j = 2 * t + 1 ∨ j = 2 * t + 1 + 1 by omega) with e2 | e2
          · rw [e2]; exact Nat.le_refl _
          · rw [e2] at hj ⊢
            exact Nat.le_of_not_lt (fun hl => hq ⟨hj, hl⟩)
      rw [← hs]
      obtain ⟨s1, s2, s3, s4⟩ := hs2
      split
      · rename_i hx
        exact stop (fun j h0 hj h1 => by have := s4 j h0 hj h1; omega)
      · rename_i hx
        refine qSink_hp n f _ _ x s1 (by omega) ?_ ?_ ?_
        · intro j h0 hj h1 h2
          by_cases hjt : j = t
          · subst hjt
            rw [eN_self, eN_ne h _ (show (j - 1) / 2 ≠ j by omega)]
            exact P h0 s (by omega) s1 s3
          · rw [eN_ne h _ hjt]
            by_cases e : (j - 1) / 2 = t
            · rw [e, eN_self]; exact s4 j h0 hj e
            · rw [eN_ne h _ e]; exact H j h0 hj hjt e
        · intro _ j h0 hj h1
          rw [s3, eN_self, eN_ne h _ (show j ≠ t by omega)]
          have := H j h0 hj (by omega) (by omega)
          rw [h1] at this
          exact this
        · intro _
          rw [s3, eN_self]
          omega
    · rename_i hc
      exact stop (fun j h0 hj h1 => by omega)
theorem qPut_hp {q : QueT} (H : hpOk (qN q) (qH q)) (x : Nat) : hpOk (qN (qPut q x)) (qH (qPut q x)) :=
  qUp_hp (qN q + 1) (qN q) (qH q) (qN q) x (by omega) (Nat.le_refl _) (fun j h0 hj h1 _ => H j h0 (by omega)) (fun j h0 hj h1 => by omega) (fun _ j h0 hj h1 => by omega)
theorem qPut_cn (q : QueT) (x v : Nat) : hCn (qH (qPut q x)) v (qN (qPut q x)) = hCn (qH q) v (qN q) + (if x = v then 1 else 0) := by
  show hCn (qUp (qN q) (qH q) (qN q) x) v (qN q + 1) = _
  rw [qUp_cn v _ _ _ _ _ (by omega), hCn_end]
theorem qTake_hp {q : QueT} (H : hpOk (qN q) (qH q)) : hpOk (qN (qTake q)) (qH (qTake q)) := by
  show hpOk (qN q - 1) (qSink (qN q - 1) (qN q - 1) (qH q) 0 (qH q (qN q - 1)))
  by_cases h0 : qN q - 1 = 0
  · intro j h1 h2; omega
  · exact qSink_hp _ _ _ _ _ (by omega) (by omega) (fun j h1 hj _ _ => H j h1 (by omega)) (fun h => by omega) (fun h => by omega)
theorem qTake_cn {q : QueT} (h0 : 0 < qN q) (v : Nat) : hCn (qH (qTake q)) v (qN (qTake q)) + (if qH q 0 = v then 1 else 0) = hCn (qH q) v (qN q) := by
  obtain ⟨n, hn⟩ : ∃ n, qN q = n + 1 := ⟨qN q - 1, by omega⟩
  show hCn (qSink (qN q - 1) (qN q - 1) (qH q) 0 (qH q (qN q - 1))) v (qN q - 1) + _ = _
  rw [hn, show n + 1 - 1 = n from rfl, hCn_succ]
  by_cases hz : n = 0
  · subst hz; rfl
  · rw [qSink_cn v n _ _ _ _ (by omega)]
    exact hCn_upd (qH q) v (qH q n) (by omega)
/-! ===== pure facts: the reference's row of waiting comings ===== -/
/-- the row falls -/
theorem lex_up {a b c d K : Nat} (h : a < b ∨ (a = b ∧ c < d)) (hc : c < K) : a * K + c < b * K + d := by
  rcases h with h | ⟨h, h2⟩
  · have : (a + 1) * K ≤ b * K := Nat.mul_le_mul_right K h
    rw [Nat.add_mul, Nat.one_mul] at this
    omega
  · rw [h]; omega
theorem div_lex (n m K : Nat) (hK : 0 < K) (h : n < m) : n / K < m / K ∨ (n / K = m / K ∧ n % K < m % K) := by
  have h1 := Nat.div_add_mod n K
  have h2 := Nat.div_add_mod m K
  rcases Nat.lt_trichotomy (n / K) (m / K) with e | e | e
  · exact Or.inl e
  · refine Or.inr ⟨e, ?_⟩
    rw [e] at h1
    omega
  · have h3 : (m / K + 1) * K ≤ n / K * K := Nat.mul_le_mul_right K e
    rw [Nat.add_mul, Nat.one_mul, Nat.mul_comm, Nat.mul_comm (n / K)] at h3
    have := Nat.mod_lt m hK
    omega
theorem lex128 {a b y z : Nat} (h : a < b) (hy : y < 128) : a * 128 + y < b * 128 + z := by omega
/-- what comes first at the reference comes first at the other side -/
theorem pkC_t {t c r b z : Nat} (hc : c < 16) (hr : r < 32) (hb : b < 32) (hz : z < 128) : pkC t c r b z / 2 ^ 21 = t ∧ pkC t c r b z / 2 ^ 17 % 2 ^ 4 = c ∧ pkC t c r b z / 2 ^ 12 % 2 ^ 5 = r ∧ pkC t c r b z / 2 ^ 7 % 2 ^ 5 = b ∧ pkC t c r b z % 2 ^ 7 = z := by
  show (t * 2097152 + c * 131072 + r * 4096 + b * 128 + z) / 2097152 = t ∧ (t * 2097152 + c * 131072 + r * 4096 + b * 128 + z) / 131072 % 16 = c ∧ (t * 2097152 + c * 131072 + r * 4096 + b * 128 + z) / 4096 % 32 = r ∧ (t * 2097152 + c * 131072 + r * 4096 + b * 128 + z) / 128 % 32 = b ∧ (t * 2097152 + c * 131072 + r * 4096 + b * 128 + z) % 128 = z
  refine ⟨?_, ?_, ?_, ?_, ?_⟩ <;> omega
