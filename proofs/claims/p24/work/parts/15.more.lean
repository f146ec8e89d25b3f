/-! ===== general rows ===== -/
abbrev wdOk (n : Nat) : Prop := (1 ≤ n ∧ n ≤ 999999) ∧ ∀ i, i < dgs 6 n → 1 ≤ n / 10 ^ i % 10
theorem nI_toInt2 {x : Nat} (h : x < 4294967296) : (nI x).toInt = if x < 2147483648 then (x : Int) else (x : Int) - 4294967296 := by
  show (nI x).toBitVec.toInt = _
  rw [BitVec.toInt_eq_toNat_cond, nI_tb h]
  split <;> split <;> omega
theorem in_iff {x lo hi : Nat} (hx : x < 4294967296) (hl : lo < 2147483648) (hh : hi < 2147483648) : (nI lo ≤ nI x ∧ nI x ≤ nI hi) ↔ (lo ≤ x ∧ x ≤ hi) := by
  rw [Int32.le_iff_toInt_le, Int32.le_iff_toInt_le, nI_toInt2 hx, nI_toInt2 (x := lo) (by omega), nI_toInt2 (x := hi) (by omega), if_pos hl, if_pos hh]
  split <;> omega
theorem in_below {x n : Nat} (hx : x < 4294967296) (hn : n < 2147483648) : (nI 0 ≤ nI x ∧ nI x ≤ nI n - nI 1) ↔ x < n := by
  cases n with
  | zero =>
    rw [show nI 0 - nI 1 = (-1 : Int32) by decide, Int32.le_iff_toInt_le, Int32.le_iff_toInt_le, nI_toInt2 hx, show (nI 0).toInt = 0 by decide, show (-1 : Int32).toInt = -1 by decide]
    split <;> omega
  | succ n =>
    rw [show nI (n + 1) - nI 1 = nI n by rw [← nI_add, Int32.add_sub_cancel], in_iff hx (by omega) (by omega)]
    omega
theorem nI_le0 {x : Nat} (hx : x < 4294967296) : nI x ≤ 0 ↔ (x = 0 ∨ 2147483648 ≤ x) := by
  rw [Int32.le_iff_toInt_le, nI_toInt2 hx, show (0 : Int32).toInt = 0 by decide]
  split <;> omega
theorem if_eqN {A B : Prop} [Decidable A] [Decidable B] (h : A ↔ B) : (if A then 1 else 0 : Nat) = if B then 1 else 0 := by
  by_cases hb : B
  · rw [if_pos hb, if_pos (h.mpr hb)]
  · rw [if_neg hb, if_neg (fun ha => hb (h.mp ha))]
def wdP (k s left : Nat) : Prop := left < 4294967296 ∧ s ≤ 1 ∧ ∃ i, left = k / 10 ^ i ∧ (s = 1 ↔ ((1 ≤ k ∧ k ≤ 999999) ∧ ∀ j, j < i → 1 ≤ k / 10 ^ j % 10)) ∧ (k ≤ 999999 → i ≤ 6 ∧ i + dgs (6 - i) left = dgs 6 k ∧ left < 10 ^ (6 - i))
theorem wdP_0 {k s : Nat} (hk : k < 4294967296) (h : s = if 1 ≤ k ∧ k ≤ 999999 then 1 else 0) : wdP k s k := by
  refine ⟨hk, by rw [h]; split <;> omega, 0, by rw [Nat.pow_zero, Nat.div_one], ?_, fun h9 => ⟨by omega, by show 0 + dgs 6 k = dgs 6 k; omega, by show k < 1000000; omega⟩⟩
  rw [h]
  constructor
  · intro h2
    refine ⟨?_, fun j hj => absurd hj (Nat.not_lt_zero j)⟩
    by_cases h3 : 1 ≤ k ∧ k ≤ 999999
    · exact h3
    · rw [if_neg h3] at h2; omega
  · intro h2
    exact if_pos h2.1
theorem wdP_s {k s s2 left : Nat} (h : wdP k s left) (hl : 0 < left) (hs : s2 ≤ 1) (hs2 : s2 = 1 ↔ (s = 1 ∧ ¬ left % 10 = 0)) : wdP k s2 (left / 10) := by
  obtain ⟨h1, h2, i, h3, h4, h5⟩ := h
  refine ⟨by omega, hs, i + 1, by rw [h3, Nat.div_div_eq_div_mul, Nat.pow_succ], ?_, fun h9 => ?_⟩
  · rw [hs2, h4]
    constructor
    · rintro ⟨⟨a, b⟩, c⟩
      refine ⟨a, fun j hj => ?_⟩
      rcases Nat.lt_or_ge j i with e | e
      · exact b j e
      · rw [show j = i by omega, ← h3]; omega
    · rintro ⟨a, b⟩
      refine ⟨⟨a, fun j hj => b j (by omega)⟩, ?_⟩
      have := b i (by omega)
      rw [← h3] at this
      omega
  · obtain ⟨a, b, c⟩ := h5 h9
    have hi : i < 6 := by
      rcases Nat.lt_or_ge i 6 with e | e
      · exact e
      · rw [show 6 - i = 0 by omega] at c; omega
    rw [show 6 - i = (6 - (i + 1)) + 1 by omega] at b c
    refine ⟨by omega, ?_, by rw [Nat.pow_succ] at c; omega⟩
    rw [← b, show dgs ((6 - (i + 1)) + 1) left = dgs (6 - (i + 1)) (left / 10) + 1 from if_pos hl]
    omega
theorem wdP_e {k s left : Nat} (h : wdP k s left) (hl : left = 0 ∨ 2147483648 ≤ left) : s = if wdOk k then 1 else 0 := by
  obtain ⟨h1, h2, i, h3, h4, h5⟩ := h
  have key : s = 1 ↔ wdOk k := by
    rw [h4]
    by_cases hk : k ≤ 999999
    · obtain ⟨a, b, c⟩ := h5 hk
      have h6 : left ≤ k := by rw [h3]; exact Nat.div_le_self _ _
      have e : i = dgs 6 k := by
        rw [← b, show left = 0 by omega]
        cases (6 - i) <;> rfl
      show _ ↔ ((1 ≤ k ∧ k ≤ 999999) ∧ ∀ j, j < dgs 6 k → 1 ≤ k / 10 ^ j % 10)
      rw [← e]
    · constructor
      · intro h; exact absurd h.1.2 hk
      · intro h; exact absurd h.1.2 hk
  by_cases hw : wdOk k
  · rw [if_pos hw]; exact key.mpr hw
  · rw [if_neg hw]
    have : ¬ s = 1 := fun e => hw (key.mp e)
    omega
section EKM
variable {p : Program} {l : Launch} {e : Env} {R : Room} {s : State} {m : MethodId} {args : Array Value} {below : List Frame} {meth : Method} {c : Code} {own : String} {cc : ByteArray} {nL : Nat} {ret : Option FieldType} {Ts N : List Cond} {D : va_G} {tys : List (ClassId × FieldType)} {A B : Nat → Prop} {wr : Prop} {k n : Nat} {Q : State → Prop} {w : va_W} {pc : Nat} {lv : List (Nat × Value)} {st rest : List Value}
theorem ek_drop {w' : va_W} (is : List Nat) (h : is.map (fun i => w[i]?) = w'.map some) (hn : va_nd is = true) (kk : ek_G p l e R s m args below meth c nL D A B k n Q w' pc lv st) : ek_G p l e R s m args below meth c nL D A B k n Q w pc lv st := by
  have hf : is.filterMap (fun i => w[i]?) = w' := by
    have h1 : (is.map (fun i => w[i]?)).filterMap id = w' := by rw [h, List.filterMap_map]; simp
    rw [List.filterMap_map] at h1
    exact h1
  exact fun H locs ls hP hD hS hl => kk H locs ls (hP.sub is hf) (hD.sub is hn h) hS hl
theorem ek_doWiA {post : Int32 → Unit → Prop} {W' : Unit → va_W} {wc : va_W} {mc ms : Nat} {a : Array Value} {st0 : List Value} (X : ek_X p s m args meth c own cc nL ret Ts N D tys A B True) (hr : ek_Run p l e R s m args below meth c nL D B k n w pc lv st0 rest mc ms (fun sz => ek_Q D (va_A wc sz) (fun r u => ∃ v : Int32, r = some (.int v) ∧ post v u) W' a) (fun sz => va_A wc sz))
    (isC isR : List Nat) (hC : isC.map (fun i => w[i]?) = wc.map some) (hR : isR.all (fun i => decide (i < w.length)) = true) (hn : va_nd isR = true) (hdis : ∀ i ∈ isR, i ∉ isC) (w2 : Unit → va_W) (is2 : List Nat) (hn2 : va_nd is2 = true) (h2 : ∀ u : Unit, is2.map (fun i => (ek_at w isR ++ W' u)[i]?) = (w2 u).map some)
    (kk : ∀ (v : Int32) (u : Unit), post v u → ek_G p l e R s m args below meth c nL D A B (k + mc) (n + ms) Q (w2 u) (pc + 3) lv (.int v :: rest)) : ek_G p l e R s m args below meth c nL D A B k n Q w pc lv st0 := ek_doW X hr isC isR hC (ek_at_map hR) hn hdis w2 is2 hn2 h2 (fun r u h => by obtain ⟨v, rfl, hp⟩ := h; exact kk v u hp)
theorem ek_loopKn {σ : Type} (kf nf : σ → Nat) (P : σ → Prop) (μ : σ → Nat) (wd : σ → va_W) (lc : σ → List (Nat × Value)) (h : ∀ a : σ, P a → (∀ b : σ, P b → μ b < μ a → ek_G p l e R s m args below meth c nL D A B (kf b) (nf b) Q (wd b) pc (lc b) st) → ek_G p l e R s m args below meth c nL D A B (kf a) (nf a) Q (wd a) pc (lc a) st) (a : σ) (ha : P a) (hw : w = wd a) (is : List Nat) (hl : lv_pick lv is = lc a) (hk : k ≤ kf a) (hn : n ≤ nf a) : ek_G p l e R s m args below meth c nL D A B k n Q w pc lv st := by
  subst hw
  have key : ∀ (z : Nat) (a : σ), μ a = z → P a → ek_G p l e R s m args below meth c nL D A B (kf a) (nf a) Q (wd a) pc (lc a) st := by
    intro z
    induction z using Nat.strongRecOn with
    | ind z ih =>
      intro a hz ha
      exact h a ha (fun b hb hlt => ih (μ b) (by omega) b rfl hb)
  exact ek_widen hk hn (ek_re is hl (key _ a rfl ha))
theorem ek_retl {S : Type} {post : Option Value → S → Prop} {W' : S → va_W} {v : Int64} (X : ek_X p s m args meth c own cc nL (some .long) Ts N D tys A A True) (u : S) (hp : post (some (.long v)) u) (hw : w = W' u) (hdg : decode cc pc = .ok (.lreturn, 1)) : ek_G p l e R s m args below meth c nL D A A k n (ek_E D A post W' below args s k n) w pc lv [.long v] := fun H locs ls hP hD hS hl => W.lret (v := v) X.1.1 X.1.2.1 X.2.2.2.1 (fun t ht hW => ⟨⟨_, u, rfl, hp, by rw [ht, ← hw]; exact hP, by rw [← hw]; exact hD⟩, hS.F ht⟩) hS.2.2 hdg X.2.2.1
end EKM
abbrev wbOk (w b : Nat) : Prop := wdOk w ∧ 1 ≤ b ∧ b ≤ 20
def rep (y : Nat) : Nat → Nat
  | 0 => 0
  | t + 1 => 10 * rep y t + y
theorem rep_ok : ∀ y, y < 10 → 1 ≤ y → ∀ t, t < 7 → 1 ≤ t → wdOk (rep y t) := by
  intro y h1 h2 t h3 h4
  rcases (show y = 1 ∨ y = 2 ∨ y = 3 ∨ y = 4 ∨ y = 5 ∨ y = 6 ∨ y = 7 ∨ y = 8 ∨ y = 9 by omega) with rfl | rfl | rfl | rfl | rfl | rfl | rfl | rfl | rfl <;> rcases (show t = 1 ∨ t = 2 ∨ t = 3 ∨ t = 4 ∨ t = 5 ∨ t = 6 by omega) with rfl | rfl | rfl | rfl | rfl | rfl <;> decide
theorem rep_lt : ∀ y, y < 10 → ∀ t, t < 7 → rep y t < 1000000 := by decide
theorem nI_n0 {c : Nat} (h : 0 < c) (h2 : c < 2147483648) : ¬ nI c = nI 0 := fun e => by
  have := (nI_eq h2 (by omega)).mp e
  omega
abbrev dg (d : Int64) (x : Nat) : Int64 := d * 31 + (nI x).toInt64
