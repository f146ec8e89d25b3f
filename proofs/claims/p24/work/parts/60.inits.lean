/-! ===== the first states; a cave's bounds stay ===== -/
theorem i_e0 {k v M j : Nat} (h : v ≤ M) : eN (fun _ => (0 : Nat)) k v j ≤ M := by
  unfold eN
  split
  · exact h
  · exact Nat.zero_le _
theorem i_cOk : cOk cInit := ⟨⟨Nat.le_refl _, (by decide : 1 ≤ 12)⟩, Nat.zero_le _, Nat.zero_le _, fun _ => Nat.zero_le _, fun _ => i_e0 (Nat.le_refl _), fun _ => Nat.zero_le _, fun _ => Nat.zero_le _, fun _ => Nat.zero_le _, fun _ => Nat.zero_le _, fun _ => (by decide : 0 < 12), fun _ => (by decide : 0 < 12), fun _ => Nat.zero_le _, fun _ => Nat.zero_le _, fun _ _ => (by decide : 0 < 18)⟩
theorem i_sOk : sOk gInit qInit := ⟨Nat.zero_le _, (by decide : 0 < 4096), fun _ => Nat.zero_le _, fun _ => (by decide : 0 < 6), fun _ => (by decide : 0 < 68719476736), ⟨Nat.zero_le _, fun _ => (by decide : 0 < 2147483648)⟩, Nat.zero_le _⟩
theorem i_hOk : hOk hInit := ⟨Nat.zero_le _, (by decide : 5 ≤ 50), Nat.zero_le _, Nat.zero_le _, Nat.zero_le _, fun _ => (by decide : 0 < 1024)⟩
theorem cAdd_ok {u : CaveT} (H : cOk u) (hc : cC u < 12) {a t b : Nat} (ha : a ≤ 100) (ht : t ≤ 30) (hb : b ≤ 20) : cOk (cAdd u a t b) := by
  obtain ⟨⟨b1, b2⟩, b3, b4, b5, b6, b7, b8⟩ := H
  exact ⟨⟨by show 1 ≤ cC u + 1; omega, by show cC u + 1 ≤ 12; omega⟩, b3, b4, eN_bd b5 ha, eN_bd b6 ht, eN_bd b7 hb, b8⟩
theorem eN_bdl {f : Nat → Nat} {t v M : Nat} (h : ∀ j, f j < M) (hv : v < M) (j : Nat) : eN f t v j < M := eN_lt h hv j
theorem cPass_ok {u : CaveT} (H : cOk u) (hp : cP u < 18) {x b t w : Nat} (hx : x < 12) (hb : b < 12) (hxb : ¬ x = b) (ht : t ≤ 9) (hw : w ≤ 9) : cOk (cPass u x b t w) := by
  obtain ⟨b1, b2, b3, b4, b5, b6, b7, b8, b9, b10, b11, b12, b13, b14⟩ := H
  refine ⟨b1, by show cP u + 1 ≤ 18; omega, b3, b4, b5, b6, b7, b8, ?_, eN_bdl b10 hx, eN_bdl b11 hb, eN_bd b12 ht, eN_bd b13 hw, ?_⟩
  · intro j
    show eN (eN (cDrs u) x (cDrs u x + 1)) b (eN (cDrs u) x (cDrs u x + 1) b + 1) j ≤ cP u + 1
    rw [eN_ne (cDrs u) _ (fun e => hxb e.symm)]
    have d1 := b9 x
    have d2 := b9 b
    exact eN_bd (eN_bd (fun j => Nat.le_succ_of_le (b9 j)) (by omega)) (by omega) j
  · intro i j
    show eN (eN (cPb u) x (eN (cPb u x) (cDrs u x) (cP u))) b (eN (eN (cPb u) x (eN (cPb u x) (cDrs u x) (cP u)) b) (eN (cDrs u) x (cDrs u x + 1) b) (cP u)) i j < 18
    rw [eN_ne (cPb u) _ (fun e => hxb e.symm)]
    by_cases e1 : i = b
    · rw [e1, eN_self]; exact eN_bdl (b14 b) hp j
    · rw [eN_ne _ _ e1]
      by_cases e2 : i = x
      · rw [e2, eN_self]; exact eN_bdl (b14 x) hp j
      · rw [eN_ne _ _ e2]; exact b14 i j
theorem e_min (a b : Nat) (ha : a < 2147483648) (hb : b < 2147483648) : emin (nI a) (nI b) = nI (min a b) := by
  unfold emin
  by_cases h : b < a
  · rw [if_pos ((nI_ltI hb ha).mpr h), Nat.min_eq_right (Nat.le_of_lt h)]
  · rw [if_neg (fun e => h ((nI_ltI hb ha).mp e)), Nat.min_eq_left (Nat.le_of_not_lt h)]
