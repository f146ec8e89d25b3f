/-! ===== what the law's steps want ===== -/
theorem upOf_F {u : CaveT} (hU : cOk u) (f : Nat → Int32) {c : Nat} (hc : c < 12) : upOf (cSetF u f) c = upOf u c := by
  have i0 : ∀ v : CaveT, rG (eN (eFill 12 (-1) (cFnd v)) 0 (nI 30)) uK := fun v j hj => by
    by_cases e : j = 0
    · subst e
      rw [eN_self, uK_0]
      exact ⟨rfl, by decide⟩
    · rw [eN_ne _ _ e, uK_n e]
      exact ⟨if_pos hj, by decide⟩
  have h1 := (rG_all (u := cSetF u f) hU (i0 (cSetF u f)) (cC u - 1) c hc).1
  have h2 := (rG_all hU (i0 u) (cC u - 1) c hc).1
  rw [uAll_F] at h1
  exact h1.trans h2.symm
theorem gOn_F (u : CaveT) (f : Nat → Int32) (c r : Nat) (v : Int32) (t z : Nat) (g : SndT) (q : QueT) : ∀ d, gOn (cSetF u f) c r v t z g q d = gOn u c r v t z g q d
  | 0 => rfl
  | d + 1 => by
    show gOnS (cSetF u f) c r v t z d (gOn (cSetF u f) c r v t z g q d) = gOnS u c r v t z d (gOn u c r v t z g q d)
    rw [gOn_F u f c r v t z g q d]
    rfl
theorem gFar_F (u : CaveT) (f : Nat → Int32) (t c r b z : Nat) (g : SndT) (q : QueT) : gFar (cSetF u f) t c r b z g q = gFar u t c r b z g q := by
  unfold gFar
  rw [gOn_F]
  rfl
theorem gCome_F (u : CaveT) (f : Nat → Int32) (x : Nat) (g : SndT) (q : QueT) (h : EchT) : gCome (cSetF u f) x g q h = gCome u x g q h := by
  unfold gCome gComeP
  rw [gFar_F]
  rfl
theorem gLoop_F (u : CaveT) (f : Nat → Int32) : ∀ n s, gLoop (cSetF u f) n s = gLoop u n s
  | 0, _ => rfl
  | n + 1, s => by
    show (if qN s.2.1 = 0 then s else gLoop (cSetF u f) n (gCome (cSetF u f) (qH s.2.1 0) s.1 (qTake s.2.1) s.2.2)) = if qN s.2.1 = 0 then s else gLoop u n (gCome u (qH s.2.1 0) s.1 (qTake s.2.1) s.2.2)
    rw [gCome_F, gLoop_F u f n]
theorem gThrough_F (u : CaveT) (f : Nat → Int32) (w b x : Nat) (g : SndT) (q : QueT) (h : EchT) : gThrough (cSetF u f) w b x g q h = gThrough u w b x g q h := gLoop_F u f 629 _
theorem cSetF_2 {u u4 : CaveT} {f g1 g2 : Nat → Int32} (h : u4 = cSetF u f) : cSetF (cSetF u4 g1) g2 = cSetF u g2 := by
  subst h
  rfl
theorem dg_step {w cnt left : Nat} (h1 : cnt ≤ 6 ∧ left < 10 ^ (6 - cnt) ∧ dgs 6 w = cnt + dgs (6 - cnt) left) (h0 : 0 < left) : cnt + 1 ≤ 6 ∧ left / 10 < 10 ^ (6 - (cnt + 1)) ∧ dgs 6 w = cnt + 1 + dgs (6 - (cnt + 1)) (left / 10) := by
  obtain ⟨a1, a2, a3⟩ := h1
  have hc : cnt < 6 := by
    by_cases e : cnt = 6
    · rw [e, Nat.sub_self, Nat.pow_zero] at a2
      omega
    · omega
  obtain ⟨m, hm⟩ : ∃ m, 6 - cnt = m + 1 := ⟨5 - cnt, by omega⟩
  rw [show 6 - (cnt + 1) = m by omega]
  rw [hm] at a2 a3
  rw [Nat.pow_succ] at a2
  have a4 : dgs (m + 1) left = dgs m (left / 10) + 1 := by
    show (if 0 < left then dgs m (left / 10) + 1 else 0) = _
    exact if_pos h0
  rw [a4] at a3
  exact ⟨by omega, by omega, by omega⟩
theorem dg_lt {cnt left : Nat} (h : left < 10 ^ (6 - cnt)) : left < 1000000 := Nat.lt_of_lt_of_le h (Nat.le_trans (Nat.pow_le_pow_right (by decide) (Nat.sub_le 6 cnt)) (by decide))
theorem dg_end {w cnt left : Nat} (h1 : cnt ≤ 6 ∧ left < 10 ^ (6 - cnt) ∧ dgs 6 w = cnt + dgs (6 - cnt) left) (h0 : left = 0) : cnt = dgs 6 w := by
  have h2 := h1.2.2
  subst h0
  have h3 : ∀ f, dgs f 0 = 0 := fun f => by
    cases f with
    | zero => rfl
    | succ f => exact if_neg (Nat.lt_irrefl 0)
  rw [h3] at h2
  omega
theorem dgs_1 {w : Nat} (h : wdOk w) : 1 ≤ dgs 6 w := by
  have h1 := h.1.1
  show 1 ≤ if 0 < w then dgs 5 (w / 10) + 1 else 0
  rw [if_pos (by omega)]
  omega
theorem pW_pos {j : Nat} (h : 0 < j) : pW j = nI (j - 1) := if_neg (by omega)
theorem pW_pred {j : Nat} (h : 0 < j) : pW j + Int32.ofInt (-1) = pW (j - 1) := by
  rw [pW_pos h]
  exact pW_dec (j - 1)
theorem dg_fill {w n j left : Nat} {f : Nat → Nat} (hj : 0 < j) (hn : j ≤ n) (hl : left = w / 10 ^ (n - j)) (hf : ∀ i, j ≤ i → i < n → f i = w / 10 ^ (n - 1 - i) % 10) : left / 10 = w / 10 ^ (n - (j - 1)) ∧ ∀ i, j - 1 ≤ i → i < n → eN f (j - 1) (left % 10) i = w / 10 ^ (n - 1 - i) % 10 := by
  refine ⟨?_, fun i h1 h2 => ?_⟩
  · rw [hl, Nat.div_div_eq_div_mul, show n - (j - 1) = n - j + 1 by omega, Nat.pow_succ]
  · by_cases e : i = j - 1
    · rw [e, eN_self, hl, show n - 1 - (j - 1) = n - j by omega]
    · rw [eN_ne _ _ e]
      exact hf i (by omega) h2
theorem m1_nle {n : Nat} (h : n < 2147483648) : ¬ nI n ≤ (-1 : Int32) := fun e => (fa_of_lt (m1_lt h)).2.1 e
theorem m1_ne0 : ¬ (-1 : Int32) = 0 := by decide
theorem jF_keep {h : EchT} {ff : Nat → Int32} {i : Nat} (h4 : hFa h (i * 5 + 4) = 0) (hf : ∀ p, p < 6 → ff p = jF h p i) : ∀ p, p < 6 → ff p = jF h p (i + 1) := fun p hp => by
  show ff p = if hFa h (i * 5 + 4) = 1 ∧ hFa h (i * 5 + 1) = p ∧ jF h p i < 0 then nI (hFa h (i * 5)) else jF h p i
  rw [if_neg (fun hh => by rw [h4] at hh; exact absurd hh.1 (by decide))]
  exact hf p hp
theorem jF_old {h : EchT} {ff : Nat → Int32} {i : Nat} (h6 : hFa h (i * 5 + 1) < 6) (h0 : 0 ≤ ff (hFa h (i * 5 + 1))) (hf : ∀ p, p < 6 → ff p = jF h p i) : ∀ p, p < 6 → ff p = jF h p (i + 1) := fun p hp => by
  show ff p = if hFa h (i * 5 + 4) = 1 ∧ hFa h (i * 5 + 1) = p ∧ jF h p i < 0 then nI (hFa h (i * 5)) else jF h p i
  rw [if_neg]
  · exact hf p hp
  · intro hh
    rw [← hh.2.1, ← hf _ h6] at hh
    exact (fa_of_lt hh.2.2).2.1 h0
theorem jF_new {h : EchT} {ff : Nat → Int32} {i : Nat} (h4 : hFa h (i * 5 + 4) = 1) (h6 : hFa h (i * 5 + 1) < 6) (h0 : ¬ 0 ≤ ff (hFa h (i * 5 + 1))) (hf : ∀ p, p < 6 → ff p = jF h p i) : ∀ p, p < 6 → eN ff (hFa h (i * 5 + 1)) (nI (hFa h (i * 5))) p = jF h p (i + 1) := fun p hp => by
  show _ = if hFa h (i * 5 + 4) = 1 ∧ hFa h (i * 5 + 1) = p ∧ jF h p i < 0 then nI (hFa h (i * 5)) else jF h p i
  by_cases e : p = hFa h (i * 5 + 1)
  · subst e
    rw [eN_self, if_pos]
    rw [hf _ h6] at h0
    exact ⟨h4, rfl, fa_of_nle h0⟩
  · rw [eN_ne _ _ e, if_neg (fun hh => e hh.2.1.symm)]
    exact hf p hp
theorem jC_1 {h : EchT} {i : Nat} (h4 : hFa h (i * 5 + 4) = 1) : jC h i + 1 = jC h (i + 1) := by
  show _ = jC h i + if hFa h (i * 5 + 4) = 1 then 1 else 0
  rw [if_pos h4]
theorem jC_0 {h : EchT} {i : Nat} (h4 : hFa h (i * 5 + 4) = 0) : jC h i = jC h (i + 1) := by
  show _ = jC h i + if hFa h (i * 5 + 4) = 1 then 1 else 0
  rw [if_neg (by rw [h4]; decide)]
  rfl
theorem jC_le (h : EchT) : ∀ n, jC h n ≤ n
  | 0 => Nat.le_refl 0
  | n + 1 => by
    have := jC_le h n
    show jC h n + (if hFa h (n * 5 + 4) = 1 then 1 else 0) ≤ n + 1
    split <;> omega
theorem hSum_le {h : EchT} (hf : ∀ k, k < hK h → hFa h (k * 5 + 3) ≤ 81) : ∀ n, n ≤ hK h → hSum h n ≤ 81 * n
  | 0, _ => Nat.le_refl 0
  | n + 1, hn => by
    have := hSum_le hf n (by omega)
    have := hf n (by omega)
    show hSum h n + hFa h (n * 5 + 3) ≤ 81 * (n + 1)
    omega
theorem and_1 {a : Nat} (h : a ≤ 1) : nI a &&& nI 1 = nI a := by
  rcases (show a = 0 ∨ a = 1 by omega) with rfl | rfl <;> decide
theorem and_0 {a : Nat} (h : a ≤ 1) : nI a &&& nI 0 = nI 0 := by
  rcases (show a = 0 ∨ a = 1 by omega) with rfl | rfl <;> decide
/-- one syllable is in order just if something counts -/
theorem j_one {L B T w n x : Nat} {h : EchT} (hE : jE L B T w n x h) (hn : n = 1) : hIn h ↔ 0 < hCt h := by
  obtain ⟨⟨e1, -, -⟩, -, -, -, -, e9⟩ := hE
  have h9 := e9 hn
  show (0 < hPl h ∧ hOr h = hPl h) ↔ 0 < hCt h
  rw [h9, e1, hn]
  by_cases hc : hCt h = 0
  · rw [if_pos hc]
    omega
  · rw [if_neg hc]
    omega
theorem mean_nn (a b : Int32) (hb : b ≠ 0) : FP.Core.val64 (FP.Core.ddiv (FP.Core.i2d a) (FP.Core.i2d b)) ≠ .nan := (FP.Core.notNaN_iff _).mp (FP.Core.ddiv_out (a := FP.Core.i2d a) (b := FP.Core.i2d b) ((FP.Core.notNaN_iff _).mpr (FP.Core.i2d_fin a).ne_nan) (FP.Core.i2d_fin b) (fun hz => FP.Core.i2d_ne_zero hb ((FP.Core.zero_bits2 _).mp hz)))
theorem hMean_nn (h : EchT) (hk : hK h ≤ 60) : FP.Core.val64 (hMean h) ≠ .nan := by
  unfold hMean
  split
  · show FP.Core.val64 FP.Core.dconst0 ≠ .nan
    decide +kernel
  · exact mean_nn _ _ (nI_n0 (by omega) (by omega))
theorem hMean_self (h : EchT) (hk : hK h ≤ 60) (op : CmpOp) {y : UInt64} (e : y = hMean h) : Op.cmpValue (FP.dcmp (hMean h) y) op = nI 0 := by
  have e2 : FP.dcmp (hMean h) (hMean h) = some .eq := FP.Core.dcmp_self (hMean_nn h hk)
  rw [e, e2]
  rfl
theorem lg_cmp_self (x : Int64) : lg_cmp x x = 0 := by
  unfold lg_cmp
  simp
theorem pF4 (u : CaveT) (i : Nat) : pFact u i 4 ≤ 1 := by
  show (if cOpen u i then 1 else 0) ≤ 1
  split <;> omega
theorem cF65 (u : CaveT) (c : Nat) : cFact u c 6 ≤ cFact u c 5 := eC_le (fun k => cOpen u (cPb u c k)) (cDrs u c)
theorem pF_open {u : CaveT} {i : Nat} (h : pFact u i 4 = 1) : cOpen u i := by
  by_cases e : cOpen u i
  · exact e
  · have h0 : pFact u i 4 = 0 := if_neg e
    rw [h0] at h
    exact absurd h (by decide)
theorem lLst_A {u : CaveT} {i ls : Nat} (h : ¬ pFact u i 4 = 1) (e : ls = lLst u i) : ls = lLst u (i + 1) := by
  show ls = if cOpen u i ∧ (cFrm u i = 0 ∨ cTo u i = 0) then min (lLst u i) (cLen u i) else lLst u i
  rw [if_neg (fun hh => h (if_pos hh.1))]
  exact e
theorem lLst_B {u : CaveT} {i ls : Nat} (h : pFact u i 4 = 1) (h0 : pFact u i 0 = 0 ∨ pFact u i 1 = 0) (e : ls = lLst u i) : min ls (pFact u i 2) = lLst u (i + 1) := by
  show min ls (cLen u i) = if cOpen u i ∧ (cFrm u i = 0 ∨ cTo u i = 0) then min (lLst u i) (cLen u i) else lLst u i
  rw [if_pos ⟨pF_open h, h0⟩, e]
theorem lLst_C {u : CaveT} {i ls : Nat} (h0 : ¬ pFact u i 0 = 0) (h1 : ¬ pFact u i 1 = 0) (e : ls = lLst u i) : ls = lLst u (i + 1) := by
  show ls = if cOpen u i ∧ (cFrm u i = 0 ∨ cTo u i = 0) then min (lLst u i) (cLen u i) else lLst u i
  rw [if_neg (fun hh => hh.2.elim h0 h1)]
  exact e
