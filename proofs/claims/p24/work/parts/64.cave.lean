/-! ===== a cave as the law builds it; what asking leaves ===== -/
def cDz (u : CaveT) : Prop := ∀ c, cSyl u c = 0 → cDel u c = 0
def cAll (u : CaveT) : Prop := cOk u ∧ cGeo u ∧ cDz u
theorem cDoor_geo {u : CaveT} {c i : Nat} {P : Nat} (h : ∀ c k, k < cDrs u c → cPb u c k < P ∧ (cFrm u (cPb u c k) = c ∨ cTo u (cPb u c k) = c)) (hi : i < P) (hc : cFrm u i = c ∨ cTo u i = c) : ∀ c' k, k < cDrs (cDoor u c i) c' → cPb (cDoor u c i) c' k < P ∧ (cFrm (cDoor u c i) (cPb (cDoor u c i) c' k) = c' ∨ cTo (cDoor u c i) (cPb (cDoor u c i) c' k) = c') := by
  intro c' k hk
  show eN (cPb u) c (eN (cPb u c) (cDrs u c) i) c' k < P ∧ (cFrm u (eN (cPb u) c (eN (cPb u c) (cDrs u c) i) c' k) = c' ∨ cTo u (eN (cPb u) c (eN (cPb u c) (cDrs u c) i) c' k) = c')
  have hk2 : k < eN (cDrs u) c (cDrs u c + 1) c' := hk
  by_cases e : c' = c
  · subst e
    rw [eN_self] at hk2 ⊢
    by_cases e2 : k = cDrs u c'
    · subst e2
      rw [eN_self]
      exact ⟨hi, hc⟩
    · rw [eN_ne _ _ e2]
      exact h c' k (by omega)
  · rw [eN_ne _ _ e] at hk2 ⊢
    exact h c' k hk2
theorem cPass_geo {u : CaveT} (h : cGeo u) {a b t n : Nat} (ha : a < cC u) (hb : b < cC u) (hab : ¬ a = b) (ht : 1 ≤ t) : cGeo (cPass u a b t n) := by
  obtain ⟨h1, h2⟩ := h
  refine ⟨fun p hp => ?_, ?_⟩
  · have hp2 : p < cP u + 1 := hp
    show (eN (cFrm u) (cP u) a p < cC u ∧ eN (cTo u) (cP u) b p < cC u) ∧ eN (cFrm u) (cP u) a p ≠ eN (cTo u) (cP u) b p ∧ 1 ≤ eN (cLen u) (cP u) t p
    by_cases e : p = cP u
    · subst e
      rw [eN_self, eN_self, eN_self]
      exact ⟨⟨ha, hb⟩, hab, ht⟩
    · rw [eN_ne _ _ e, eN_ne _ _ e, eN_ne _ _ e]
      exact h1 p (by omega)
  · have d0 : ∀ c k, k < cDrs (cEnds u a b t n) c → cPb (cEnds u a b t n) c k < cP u + 1 ∧ (cFrm (cEnds u a b t n) (cPb (cEnds u a b t n) c k) = c ∨ cTo (cEnds u a b t n) (cPb (cEnds u a b t n) c k) = c) := fun c k hk => by
      obtain ⟨q1, q2⟩ := h2 c k hk
      refine ⟨by show cPb u c k < cP u + 1; omega, ?_⟩
      show eN (cFrm u) (cP u) a (cPb u c k) = c ∨ eN (cTo u) (cP u) b (cPb u c k) = c
      rw [eN_ne _ _ (by omega), eN_ne _ _ (by omega)]
      exact q2
    have d1 := cDoor_geo (u := cEnds u a b t n) (c := a) (i := cP u) d0 (by omega) (Or.inl (eN_self _ _ _))
    exact cDoor_geo (P := cP u + 1) (u := cDoor (cEnds u a b t n) a (cP u)) (c := b) (i := cP u) d1 (by omega) (Or.inr (eN_self _ _ _))
theorem cAll_init : cAll cInit := ⟨i_cOk, ⟨fun p hp => absurd hp (Nat.not_lt_zero p), fun c k hk => absurd hk (Nat.not_lt_zero k)⟩, fun _ _ => rfl⟩
theorem cAll_add {u : CaveT} (h : cAll u) (hc : cC u < 12) {a t b : Nat} (ha : a ≤ 100) (ht : t ≤ 30) (hb : b ≤ 20) : cAll (cAdd u a t b) := by
  obtain ⟨h1, ⟨h2, h3⟩, h4⟩ := h
  exact ⟨cAdd_ok h1 hc ha ht hb, ⟨fun p hp => ⟨⟨Nat.lt_succ_of_lt (h2 p hp).1.1, Nat.lt_succ_of_lt (h2 p hp).1.2⟩, (h2 p hp).2⟩, h3⟩, h4⟩
theorem cAll_pass {u : CaveT} (h : cAll u) (hp : cP u < 18) {a b t n : Nat} (ha : a < cC u) (hb : b < cC u) (hab : ¬ a = b) (ht : 1 ≤ t) (ht9 : t ≤ 9) (hn : n ≤ 9) : cAll (cPass u a b t n) := by
  have hC := h.1.1.2
  exact ⟨cPass_ok h.1 hp (by omega) (by omega) hab ht9 hn, cPass_geo h.2.1 ha hb hab ht, h.2.2⟩
theorem cAll_clap {u : CaveT} (h : cAll u) {c y d : Nat} (hy : y ≤ 9) (hd : d ≤ 20) : cAll (cClap u c y d) := by
  refine ⟨cClap_ok h.1 hy hd, h.2.1, fun j hj => ?_⟩
  have hj2 : eN (cSyl u) c y j = 0 := hj
  show eN (cDel u) c (if y = 0 then 0 else d) j = 0
  by_cases e : j = c
  · rw [e, eN_self] at hj2
    rw [e, eN_self, if_pos hj2]
  · rw [eN_ne _ _ e] at hj2 ⊢
    exact h.2.2 j hj2
theorem cAll_bats {u : CaveT} (h : cAll u) {c b : Nat} (hb : b ≤ 20) : cAll (cC u, cP u, cW u, cWal u, cHgt u, eN (cBat u) c b, cSyl u, cDel u, cDrs u, cFrm u, cTo u, cLen u, cNar u, cPb u, cFnd u) := by
  obtain ⟨⟨h1, h2, h3, h4, h5, h6, h7⟩, h8, h9⟩ := h
  exact ⟨⟨h1, h2, h3, h4, h5, eN_bd h6 hb, h7⟩, h8, h9⟩
theorem cAll_water {u : CaveT} (h : cAll u) {k : Nat} (hk : k ≤ 30) : cAll (cC u, cP u, k, cWal u, cHgt u, cBat u, cSyl u, cDel u, cDrs u, cFrm u, cTo u, cLen u, cNar u, cPb u, cFnd u) := by
  obtain ⟨⟨h1, h2, h3, h4⟩, h8, h9⟩ := h
  exact ⟨⟨h1, h2, hk, h4⟩, h8, h9⟩
theorem cAll_F {u : CaveT} (h : cAll u) (f : Nat → Int32) : cAll (cSetF u f) := h
theorem eN_back {f : Nat → Nat} (c v : Nat) : eN (eN f c v) c (f c) = f := by
  funext j
  by_cases e : j = c
  · rw [e, eN_self]
  · rw [eN_ne _ _ e, eN_ne _ _ e]
theorem cBack_id {u : CaveT} (h : cDz u) (c y d : Nat) : cBack u c y d = u := by
  have e : eN (eN (cDel u) c (if y = 0 then 0 else d)) c (if cSyl u c = 0 then 0 else cDel u c) = cDel u := by
    have : (if cSyl u c = 0 then 0 else cDel u c) = cDel u c := by
      split
      · rename_i e0
        exact (h c e0).symm
      · rfl
    rw [this]
    exact eN_back c _
  show ((cC u, cP u, cW u, cWal u, cHgt u, cBat u, eN (eN (cSyl u) c y) c (cSyl u c), eN (eN (cDel u) c (if y = 0 then 0 else d)) c (if cSyl u c = 0 then 0 else cDel u c), cDrs u, cFrm u, cTo u, cLen u, cNar u, cPb u, cFnd u) : CaveT) = u
  rw [e, eN_back]
theorem vQuick_a {u : CaveT} (hB : cOk u) {x w : Nat} (hx : x ≤ 50) : ∀ (f b : Nat) (s : SndT × QueT × EchT), b + f ≤ 21 → sOk s.1 s.2.1 → hOk s.2.2 → (sOk (vQuick u x w f b s).2.1 (vQuick u x w f b s).2.2.1 ∧ hOk (vQuick u x w f b s).2.2.2) ∧ ((vQuick u x w f b s).1 = -1 ∨ ∃ j, (vQuick u x w f b s).1 = nI j ∧ j ≤ 20)
  | 0, b, s, _, h1, h2 => ⟨⟨h1, h2⟩, Or.inl rfl⟩
  | f + 1, b, s, hb, h1, h2 => by
    obtain ⟨a1, a2⟩ := gThrough_ok hB h1 h2 (w := w) (b := b) (x := x) (by omega) hx
    unfold vQuick
    split
    · exact ⟨⟨a1, a2⟩, Or.inr ⟨b, rfl, by omega⟩⟩
    · exact vQuick_a hB hx f (b + 1) _ (by omega) a1 a2
theorem vLong_a {u : CaveT} (hB : cOk u) {x y b : Nat} (hx : x ≤ 50) (hb : b ≤ 20) : ∀ (f t best : Nat) (s : SndT × QueT × EchT), t + f ≤ 7 → best ≤ 6 → sOk s.1 s.2.1 → hOk s.2.2 → (sOk (vLong u x y b f t best s).2.1 (vLong u x y b f t best s).2.2.1 ∧ hOk (vLong u x y b f t best s).2.2.2) ∧ (vLong u x y b f t best s).1 ≤ 6
  | 0, t, best, s, _, h0, h1, h2 => ⟨⟨h1, h2⟩, h0⟩
  | f + 1, t, best, s, ht, h0, h1, h2 => by
    obtain ⟨a1, a2⟩ := gThrough_ok hB h1 h2 (w := rep y t) (b := b) (x := x) hb hx
    unfold vLong
    exact vLong_a hB hx hb f (t + 1) _ _ (by omega) (by split <;> omega) a1 a2
theorem vAdv_a {x w b y d : Nat} (hx : x ≤ 50) (hb : b ≤ 20) (hy : y ≤ 9) (hd : d ≤ 20) {u : CaveT} (hU : cAll u) : ∀ (f c : Nat) (g : SndT) (q : QueT) (k : EchT), sOk g q → hOk k → ((vAdv x w b y d f c (u, g, q, k)).2.1 = u ∧ sOk (vAdv x w b y d f c (u, g, q, k)).2.2.1 (vAdv x w b y d f c (u, g, q, k)).2.2.2.1 ∧ hOk (vAdv x w b y d f c (u, g, q, k)).2.2.2.2) ∧ ((vAdv x w b y d f c (u, g, q, k)).1 = -1 ∨ ∃ j, (vAdv x w b y d f c (u, g, q, k)).1 = nI j ∧ c ≤ j ∧ j < c + f)
  | 0, c, g, q, k, h1, h2 => ⟨⟨rfl, h1, h2⟩, Or.inl rfl⟩
  | f + 1, c, g, q, k, h1, h2 => by
    obtain ⟨a1, a2⟩ := gThrough_ok (cClap_ok hU.1 (c := c) hy hd) h1 h2 (w := w) (b := b) (x := x) hb hx
    unfold vAdv
    split
    · exact ⟨⟨cBack_id hU.2.2 c y d, a1, a2⟩, Or.inr ⟨c, rfl, Nat.le_refl _, by omega⟩⟩
    · show ((vAdv x w b y d f (c + 1) (cBack u c y d, _, _, _)).2.1 = u ∧ _) ∧ _
      rw [cBack_id hU.2.2 c y d]
      obtain ⟨r1, r2⟩ := vAdv_a hx hb hy hd hU f (c + 1) (gThrough (cClap u c y d) w b x g q k).1 (gThrough (cClap u c y d) w b x g q k).2.1 (gThrough (cClap u c y d) w b x g q k).2.2 a1 a2
      exact ⟨r1, r2.imp id (fun ⟨j, e, j1, j2⟩ => ⟨j, e, by omega, by omega⟩)⟩
theorem uRnd_F (u : CaveT) (f : Nat → Int32) (k : Nat → Nat) : ∀ n, uRnd (cSetF u f) k n = uRnd u k n
  | 0 => rfl
  | n + 1 => by
    show uR1 u (uR1 u (uRnd (cSetF u f) k n) (cFrm u n) (cTo u n)) (cTo u n) (cFrm u n) = _
    rw [uRnd_F u f k n]
    rfl
theorem uAll_F (u : CaveT) (f : Nat → Int32) (k : Nat → Nat) : ∀ r, uAll (cSetF u f) k r = uAll u k r
  | 0 => rfl
  | r + 1 => by
    show uRnd (cSetF u f) (uAll (cSetF u f) k r) (cP u) = uRnd u (uAll u k r) (cP u)
    rw [uAll_F u f k r, uRnd_F]
