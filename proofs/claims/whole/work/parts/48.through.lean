/-! ===== pure facts: a word's sound in the two caves, from its first syllable to its last coming ===== -/
theorem i32_pos : ∀ k, k < 201 → ¬ nI k < 0 := by decide +kernel
/-- what is heard is alike, and so are the ears -/
def rE (m : MdlT) (h : EchT) (t : MsnT) : Prop := rEcho h t ∧ (hEar h = mEar m ∧ hLa h = tLa t) ∧ (∀ j, j < 6 → tFi t j = -1 ∨ ∃ k, k ≤ 200 ∧ tFi t j = nI k) ∧ tK t ≤ 60
theorem rKeep {m : MdlT} {h : EchT} {t : MsnT} (hE : rE m h t) (hk : ¬ 60 ≤ tK t) (x r z : Nat) : rE m (hKeep h x (tPc t r) (tSy t r) z) (tKeep m x r z t) := by
  obtain ⟨⟨⟨e1, e2, e3, e4⟩, e6, e7⟩, ⟨e8, e5⟩, e9, e10⟩ := hE
  refine ⟨⟨⟨by show hK h + 1 = tK t + 1; rw [e1], e2, e3, e4⟩, fun j hj => ?_, e7⟩, ⟨e8, e5⟩, e9, by show tK t + 1 ≤ 60; omega⟩
  have hj2 : j < 5 * (tK t + 1) := hj
  show eN (eN (eN (eN (eN (hFa h) (hK h * 5) x) (hK h * 5 + 1) (tPc t r)) (hK h * 5 + 2) (tSy t r)) (hK h * 5 + 3) z) (hK h * 5 + 4) (if hEar h ≤ z then 1 else 0) j = eN (eN (eN (eN (eN (tHe t) (5 * tK t) x) (5 * tK t + 1) (tPc t r)) (5 * tK t + 2) (tSy t r)) (5 * tK t + 3) z) (5 * tK t + 4) (if mEar m ≤ z then 1 else 0) j
  rw [e1, e8, Nat.mul_comm (tK t) 5]
  by_cases c4 : j = 5 * tK t + 4
  · rw [c4, eN_self, eN_self]
  · rw [eN_ne _ _ c4, eN_ne _ _ c4]
    by_cases c3 : j = 5 * tK t + 3
    · rw [c3, eN_self, eN_self]
    · rw [eN_ne _ _ c3, eN_ne _ _ c3]
      by_cases c2 : j = 5 * tK t + 2
      · rw [c2, eN_self, eN_self]
      · rw [eN_ne _ _ c2, eN_ne _ _ c2]
        by_cases c1 : j = 5 * tK t + 1
        · rw [c1, eN_self, eN_self]
        · rw [eN_ne _ _ c1, eN_ne _ _ c1]
          by_cases c0 : j = 5 * tK t
          · rw [c0, eN_self, eN_self]
          · rw [eN_ne _ _ c0, eN_ne _ _ c0]; exact e6 j (by omega)
theorem rCount {m : MdlT} {h : EchT} {t : MsnT} (hE : rE m h t) {x r : Nat} (hx : x ≤ 200) (hp : tPc t r < 6) : rE m (hCount h x (tPc t r)) (tCount x r t) := by
  obtain ⟨⟨⟨e1, e2, e3, e4⟩, e6, e7⟩, ⟨e8, e5⟩, e9, e10⟩ := hE
  have hf : hFi h (tPc t r) < 0 ↔ tFi t (tPc t r) = -1 := by
    rw [e7 _ hp]
    rcases e9 _ hp with e | ⟨k, hk, e⟩
    · rw [e]; exact ⟨fun _ => rfl, fun _ => by decide⟩
    · rw [e]; exact ⟨fun a => absurd a (i32_pos k (by omega)), fun a => absurd a (nI_ne1 (by omega))⟩
  refine ⟨⟨⟨e1, by show hCt h + 1 = tCt t + 1; rw [e2], e3, ?_⟩, e6, fun j hj => ?_⟩, ⟨e8, rfl⟩, fun j hj => ?_, e10⟩
  · show (if tPc t r = hOr h then hOr h + 1 else hOr h) = (if tPc t r = tOr t then tOr t + 1 else tOr t)
    rw [e4]
  · show (if hFi h (tPc t r) < 0 then eN (hFi h) (tPc t r) (nI x) else hFi h) j = (if tFi t (tPc t r) = -1 then eN (tFi t) (tPc t r) (nI x) else tFi t) j
    by_cases c : tFi t (tPc t r) = -1
    · rw [if_pos c, if_pos (hf.mpr c)]
      by_cases cj : j = tPc t r
      · rw [cj, eN_self, eN_self]
      · rw [eN_ne _ _ cj, eN_ne _ _ cj]; exact e7 j hj
    · rw [if_neg c, if_neg (fun a => c (hf.mp a))]; exact e7 j hj
  · show (if tFi t (tPc t r) = -1 then eN (tFi t) (tPc t r) (nI x) else tFi t) j = -1 ∨ ∃ k, k ≤ 200 ∧ (if tFi t (tPc t r) = -1 then eN (tFi t) (tPc t r) (nI x) else tFi t) j = nI k
    by_cases c : tFi t (tPc t r) = -1
    · rw [if_pos c]
      by_cases cj : j = tPc t r
      · rw [cj, eN_self]; exact Or.inr ⟨x, hx, rfl⟩
      · rw [eN_ne _ _ cj]; exact e9 j hj
    · rw [if_neg c]; exact e9 j hj
theorem rHear {m : MdlT} {h : EchT} {t : MsnT} (hE : rE m h t) {x r z : Nat} (hx : x ≤ 200) (hp : tPc t r < 6) : rE m (hHear h x (tPc t r) (tSy t r) z) (tHear m x r z t) := by
  have e1 := hE.1.1.1
  have e8 := hE.2.1.1
  have e10 := hE.2.2.2
  unfold hHear tHear
  by_cases c : 60 = tK t
  · rw [if_pos c, if_pos (show 60 ≤ hK h by omega)]; exact hE
  · rw [if_neg c, if_neg (show ¬ 60 ≤ hK h by omega), e8]
    have hk := rKeep hE (show ¬ 60 ≤ tK t by omega) x r z
    by_cases c2 : mEar m ≤ z
    · rw [if_pos c2, if_pos c2]
      exact rCount (t := tKeep m x r z t) hk hx hp
    · rw [if_neg c2, if_neg c2]; exact hk
theorem rS_hear {X : Nat} {u : CaveT} {m : MdlT} {g : SndT} {t : MsnT} (h : rS X u m g t) (x r z : Nat) : rS X u m g (tHear m x r z t) := by
  obtain ⟨h1, h2, h3, h4⟩ := h
  unfold tHear tCount tKeep
  split
  · exact ⟨h1, h2, h3, h4⟩
  · split
    · exact ⟨h1, h2, h3, h4⟩
    · exact ⟨h1, h2, h3, h4⟩
theorem rQ_hear {q : QueT} {m : MdlT} {t : MsnT} (h : rQ q t) (x r z : Nat) : rQ q (tHear m x r z t) := by
  obtain ⟨h1, h2, h3, h4⟩ := h
  unfold tHear tCount tKeep
  split
  · exact ⟨h1, h2, h3, h4⟩
  · split
    · exact ⟨h1, h2, h3, h4⟩
    · exact ⟨h1, h2, h3, h4⟩
theorem rW_hear {X : Nat} {m : MdlT} {t : MsnT} (h : rW X m t) (x r z : Nat) : rW X m (tHear m x r z t) := by
  unfold tHear tCount tKeep
  split
  · exact h
  · split
    · exact fun j hj => h j hj
    · exact fun j hj => h j hj
theorem rE_come {m : MdlT} {h : EchT} {t : MsnT} (hE : rE m h t) (x c r b z : Nat) : rE m h (tCome x c r b z t) := by
  obtain ⟨⟨⟨e1, e2, e3, e4⟩, e6, e7⟩, ⟨e8, e5⟩, e9, e10⟩ := hE
  unfold tCome
  split
  · exact ⟨⟨⟨e1, e2, e3, e4⟩, e6, e7⟩, ⟨e8, e5⟩, e9, e10⟩
  · exact ⟨⟨⟨e1, e2, e3, e4⟩, e6, e7⟩, ⟨e8, e5⟩, e9, e10⟩
theorem rE_th {m : MdlT} {h : EchT} {t : MsnT} (hE : rE m h t) (r v : Nat) : rE m h (tThS t r v) := by
  obtain ⟨⟨⟨e1, e2, e3, e4⟩, e6, e7⟩, ⟨e8, e5⟩, e9, e10⟩ := hE
  exact ⟨⟨⟨e1, e2, e3, e4⟩, e6, e7⟩, ⟨e8, e5⟩, e9, e10⟩
theorem rE_ba {m : MdlT} {h : EchT} {t : MsnT} (hE : rE m h t) (r v : Nat) : rE m h (tBaS t r v) := by
  obtain ⟨⟨⟨e1, e2, e3, e4⟩, e6, e7⟩, ⟨e8, e5⟩, e9, e10⟩ := hE
  exact ⟨⟨⟨e1, e2, e3, e4⟩, e6, e7⟩, ⟨e8, e5⟩, e9, e10⟩
theorem rE_set {m : MdlT} {h : EchT} {t : MsnT} (hE : rE m h t) (c : Nat) : rE m h (tSet t c) := by
  obtain ⟨⟨⟨e1, e2, e3, e4⟩, e6, e7⟩, ⟨e8, e5⟩, e9, e10⟩ := hE
  exact ⟨⟨⟨e1, e2, e3, e4⟩, e6, e7⟩, ⟨e8, e5⟩, e9, e10⟩
theorem rE_new {m : MdlT} {h : EchT} {t : MsnT} (hE : rE m h t) (p y : Nat) : rE m h (tMore (tNew p y t)) := by
  obtain ⟨⟨⟨e1, e2, e3, e4⟩, e6, e7⟩, ⟨e8, e5⟩, e9, e10⟩ := hE
  exact ⟨⟨⟨e1, e2, e3, e4⟩, e6, e7⟩, ⟨e8, e5⟩, e9, e10⟩
theorem rE_go {m : MdlT} {h : EchT} {t : MsnT} (hE : rE m h t) (x c r p z : Nat) : rE m h (tGo m x c r p z t) := by
  unfold tGo
  split
  · split
    · exact hE
    · exact rE_come (rE_th hE r _) _ _ _ _ _
  · split
    · exact hE
    · exact rE_come (rE_ba hE r _) _ _ _ _ _
theorem rE_start {m : MdlT} {h : EchT} {t : MsnT} (hE : rE m h t) (x c p y z : Nat) : rE m h (tStart x c p y z t) := by
  rw [show tStart x c p y z t = tCome x c (tRu t) 0 z (tMore (tNew p y t)) from tMore_come _ _ _ _ _ _]
  exact rE_come (rE_new hE p y) _ _ _ _ _
theorem rE_clap {m : MdlT} {h : EchT} {t : MsnT} (hE : rE m h t) (x c r : Nat) : rE m h (tClap m x c r t) := by
  unfold tClap
  split
  · split
    · exact rE_set hE c
    · exact rE_start (rE_set hE c) _ _ _ _ _
  · exact hE
theorem rE_gos {m : MdlT} {h : EchT} {t : MsnT} (hE : rE m h t) (c r b x z : Nat) : ∀ p, rE m h (tGos m c r b x z t p)
  | 0 => hE
  | p + 1 => by
    show rE m h (tGosS m c r b x z p (tGos m c r b x z t p))
    unfold tGosS
    split
    · exact rE_go (rE_gos hE c r b x z p) _ _ _ _ _
    · exact rE_gos hE c r b x z p
/-- the three together -/
def rA (X : Nat) (u : CaveT) (m : MdlT) (g : SndT) (q : QueT) (t : MsnT) : Prop := rS X u m g t ∧ rQ q t ∧ rW X m t
theorem rA_hear {X : Nat} {u : CaveT} {m : MdlT} {g : SndT} {q : QueT} {t : MsnT} (h : rA X u m g q t) (x r z : Nat) : rA X u m g q (tHear m x r z t) := ⟨rS_hear h.1 _ _ _, rQ_hear h.2.1 _ _ _, rW_hear h.2.2 _ _ _⟩
theorem pW_eq {p b : Nat} (hp : p < 18) (hb : b < 19) : nI p = pW b ↔ p + 1 = b := by
  by_cases h0 : b = 0
  · subst h0
    exact ⟨fun e => absurd e (nI_ne1 (by omega)), fun e => by omega⟩
  · rw [show pW b = nI (b - 1) from if_neg h0]
    constructor
    · intro e
      have e2 := congrArg (fun x : Int32 => x.toBitVec.toNat) e
      have e3 : (nI p).toBitVec.toNat = (nI (b - 1)).toBitVec.toNat := e2
      rw [nI_tb (by omega), nI_tb (by omega)] at e3
      omega
    · intro e
      rw [show b - 1 = p by omega]
/-- the doors of a chamber, one behind the other -/
theorem rOn {X : Nat} {u : CaveT} {m : MdlT} {g : SndT} {q : QueT} {t : MsnT} (hM : mOk m) (hT : tOk m t) (hC : rCav0 u m) (hA : rA X u m g q t) {c r b z : Nat} (hc : c < mC m) (hr : r < tRu t) (hb : b < 19) (hz : z < 128) : ∀ p, p ≤ mP m → rA X u m (gOn u c r (pW b) X z g q (mTc m c p)).1 (gOn u c r (pW b) X z g q (mTc m c p)).2 (tGos m c r b X z t p)
  | 0, _ => hA
  | p + 1, hp => by
    have hC12 := hM.1.2
    have hP18 := hM.2.1
    have ih := rOn hM hT hC hA hc hr hb hz p (by omega)
    obtain ⟨o1, o2⟩ := tGos_ok hM hT (c := c) (r := r) (b := b) (x := X) (z := z) (by omega) hr hz p (by omega)
    show rA X u m (gOn u c r (pW b) X z g q (mTc m c p + (if mTouch m p c then 1 else 0))).1 (gOn u c r (pW b) X z g q (mTc m c p + (if mTouch m p c then 1 else 0))).2 (tGosS m c r b X z p (tGos m c r b X z t p))
    unfold tGosS
    by_cases ht : mTouch m p c
    · rw [if_pos ht]
      show rA X u m (gOnS u c r (pW b) X z (mTc m c p) (gOn u c r (pW b) X z g q (mTc m c p))).1 (gOnS u c r (pW b) X z (mTc m c p) (gOn u c r (pW b) X z g q (mTc m c p))).2 _
      unfold gOnS
      rw [hC.2.2.2.2.2 c (by omega) p (by omega) ht]
      by_cases hpb : p + 1 = b
      · rw [if_pos ((pW_eq (by omega) hb).mpr hpb), if_neg (fun h => h.1 hpb)]
        exact ih
      · rw [if_neg (fun h => hpb ((pW_eq (by omega) hb).mp h))]
        by_cases ho : mOpen m p (mW m)
        · rw [if_pos ((rOpen0 hM hC (by omega)).mpr ho), if_pos ⟨hpb, ht, ho⟩]
          exact rGo hM o1 hC ih.1 ih.2.1 ih.2.2 (by omega) (by omega) ht
        · rw [if_neg (fun h => ho ((rOpen0 hM hC (by omega)).mp h)), if_neg (fun h => ho h.2.2)]
          exact ih
    · rw [if_neg ht, if_neg (fun h => ht h.2.1)]
      exact ih
set_option maxHeartbeats 1000000 in
/-- one coming -/
theorem rArr {X : Nat} {u : CaveT} {m : MdlT} {g : SndT} {q : QueT} {h : EchT} {t : MsnT} {n z : Nat} (hM : mOk m) (hT : tOk m t) (hC : rCav0 u m) (hA : rA X u m g q t) (hE : rE m h t) (hn : tEnt m (tRu t) n) (hX : n / 19 / 17 / 12 = X) (hc : n / 19 / 17 % 12 < mC m) (hz : z < 128) : rA X u m (gComeP u (n / 19 / 17 / 12) (n / 19 / 17 % 12) (n / 19 % 17) (n % 19) z g q h).1 (gComeP u (n / 19 / 17 / 12) (n / 19 / 17 % 12) (n / 19 % 17) (n % 19) z g q h).2.1 (tArr m n z t) ∧ rE m (gComeP u (n / 19 / 17 / 12) (n / 19 / 17 % 12) (n / 19 % 17) (n % 19) z g q h).2.2 (tArr m n z t) := by
  have hC12 := hM.1.2
  obtain ⟨n1, n2, n3⟩ := hn
  have hX2 : X ≤ 200 := by omega
  obtain ⟨c, hcd⟩ : ∃ c, n / 19 / 17 % 12 = c := ⟨_, rfl⟩
  obtain ⟨r, hrd⟩ : ∃ r, n / 19 % 17 = r := ⟨_, rfl⟩
  obtain ⟨b, hbd⟩ : ∃ b, n % 19 = b := ⟨_, rfl⟩
  have hb19 : b < 19 := by rw [← hbd]; exact Nat.mod_lt _ (by omega)
  have hmy : tMay m n z t = if c = 0 ∧ 0 < b then tHear m X r z t else t := by
    unfold tMay
    rw [hX, hcd, hrd, hbd]
  have hArr : tArr m n z t = if z < 2 * mRo m (5 * c + 2) + 1 then tMay m n z t else tRest m n z (tGos m c r b X z (tClap m X c r (tMay m n z t)) (mP m)) := by
    unfold tArr
    rw [hX, hcd, hrd, hbd]
  have hRest : ∀ t', tRest m n z t' = if 0 < b ∧ ¬ c = 0 then tGo m X c r (b - 1) (z * mRo m (5 * c) / 100) t' else t' := fun t' => by
    unfold tRest
    rw [hX, hcd, hrd, hbd]
  rw [hX, hcd, hrd, hbd]
  rw [hrd] at n2
  rw [hbd, hcd] at n3
  rw [hcd] at hc
  obtain ⟨m1, m2⟩ := tMay_ok hT n z
  obtain ⟨t1, ht1⟩ : ∃ t1, tMay m n z t = t1 := ⟨_, rfl⟩
  have hA1 : rA X u m g q t1 := by
    rw [← ht1, hmy]
    split
    · exact rA_hear hA _ _ _
    · exact hA
  have hs := hA.1.1.2 r n2
  have hE1 : rE m (hMay X c r b z g h) t1 := by
    rw [← ht1, hmy]
    unfold hMay
    by_cases hcb : c = 0 ∧ 0 < b
    · rw [if_pos hcb, if_pos hcb, hs.1, hs.2]
      exact rHear hE hX2 (hT.1.2.2.2.1 r)
    · rw [if_neg hcb, if_neg hcb]; exact hE
  rw [ht1] at m1 m2 hArr
  obtain ⟨-, w1, w2, w3, w4, w5⟩ := id hC
  unfold gComeP
  rw [if_neg (show ¬ (sR g ≤ r ∨ cC u ≤ c ∨ cP u < b) by
    rw [hA.1.1.1, hC.1.1, hC.1.2.1]; omega)]
  rw [(w1 c (by omega)).2.2, hArr]
  by_cases hz2 : z < 2 * mRo m (5 * c + 2) + 1
  · rw [if_pos hz2, if_pos hz2]
    exact ⟨hA1, hE1⟩
  · rw [if_neg hz2, if_neg hz2]
    have hr1 : r < tRu t1 := by omega
    obtain ⟨k1, k2⟩ := tClap_ok m1 (x := X) (c := c) (r := r) (by omega) hr1
    have hA2 : rA X u m (gClap u c r X g q).1 (gClap u c r X g q).2 (tClap m X c r t1) := rClap hM m1 hA1.1 hA1.2.1 hA1.2.2 hc hr1
    have hr2 : r < tRu (tClap m X c r t1) := by omega
    have hA3 := rOn hM k1 hC hA2 hc hr2 hb19 hz (mP m) (Nat.le_refl _)
    rw [← w4 c (by omega)] at hA3
    obtain ⟨g1, g2⟩ := tGos_ok hM k1 (c := c) (r := r) (b := b) (x := X) (z := z) (by omega) hr2 hz (mP m) (Nat.le_refl _)
    obtain ⟨t3, ht3⟩ : ∃ t3, tGos m c r b X z (tClap m X c r t1) (mP m) = t3 := ⟨_, rfl⟩
    rw [ht3] at hA3 g1 g2 ⊢
    refine ⟨?_, ?_⟩
    · rw [hRest]
      show rA X u m (gRest u X c r b z (gOn u c r (pW b) X z (gClap u c r X g q).1 (gClap u c r X g q).2 (cDrs u c)).1 (gOn u c r (pW b) X z (gClap u c r X g q).1 (gClap u c r X g q).2 (cDrs u c)).2).1 (gRest u X c r b z (gOn u c r (pW b) X z (gClap u c r X g q).1 (gClap u c r X g q).2 (cDrs u c)).1 (gOn u c r (pW b) X z (gClap u c r X g q).1 (gClap u c r X g q).2 (cDrs u c)).2).2 _
      unfold gRest
      by_cases hcb : c ≠ 0 ∧ 0 < b
      · rw [if_pos hcb, if_pos ⟨hcb.2, hcb.1⟩, (w1 c (by omega)).1]
        have n4 := n3.resolve_left (by omega)
        exact rGo hM g1 hC hA3.1 hA3.2.1 hA3.2.2 (by omega) n4.1 n4.2
      · rw [if_neg hcb, if_neg (fun a => hcb ⟨a.2, a.1⟩)]
        exact hA3
    · have hE3 : rE m (hMay X c r b z g h) t3 := by
        rw [← ht3]
        exact rE_gos (rE_clap hE1 _ _ _) _ _ _ _ _ _
      rw [hRest]
      split
      · exact rE_go hE3 _ _ _ _ _
      · exact hE3
theorem tDec_rA {X : Nat} {u : CaveT} {m : MdlT} {g : SndT} {q : QueT} {t : MsnT} (hT : tOk m t) (hA : rA X u m g q t) (hw : 0 < tWa t) : rA (tOd t (tWa t - 1) / 19 / 17 / 12) u m g (qTake q) (tDec t) := by
  obtain ⟨hS, hQ, hW⟩ := hA
  have hS2 := hS.up (hW (tWa t - 1) (by omega)).1
  obtain ⟨h1, h2, h3, h4⟩ := hS2
  refine ⟨⟨h1, h2, h3, h4⟩, rQ_take hQ hT.1.2.2.2.2.2.2.2.2.1 hw, fun j hj => ?_⟩
  have hj2 : j < tWa t - 1 := hj
  obtain ⟨w1, w2, w3⟩ := hW j (by omega)
  have hlt := hQ.2.2.2 j (tWa t - 1) hj2 (by omega)
  exact ⟨Nat.div_le_div_right (Nat.div_le_div_right (Nat.div_le_div_right (Nat.le_of_lt hlt))), w2, w3⟩
theorem rE_dec {m : MdlT} {h : EchT} {t : MsnT} (hE : rE m h t) : rE m h (tDec t) := by
  obtain ⟨⟨⟨e1, e2, e3, e4⟩, e6, e7⟩, ⟨e8, e5⟩, e9, e10⟩ := hE
  exact ⟨⟨⟨e1, e2, e3, e4⟩, e6, e7⟩, ⟨e8, e5⟩, e9, e10⟩
/-- all comings -/
theorem rLoop {u : CaveT} {m : MdlT} (hM : mOk m) (hC : rCav0 u m) : ∀ (f X : Nat) (g : SndT) (q : QueT) (h : EchT) (t : MsnT), tOk m t → rA X u m g q t → rE m h t → ∃ Y, rA Y u m (gLoop u f (g, q, h)).1 (gLoop u f (g, q, h)).2.1 (tLoop m f t) ∧ rE m (gLoop u f (g, q, h)).2.2 (tLoop m f t)
  | 0, X, g, q, h, t, hT, hA, hE => ⟨X, hA, hE⟩
  | f + 1, X, g, q, h, t, hT, hA, hE => by
    have hqw : qN q = tWa t := hA.2.1.1
    by_cases h0 : tWa t = 0
    · have e1 : gLoop u (f + 1) (g, q, h) = (g, q, h) := if_pos (show qN q = 0 by omega)
      have e2 : tLoop m (f + 1) t = t := if_pos h0
      rw [e1, e2]
      exact ⟨X, hA, hE⟩
    · have e1 : gLoop u (f + 1) (g, q, h) = gLoop u f (gCome u (qH q 0) g (qTake q) h) := if_neg (show ¬ qN q = 0 by omega)
      have e2 : tLoop m (f + 1) t = tLoop m f (tArr m (tOd t (tWa t - 1)) (tPw t (tWa t - 1)) (tDec t)) := if_neg h0
      have hp := hT.1.2.2.2.2.2.2.2.2.1
      have hent := hT.1.2.2.2.2.2.2.2.1 (tWa t - 1) (by omega)
      rw [e1, e2, rQ_first hA.2.1 hp (by omega), gCome_tE _ _ _ _ _ _ (hp _)]
      obtain ⟨n, hn⟩ : ∃ n, tOd t (tWa t - 1) = n := ⟨_, rfl⟩
      obtain ⟨z, hz⟩ : ∃ z, tPw t (tWa t - 1) = z := ⟨_, rfl⟩
      have hA2 := tDec_rA hT hA (show 0 < tWa t by omega)
      have hz2 := hp (tWa t - 1)
      have hcc := (hA.2.2 (tWa t - 1) (by omega)).2.1
      rw [hn] at hent hA2 hcc
      rw [hz] at hz2
      rw [hn, hz]
      obtain ⟨r1, r2⟩ := rArr (t := tDec t) hM (tDec_ok hT) hC hA2 (rE_dec hE) hent rfl hcc hz2
      obtain ⟨o1, -⟩ := tArr_ok (t := tDec t) hM (tDec_ok hT) hent hz2
      exact rLoop hM hC f _ _ _ _ _ o1 r1 r2
theorem hCn_0 (h : Nat → Nat) (v : Nat) : hCn h v 0 = 0 := rfl
theorem rZero_S {u : CaveT} {m : MdlT} {t : MsnT} (hK : ∀ c, c < mC m → cSyl u c = tOwn m t c ∧ cDel u c = tDly m t c) (w : Nat) (g : SndT) : rS 0 u m (gZero g) (tZero w t) := by
  refine ⟨⟨rfl, fun r hr => ?_⟩, fun c hc => hK c hc, fun c _ => ?_, fun r hr => ?_⟩
  · exact absurd hr (Nat.not_lt_zero r)
  · show bR 0 _ ((0 : Nat).testBit c) ((0 : Nat).testBit c)
    rw [Nat.zero_testBit]
    exact ⟨fun h => h, fun h => Or.inl h⟩
  · exact absurd hr (Nat.not_lt_zero r)
theorem rZero_Q (w : Nat) (q : QueT) (t : MsnT) : rQ (qZero q) (tZero w t) := by
  refine ⟨rfl, fun j _ hj => ?_, fun v => ?_, fun i j _ hj => ?_⟩
  · exact absurd hj (Nat.not_lt_zero j)
  · exact (hCn_0 _ v).trans (hCn_0 _ v).symm
  · exact absurd hj (Nat.not_lt_zero j)
theorem rZero_W (m : MdlT) (w : Nat) (t : MsnT) : rW 0 m (tZero w t) := fun j hj => absurd hj (Nat.not_lt_zero j)
theorem rZero {u : CaveT} {m : MdlT} {t : MsnT} (hK : ∀ c, c < mC m → cSyl u c = tOwn m t c ∧ cDel u c = tDly m t c) (w : Nat) (g : SndT) (q : QueT) : rA 0 u m (gZero g) (qZero q) (tZero w t) := ⟨rZero_S hK w g, rZero_Q w q t, rZero_W m w t⟩
theorem rSay {u : CaveT} {m : MdlT} {g : SndT} {q : QueT} {h : EchT} {t : MsnT} (hM : mOk m) (hT : tOk m t) (h0 : tRu t = 0) (hA : rA 0 u m g q t) (hE : rE m h t) {w k b : Nat} (hk : k ≤ 6) (hd : ∀ i, i < k → 1 ≤ w / 10 ^ i % 10) (hb : b ≤ 20) : ∀ i, i ≤ k → rA 0 u m (gSay w k b g q i).1 (gSay w k b g q i).2 (tSay w k b t i) ∧ rE m h (tSay w k b t i)
  | 0, _ => ⟨hA, hE⟩
  | i + 1, hi => by
    obtain ⟨r1, r2⟩ := rSay hM hT h0 hA hE hk hd hb i (by omega)
    obtain ⟨o1, o2⟩ := tSay_ok hT h0 (b := b) hk hd i (by omega)
    have hm : i * b ≤ 5 * 20 := Nat.mul_le_mul (by omega) hb
    exact ⟨rStart hM o1 r1.1 r1.2.1 r1.2.2 (by omega) hM.1.1 (by omega) (Nat.zero_le _), rE_start r2 _ _ _ _ _⟩
theorem rBegin (m : MdlT) (h : EchT) (t : MsnT) (w : Nat) : rE m (hBegin h (dgs 6 w) (mEar m)) (tZero w t) :=
  ⟨⟨⟨rfl, rfl, rfl, rfl⟩, fun j hj => absurd (show j < 5 * 0 from hj) (by omega), fun j hj => by
    show eFill 6 (-1) (hFi h) j = eFill 6 (-1) (tFi t) j
    unfold eFill
    rw [if_pos hj, if_pos hj]⟩, ⟨rfl, rfl⟩, fun j hj => Or.inl (by
    show eFill 6 (-1) (tFi t) j = -1
    unfold eFill
    rw [if_pos hj]), Nat.zero_le _⟩
/-- a word in the two caves: what is heard is the same, and so is the number of runs -/
theorem rThrough {u : CaveT} {m : MdlT} {t : MsnT} (hM : mOk m) (h3 : mRo m 3 = 0) (hT : tBase t) (hC : rCav0 u m) (hK : ∀ c, c < mC m → cSyl u c = tOwn m t c ∧ cDel u c = tDly m t c) {w b : Nat} (hw : wdOk w) (hb : b ≤ 20) (g : SndT) (q : QueT) (h : EchT) : rE m (gThrough u w b (mEar m) g q h).2.2 (tThrough m w b t) ∧ sR (gThrough u w b (mEar m) g q h).1 = tRu (tThrough m w b t) := by
  have z1 := tZero_ok (m := m) hT h3 w
  obtain ⟨r1, r2⟩ := rSay hM z1 rfl (rZero hK w g q) (rBegin m h t w) (k := dgs 6 w) (dgs_le 6 w) hw.2 hb (dgs 6 w) (Nat.le_refl _)
  obtain ⟨o1, -⟩ := tSay_ok z1 rfl (b := b) (dgs_le 6 w) hw.2 (dgs 6 w) (Nat.le_refl _)
  obtain ⟨Y, y1, y2⟩ := rLoop hM hC 629 0 _ _ _ _ o1 r1 r2
  exact ⟨y2, y1.1.1.1⟩
