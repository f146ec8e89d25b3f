/-! ===== pure facts: the two sides, call by call ===== -/
/-- a reference's word leaves what stands of 'instead' -/
abbrev tKc (t t' : MsnT) : Prop := tCh t' = tCh t
theorem tKc.trans {a b c : MsnT} (h : tKc a b) (h2 : tKc b c) : tKc a c := Eq.trans h2 h
theorem tCome_kc (x c r b z : Nat) (t : MsnT) : tKc t (tCome x c r b z t) := by
  unfold tCome
  split <;> exact rfl
theorem tGo_kc (m : MdlT) (x c r p z : Nat) (t : MsnT) : tKc t (tGo m x c r p z t) := by
  unfold tGo
  split
  · split
    · exact rfl
    · exact tCome_kc _ _ _ _ _ (tThS t r (tTh t r ||| 2 ^ p))
  · split
    · exact rfl
    · exact tCome_kc _ _ _ _ _ (tBaS t r (tBa t r ||| 2 ^ p))
theorem tMay_kc (m : MdlT) (n z : Nat) (t : MsnT) : tKc t (tMay m n z t) := by
  unfold tMay
  split
  · unfold tHear
    split
    · exact rfl
    · split <;> exact rfl
  · exact rfl
theorem tStart_kc (x c p y z : Nat) (t : MsnT) : tKc t (tStart x c p y z t) := by
  rw [show tStart x c p y z t = tCome x c (tRu t) 0 z (tMore (tNew p y t)) from tMore_come _ _ _ _ _ _]
  exact tCome_kc _ _ _ _ _ (tMore (tNew p y t))
theorem tClap_kc (m : MdlT) (x c r : Nat) (t : MsnT) : tKc t (tClap m x c r t) := by
  unfold tClap
  split
  · split
    · exact rfl
    · exact tStart_kc _ _ _ _ _ (tSet t c)
  · exact rfl
theorem tGos_kc (m : MdlT) (c r b x z : Nat) (t : MsnT) : ∀ p, tKc t (tGos m c r b x z t p)
  | 0 => rfl
  | p + 1 => by
    show tKc t (tGosS m c r b x z p (tGos m c r b x z t p))
    unfold tGosS
    split
    · exact (tGos_kc m c r b x z t p).trans (tGo_kc _ _ _ _ _ _ _)
    · exact tGos_kc m c r b x z t p
theorem tRest_kc (m : MdlT) (n z : Nat) (t : MsnT) : tKc t (tRest m n z t) := by
  unfold tRest
  split
  · exact tGo_kc _ _ _ _ _ _ _
  · exact rfl
theorem tArr_kc (m : MdlT) (n z : Nat) (t : MsnT) : tKc t (tArr m n z t) := by
  unfold tArr
  split
  · exact tMay_kc m n z t
  · exact (((tMay_kc m n z t).trans (tClap_kc _ _ _ _ _)).trans (tGos_kc _ _ _ _ _ _ _ _)).trans (tRest_kc _ _ _ _)
theorem tLoop_kc (m : MdlT) : ∀ (f : Nat) (t : MsnT), tKc t (tLoop m f t)
  | 0, _ => rfl
  | f + 1, t => by
    unfold tLoop
    split
    · exact rfl
    · exact (show tKc t (tArr m (tOd t (tWa t - 1)) (tPw t (tWa t - 1)) (tDec t)) from tArr_kc m _ _ (tDec t)).trans (tLoop_kc m f _)
theorem tSay_kc (n k b : Nat) (t : MsnT) : ∀ i, tKc t (tSay n k b t i)
  | 0 => rfl
  | i + 1 => (tSay_kc n k b t i).trans (tStart_kc _ _ _ _ _ _)
theorem tThrough_kc (m : MdlT) (n b : Nat) (t : MsnT) : tCh (tThrough m n b t) = tCh t := (tSay_kc n (dgs 6 n) b (tZero n t) (dgs 6 n)).trans (tLoop_kc m 629 _)
/-- without a clapper no delay is told -/
def mDz (m : MdlT) : Prop := ∀ c, c < 12 → mRo m (5 * c + 3) = 0 → mRo m (5 * c + 4) = 0
/-- after n calls the two sides tell the same -/
def rAll (n : Nat) (cv : CavT) (g : SndT) (q : QueT) (u : CaveT) (h k : EchT) (m : MdlT) (s a : MsnT) : Prop := (cOk u ∧ sOk g q ∧ hOk h ∧ hOk k) ∧ (mOk m ∧ tBase s ∧ tBase a ∧ mRo m 3 = 0 ∧ mZ m ∧ mDz m ∧ mSaid m ≤ n) ∧ rCave u m ∧ rEcho h s ∧ rTop cv m s ∧ tCh s = -1 ∧ tCh a = -1
theorem mOk_t {m : MdlT} (h : mOk m) {t : Nat} (ht : t ≤ 3) : mOk (mThr t m) := ⟨h.1, h.2.1, h.2.2.1, h.2.2.2.1, ht, h.2.2.2.2.2⟩
theorem rAll_thr {n : Nat} {cv : CavT} {g : SndT} {q : QueT} {u : CaveT} {h k : EchT} {m : MdlT} {s a : MsnT} (H : rAll n cv g q u h k m s a) {t : Nat} (ht : t ≤ 3) : rAll (n + 1) cv g q u h k (mThr t m) s a := by
  obtain ⟨h1, ⟨m1, m2, m3, m4, m5, m6, m7⟩, h3, h4, h5, h6⟩ := H
  exact ⟨h1, ⟨mOk_t m1 ht, m2, m3, m4, m5, m6, Nat.le_succ_of_le m7⟩, rCave_same h3 t (mEar m) (mSaid m), h4, h5, h6⟩
theorem rAll_he {n : Nat} {cv : CavT} {g : SndT} {q : QueT} {u : CaveT} {h k : EchT} {m : MdlT} {s a : MsnT} (H : rAll n cv g q u h k m s a) : vEar cv ≤ 50 := by
  rw [H.2.2.2.2.1.1]; exact H.2.1.1.2.2.2.1
theorem rCave.clap0 {u : CaveT} {m : MdlT} (h : rCave u m) (c y d : Nat) : rCav0 (cClap u c y d) m := ⟨h.1, fun j hj => ⟨(h.2.1 j hj).1, (h.2.1 j hj).2.1, (h.2.1 j hj).2.2.1⟩, h.2.2⟩
theorem rOwn0 {u : CaveT} {m : MdlT} {t : MsnT} (hM : mOk m) (h : rCave u m) (ht : tCh t = -1) : ∀ c, c < mC m → cSyl u c = tOwn m t c ∧ cDel u c = tDly m t c := by
  intro c hc
  have hC := hM.1.2
  obtain ⟨-, -, -, g3, g4⟩ := h.2.1 c (by omega)
  have hne : ¬ nI c = tCh t := by rw [ht]; exact nI_ne1 (by omega)
  show cSyl u c = (if nI c = tCh t then tWi t else mRo m (5 * c + 3)) ∧ cDel u c = (if nI c = tCh t then tLt t else mRo m (5 * c + 4))
  rw [if_neg hne, if_neg hne]
  exact ⟨g3, g4⟩
theorem rOwnI {u : CaveT} {m : MdlT} (t : MsnT) (hM : mOk m) (h : rCave u m) {c y d : Nat} (hc : c < mC m) (hy : 1 ≤ y) : ∀ j, j < mC m → cSyl (cClap u c y d) j = tOwn m (tInst (nI c) y d t) j ∧ cDel (cClap u c y d) j = tDly m (tInst (nI c) y d t) j := by
  intro j hj
  have hC := hM.1.2
  obtain ⟨-, -, -, g3, g4⟩ := h.2.1 j (by omega)
  show eN (cSyl u) c y j = (if nI j = nI c then y else mRo m (5 * j + 3)) ∧ eN (cDel u) c (if y = 0 then 0 else d) j = (if nI j = nI c then d else mRo m (5 * j + 4))
  rw [if_neg (show ¬ y = 0 by omega)]
  by_cases e : j = c
  · rw [e, eN_self, eN_self, if_pos rfl, if_pos rfl]; exact ⟨rfl, rfl⟩
  · have hne : ¬ nI j = nI c := fun h => e ((nI_eq (by omega) (by omega)).mp h)
    rw [eN_ne _ _ e, eN_ne _ _ e, if_neg hne, if_neg hne]
    exact ⟨g3, g4⟩
theorem rCave_back {u : CaveT} {m : MdlT} (h : rCave u m) (hD : mDz m) (c y d : Nat) (hc : c < 12) : rCave (cBack u c y d) m := by
  obtain ⟨h1, h2, h3⟩ := h
  refine ⟨h1, fun j hj => ?_, h3⟩
  obtain ⟨g0, g1, g2, g3, g4⟩ := h2 j hj
  refine ⟨g0, g1, g2, ?_, ?_⟩
  · show eN (eN (cSyl u) c y) c (cSyl u c) j = _
    by_cases e : j = c
    · rw [e, eN_self]; rw [e] at g3; exact g3
    · rw [eN_ne _ _ e, eN_ne _ _ e]; exact g3
  · show eN (eN (cDel u) c (if y = 0 then 0 else d)) c (if cSyl u c = 0 then 0 else cDel u c) j = _
    by_cases e : j = c
    · rw [e, eN_self]
      rw [e] at g3 g4
      by_cases z : cSyl u c = 0
      · rw [if_pos z]; exact (hD c hc (by rw [← g3]; exact z)).symm
      · rw [if_neg z]; exact g4
    · rw [eN_ne _ _ e, eN_ne _ _ e]; exact g4
/-- a word, said by both sides as they stand -/
theorem rWord {u : CaveT} {m : MdlT} {t : MsnT} (hM : mOk m) (h3 : mRo m 3 = 0) (hT : tBase t) (hC : rCave u m) (ht : tCh t = -1) {w b x : Nat} (hx : x = mEar m) (hw : wdOk w) (hb : b ≤ 20) (g : SndT) (q : QueT) (h : EchT) : rE m (gThrough u w b x g q h).2.2 (tThrough m w b t) ∧ sR (gThrough u w b x g q h).1 = tRu (tThrough m w b t) := by
  rw [hx]
  exact rThrough hM h3 hT hC.to0 (rOwn0 hM hC ht) hw hb g q h
theorem rIn {m : MdlT} {h : EchT} {t : MsnT} (hE : rE m h t) : hIn h ↔ tIn t := by
  have e1 := hE.1.1.2.2.1
  have e2 := hE.1.1.2.2.2
  show (0 < hPl h ∧ hOr h = hPl h) ↔ (0 < tPl t ∧ tOr t = tPl t)
  rw [e1, e2]
theorem rWould {m : MdlT} {h : EchT} {t : MsnT} {g : SndT} (hE : rE m h t) (hR : sR g = tRu t) (x : Nat) : vWould g h x = mWould t x := by
  unfold vWould mWould
  rw [hE.1.1.2.1, hE.2.1.2, hR, if_eqN (rIn hE)]
-- quickest
theorem rQuick {u : CaveT} {m : MdlT} (hU : cOk u) (hM : mOk m) (h3 : mRo m 3 = 0) (hC : rCave u m) {x w : Nat} (hx : x = mEar m) (hw : wdOk w) : ∀ (f b : Nat) (g : SndT) (q : QueT) (k : EchT) (a : MsnT), b + f ≤ 21 → sOk g q → hOk k → tBase a → tCh a = -1 → (vQuick u x w f b (g, q, k)).1 = (mQuick m w f b a).1 ∧ (sOk (vQuick u x w f b (g, q, k)).2.1 (vQuick u x w f b (g, q, k)).2.2.1 ∧ hOk (vQuick u x w f b (g, q, k)).2.2.2) ∧ tBase (mQuick m w f b a).2 ∧ tCh (mQuick m w f b a).2 = -1
  | 0, b, g, q, k, a, _, h1, h2, h4, h5 => ⟨rfl, ⟨h1, h2⟩, h4, h5⟩
  | f + 1, b, g, q, k, a, hb, h1, h2, h4, h5 => by
    obtain ⟨r1, r2⟩ := rWord hM h3 h4 hC h5 hx hw (b := b) (by omega) g q k
    have he : x ≤ 50 := by rw [hx]; exact hM.2.2.2.1
    obtain ⟨z1, z2⟩ := gThrough_ok (w := w) (b := b) hU h1 h2 (by omega) he
    have z3 := tBase_thr hM h4 h3 (b := b) hw
    have z4 : tCh (tThrough m w b a) = -1 := (tThrough_kc m w b a).trans h5
    by_cases c : tIn (tThrough m w b a)
    · have e1 : vQuick u x w (f + 1) b (g, q, k) = (nI b, gThrough u w b x g q k) := if_pos ((rIn r1).mpr c)
      have e2 : mQuick m w (f + 1) b a = (nI b, tThrough m w b a) := if_pos c
      rw [e1, e2]
      exact ⟨rfl, ⟨z1, z2⟩, z3, z4⟩
    · have e1 : vQuick u x w (f + 1) b (g, q, k) = vQuick u x w f (b + 1) (gThrough u w b x g q k) := if_neg (fun h => c ((rIn r1).mp h))
      have e2 : mQuick m w (f + 1) b a = mQuick m w f (b + 1) (tThrough m w b a) := if_neg c
      rw [e1, e2]
      exact rQuick hU hM h3 hC hx hw f (b + 1) _ _ _ _ (by omega) z1 z2 z3 z4
-- longest
theorem rLong {u : CaveT} {m : MdlT} (hU : cOk u) (hM : mOk m) (h3 : mRo m 3 = 0) (hC : rCave u m) {x y b : Nat} (hx : x = mEar m) (hy : 1 ≤ y ∧ y ≤ 9) (hb : b ≤ 20) : ∀ (f t best : Nat) (g : SndT) (q : QueT) (k : EchT) (a : MsnT), t + f ≤ 7 → 1 ≤ t → sOk g q → hOk k → tBase a → tCh a = -1 → (vLong u x y b f t best (g, q, k)).1 = (mLong m y b f t best a).1 ∧ (sOk (vLong u x y b f t best (g, q, k)).2.1 (vLong u x y b f t best (g, q, k)).2.2.1 ∧ hOk (vLong u x y b f t best (g, q, k)).2.2.2) ∧ tBase (mLong m y b f t best a).2 ∧ tCh (mLong m y b f t best a).2 = -1
  | 0, t, best, g, q, k, a, _, _, h1, h2, h4, h5 => ⟨rfl, ⟨h1, h2⟩, h4, h5⟩
  | f + 1, t, best, g, q, k, a, ht, ht1, h1, h2, h4, h5 => by
    have hw : wdOk (rep y t) := rep_ok y (by omega) (by omega) t (by omega) (by omega)
    obtain ⟨r1, r2⟩ := rWord hM h3 h4 hC h5 hx hw hb g q k
    have he : x ≤ 50 := by rw [hx]; exact hM.2.2.2.1
    obtain ⟨z1, z2⟩ := gThrough_ok (w := rep y t) (b := b) hU h1 h2 hb he
    have z3 := tBase_thr hM h4 h3 (b := b) hw
    have z4 : tCh (tThrough m (rep y t) b a) = -1 := (tThrough_kc m (rep y t) b a).trans h5
    have e1 : vLong u x y b (f + 1) t best (g, q, k) = vLong u x y b f (t + 1) (if hIn (gThrough u (rep y t) b x g q k).2.2 then t else best) (gThrough u (rep y t) b x g q k) := rfl
    have e2 : mLong m y b (f + 1) t best a = mLong m y b f (t + 1) (if tIn (tThrough m (rep y t) b a) then t else best) (tThrough m (rep y t) b a) := rfl
    have e3 : (if hIn (gThrough u (rep y t) b x g q k).2.2 then t else best) = if tIn (tThrough m (rep y t) b a) then t else best := by
      by_cases c : tIn (tThrough m (rep y t) b a)
      · rw [if_pos c, if_pos ((rIn r1).mpr c)]
      · rw [if_neg c, if_neg (fun h => c ((rIn r1).mp h))]
    rw [e1, e2, e3]
    exact rLong hU hM h3 hC hx hy hb f (t + 1) _ _ _ _ _ (by omega) (by omega) z1 z2 z3 z4
-- advise
/-- the first from c on, f of them, for which p holds -/
def fst1 (p : Nat → Bool) (best : Int32) : Nat → Nat → Int32
  | 0, _ => best
  | f + 1, c => if p c then nI c else fst1 p best f (c + 1)
theorem fst1_last (p : Nat → Bool) (best : Int32) : ∀ (f c : Nat), fst1 p best (f + 1) c = fst1 p (if p (c + f) then nI (c + f) else best) f c
  | 0, c => rfl
  | f + 1, c => by
    have ih := fst1_last p best f (c + 1)
    show (if p c then nI c else fst1 p best (f + 1) (c + 1)) = (if p c then nI c else fst1 p (if p (c + (f + 1)) then nI (c + (f + 1)) else best) f (c + 1))
    rw [ih, show c + 1 + f = c + (f + 1) by omega]
theorem rAdvM {u : CaveT} {m : MdlT} (hU : cOk u) (hM : mOk m) (h3 : mRo m 3 = 0) (hC : rCave u m) {w b y d : Nat} (hw : wdOk w) (hb : b ≤ 20) (hy : 1 ≤ y ∧ y ≤ 9) (hd : d ≤ 20) (g : SndT) (q : QueT) (k : EchT) : ∀ (c : Nat) (best : Int32) (a : MsnT), c < mC m → tBase a → (mAdv m w b y d c best a).1 = fst1 (fun c => decide (hIn (gThrough (cClap u c y d) w b (mEar m) g q k).2.2)) best c 1 ∧ tBase (mAdv m w b y d c best a).2
  | 0, best, a, _, h1 => ⟨rfl, h1⟩
  | c + 1, best, a, hc, h1 => by
    have hC12 := hM.1.2
    have b1 := tInst_base h1 (nI_n0 (show 0 < c + 1 by omega) (by omega)) hy.2 hd
    obtain ⟨r1, -⟩ := rThrough hM h3 b1 (hC.clap0 (c + 1) y d) (rOwnI a hM hC (d := d) hc hy.1) hw hb g q k
    have z3 := tBase_thr hM b1 h3 (b := b) hw
    have e2 : mAdv m w b y d (c + 1) best a = mAdv m w b y d c (if tIn (tThrough m w b (tInst (nI (c + 1)) y d a)) then nI (c + 1) else best) (tThrough m w b (tInst (nI (c + 1)) y d a)) := rfl
    rw [e2, fst1_last, show 1 + c = c + 1 by omega]
    have e3 : (if tIn (tThrough m w b (tInst (nI (c + 1)) y d a)) then nI (c + 1) else best) = if decide (hIn (gThrough (cClap u (c + 1) y d) w b (mEar m) g q k).2.2) = true then nI (c + 1) else best := by
      by_cases cc : tIn (tThrough m w b (tInst (nI (c + 1)) y d a))
      · rw [if_pos cc, if_pos (decide_eq_true ((rIn r1).mpr cc))]
      · rw [if_neg cc, if_neg (fun h => cc ((rIn r1).mp (of_decide_eq_true h)))]
    rw [e3]
    exact rAdvM hU hM h3 hC hw hb hy hd g q k c _ _ (by omega) z3
theorem rAdvV {m : MdlT} (hM : mOk m) (h3 : mRo m 3 = 0) (hD : mDz m) {a : MsnT} (hT : tBase a) {w b y d : Nat} (hw : wdOk w) (hb : b ≤ 20) (hy : 1 ≤ y ∧ y ≤ 9) (hd : d ≤ 20) {u0 : CaveT} (hC0 : rCave u0 m) (g0 : SndT) (q0 : QueT) (k0 : EchT) : ∀ (f c : Nat) (u : CaveT) (g : SndT) (q : QueT) (k : EchT), c + f ≤ mC m → 1 ≤ c → cOk u → rCave u m → sOk g q → hOk k → (vAdv (mEar m) w b y d f c (u, g, q, k)).1 = fst1 (fun c => decide (hIn (gThrough (cClap u0 c y d) w b (mEar m) g0 q0 k0).2.2)) (-1) f c ∧ (cOk (vAdv (mEar m) w b y d f c (u, g, q, k)).2.1 ∧ rCave (vAdv (mEar m) w b y d f c (u, g, q, k)).2.1 m) ∧ sOk (vAdv (mEar m) w b y d f c (u, g, q, k)).2.2.1 (vAdv (mEar m) w b y d f c (u, g, q, k)).2.2.2.1 ∧ hOk (vAdv (mEar m) w b y d f c (u, g, q, k)).2.2.2.2
  | 0, c, u, g, q, k, _, _, h1, h2, h4, h5 => ⟨rfl, ⟨h1, h2⟩, h4, h5⟩
  | f + 1, c, u, g, q, k, hc, hc1, h1, h2, h4, h5 => by
    have hC12 := hM.1.2
    have b1 := tInst_base hT (nI_n0 (show 0 < c by omega) (by omega)) hy.2 hd
    obtain ⟨r1, -⟩ := rThrough hM h3 b1 (h2.clap0 c y d) (rOwnI a hM h2 (d := d) (show c < mC m by omega) hy.1) hw hb g q k
    obtain ⟨r0, -⟩ := rThrough hM h3 b1 (hC0.clap0 c y d) (rOwnI a hM hC0 (d := d) (show c < mC m by omega) hy.1) hw hb g0 q0 k0
    have he : mEar m ≤ 50 := hM.2.2.2.1
    obtain ⟨z1, z2⟩ := gThrough_ok (w := w) (b := b) (cClap_ok h1 (c := c) hy.2 hd) h4 h5 hb he
    have same : hIn (gThrough (cClap u c y d) w b (mEar m) g q k).2.2 ↔ hIn (gThrough (cClap u0 c y d) w b (mEar m) g0 q0 k0).2.2 := (rIn r1).trans (rIn r0).symm
    have z3 := cBack_ok h1 (c := c) (y := y) (d := d) hy.2 hd
    have z4 := rCave_back h2 hD c y d (by omega)
    by_cases cc : hIn (gThrough (cClap u c y d) w b (mEar m) g q k).2.2
    · have e1 : vAdv (mEar m) w b y d (f + 1) c (u, g, q, k) = (nI c, cBack u c y d, gThrough (cClap u c y d) w b (mEar m) g q k) := if_pos cc
      rw [e1, show fst1 (fun c => decide (hIn (gThrough (cClap u0 c y d) w b (mEar m) g0 q0 k0).2.2)) (-1) (f + 1) c = nI c from if_pos (decide_eq_true (same.mp cc))]
      exact ⟨rfl, ⟨z3, z4⟩, z1, z2⟩
    · have e1 : vAdv (mEar m) w b y d (f + 1) c (u, g, q, k) = vAdv (mEar m) w b y d f (c + 1) (cBack u c y d, gThrough (cClap u c y d) w b (mEar m) g q k) := if_neg cc
      rw [e1, show fst1 (fun c => decide (hIn (gThrough (cClap u0 c y d) w b (mEar m) g0 q0 k0).2.2)) (-1) (f + 1) c = fst1 (fun c => decide (hIn (gThrough (cClap u0 c y d) w b (mEar m) g0 q0 k0).2.2)) (-1) f (c + 1) from if_neg (fun h => cc (same.mpr (of_decide_eq_true h)))]
      exact rAdvV hM h3 hD hT hw hb hy hd hC0 g0 q0 k0 f (c + 1) _ _ _ _ (by omega) (by omega) z3 z4 z1 z2
-- mean
theorem rSum {h : EchT} {s : MsnT} (hE : rEcho h s) : ∀ n, n ≤ tK s → hSum h n = mSum s n
  | 0, _ => rfl
  | n + 1, hn => by
    show hSum h n + hFa h (n * 5 + 3) = mSum s n + tHe s (5 * n + 3)
    rw [rSum hE n (by omega), hE.2.1 (n * 5 + 3) (by omega), Nat.mul_comm n 5]
theorem rMean {h : EchT} {s : MsnT} (hE : rEcho h s) : hMean h = mMean s := by
  unfold hMean mMean
  rw [hE.1.1, rSum hE _ (Nat.le_refl _)]
