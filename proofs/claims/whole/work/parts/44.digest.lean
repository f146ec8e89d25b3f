/-! ===== pure facts: the two digests are one ===== -/
/-- what the class's echo keeps of a word is what the reference's sound keeps -/
def rEcho (h : EchT) (s : MsnT) : Prop := (hK h = tK s ∧ hCt h = tCt s ∧ hPl h = tPl s ∧ hOr h = tOr s) ∧ (∀ j, j < 5 * tK s → hFa h j = tHe s j) ∧ ∀ j, j < 6 → hFi h j = tFi s j
def rTop (v : CavT) (m : MdlT) (s : MsnT) : Prop := vEar v = mEar m ∧ vSaid v = mSaid m ∧ vWord v = tWo s
theorem rCtd {v : CavT} {u : CaveT} {h : EchT} {m : MdlT} {s : MsnT} (hM : mOk m) (hC : rCave u m) (hE : rEcho h s) (hV : rTop v m s) (w : Nat) : vCtd v u h w = mCtd m s w := by
  unfold vCtd mCtd
  rw [hC.1.1, hC.1.2.1, rNOp hM hC, rNCl hM hC, hC.1.2.2, hV.1, hV.2.1, hV.2.2, hE.1.1, hE.1.2.1]
theorem rDig1 {v : CavT} {u : CaveT} {h : EchT} {m : MdlT} {s : MsnT} (hM : mOk m) (hC : rCave u m) (hE : rEcho h s) (hV : rTop v m s) : ∀ w, vDig1 v u h w = mDig1 m s w
  | 0 => rfl
  | w + 1 => by
    show dg (vDig1 v u h w) (vCtd v u h w) = dg (mDig1 m s w) (mCtd m s w)
    rw [rDig1 hM hC hE hV w, rCtd hM hC hE hV]
theorem rDigC {u : CaveT} {m : MdlT} (hM : mOk m) (hC : rCave u m) {c : Nat} (hc : c < 12) (d : Int64) : ∀ w, w ≤ 7 → vDigC u c d w = mDigC m c d w
  | 0, _ => rfl
  | w + 1, hw => by
    show dg (vDigC u c d w) (cFact u c w) = dg (mDigC m c d w) (mTold m c w)
    rw [rDigC hM hC hc d w (by omega), rTold hM hC hc (by omega)]
theorem rDig2 {u : CaveT} {m : MdlT} (hM : mOk m) (hC : rCave u m) (d : Int64) : ∀ c, c ≤ 12 → vDig2 u d c = mDig2 m d c
  | 0, _ => rfl
  | c + 1, hc => by
    show vDigC u c (vDig2 u d c) 7 = mDigC m c (mDig2 m d c) 7
    rw [rDig2 hM hC d c (by omega), rDigC hM hC (by omega) _ 7 (Nat.le_refl 7)]
theorem rDigP {u : CaveT} {m : MdlT} (hM : mOk m) (hC : rCave u m) {p : Nat} (hp : p < mP m) (d : Int64) : ∀ w, w ≤ 5 → vDigP u p d w = mDigP m p d w
  | 0, _ => rfl
  | w + 1, hw => by
    show dg (vDigP u p d w) (pFact u p w) = dg (mDigP m p d w) (mPTold m p w)
    rw [rDigP hM hC hp d w (by omega), rPTold hM hC hp (by omega)]
theorem rDig3 {u : CaveT} {m : MdlT} (hM : mOk m) (hC : rCave u m) (d : Int64) : ∀ p, p ≤ mP m → vDig3 u d p = mDig3 m d p
  | 0, _ => rfl
  | p + 1, hp => by
    show vDigP u p (vDig3 u d p) 5 = mDigP m p (mDig3 m d p) 5
    rw [rDig3 hM hC d p (by omega), rDigP hM hC (by omega) _ 5 (Nat.le_refl 5)]
theorem rDigH {h : EchT} {s : MsnT} (hE : rEcho h s) {i : Nat} (hi : i < tK s) (d : Int64) : ∀ w, w ≤ 5 → vDigH h i (mDig4 s d (5 * i)) w = mDig4 s d (5 * i + w)
  | 0, _ => rfl
  | w + 1, hw => by
    show dg (vDigH h i (mDig4 s d (5 * i)) w) (hFa h (i * 5 + w)) = dg (mDig4 s d (5 * i + w)) (tHe s (5 * i + w))
    rw [rDigH hE hi d w (by omega), hE.2.1 (i * 5 + w) (by omega), Nat.mul_comm i 5]
theorem rDig4 {h : EchT} {s : MsnT} (hE : rEcho h s) (d : Int64) : ∀ i, i ≤ tK s → vDig4 h d i = mDig4 s d (5 * i)
  | 0, _ => rfl
  | i + 1, hi => by
    show vDigH h i (vDig4 h d i) 5 = mDig4 s d (5 * (i + 1))
    rw [rDig4 hE d i (by omega), rDigH hE (by omega) d 5 (Nat.le_refl 5)]
    exact congrArg (mDig4 s d) (by omega)
theorem rDigest {v : CavT} {u : CaveT} {h : EchT} {m : MdlT} {s : MsnT} (hM : mOk m) (hC : rCave u m) (hE : rEcho h s) (hV : rTop v m s) : vDigest v u h = mDigest m s := by
  unfold vDigest mDigest
  have e : (if hIn h then 1 else 0 : Nat) = if tIn s then 1 else 0 := if_eqN (show hIn h ↔ tIn s by
    show (0 < hPl h ∧ hOr h = hPl h) ↔ (0 < tPl s ∧ tOr s = tPl s)
    rw [hE.1.2.2.1, hE.1.2.2.2])
  rw [e, hC.1.1, hC.1.2.1, hE.1.1, rDig1 hM hC hE hV, rDig2 hM hC _ _ hM.1.2, rDig3 hM hC _ _ (Nat.le_refl _), rDig4 hE _ _ (Nat.le_refl _)]
