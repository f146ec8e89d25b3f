/-! ===== pure facts: the reference's mirrors don't read 'thrown' ===== -/
theorem tGos_thr (k : Nat) (m : MdlT) (c r b x z : Nat) (t : MsnT) : ∀ p, tGos (mThr k m) c r b x z t p = tGos m c r b x z t p
  | 0 => rfl
  | p + 1 => by
    show tGosS (mThr k m) c r b x z p (tGos (mThr k m) c r b x z t p) = tGosS m c r b x z p (tGos m c r b x z t p)
    rw [tGos_thr k m c r b x z t p]
    rfl
theorem tArr_thr (k : Nat) (m : MdlT) (n z : Nat) (t : MsnT) : tArr (mThr k m) n z t = tArr m n z t := by
  unfold tArr
  rw [tGos_thr]
  rfl
theorem tLoop_thr (k : Nat) (m : MdlT) : ∀ (f : Nat) (t : MsnT), tLoop (mThr k m) f t = tLoop m f t
  | 0, _ => rfl
  | f + 1, t => by
    unfold tLoop
    rw [tArr_thr, tLoop_thr k m f]
theorem tThrough_thr (k : Nat) (m : MdlT) (n b : Nat) (t : MsnT) : tThrough (mThr k m) n b t = tThrough m n b t := tLoop_thr k m 629 _
theorem mQuick_thr (k : Nat) (m : MdlT) (n : Nat) : ∀ (f b : Nat) (a : MsnT), mQuick (mThr k m) n f b a = mQuick m n f b a
  | 0, _, _ => rfl
  | f + 1, b, a => by
    unfold mQuick
    rw [tThrough_thr, mQuick_thr k m n f]
theorem mLong_thr (k : Nat) (m : MdlT) (y b : Nat) : ∀ (f t best : Nat) (a : MsnT), mLong (mThr k m) y b f t best a = mLong m y b f t best a
  | 0, _, _, _ => rfl
  | f + 1, t, best, a => by
    unfold mLong
    rw [tThrough_thr, mLong_thr k m y b f]
theorem mAdv_thr (k : Nat) (m : MdlT) (n b y d : Nat) : ∀ (c : Nat) (best : Int32) (a : MsnT), mAdv (mThr k m) n b y d c best a = mAdv m n b y d c best a
  | 0, _, _ => rfl
  | c + 1, best, a => by
    unfold mAdv
    rw [tThrough_thr, mAdv_thr k m n b y d c]
theorem mDig1_thr (k : Nat) (m : MdlT) (s : MsnT) : ∀ w, mDig1 (mThr k m) s w = mDig1 m s w
  | 0 => rfl
  | w + 1 => by
    show dg (mDig1 (mThr k m) s w) (mCtd (mThr k m) s w) = dg (mDig1 m s w) (mCtd m s w)
    rw [mDig1_thr k m s w, mCtd_thr]
theorem mDigC_thr (k : Nat) (m : MdlT) (c : Nat) (d : Int64) : ∀ w, mDigC (mThr k m) c d w = mDigC m c d w
  | 0 => rfl
  | w + 1 => by
    show dg (mDigC (mThr k m) c d w) (mTold (mThr k m) c w) = dg (mDigC m c d w) (mTold m c w)
    rw [mDigC_thr k m c d w, mTold_thr]
theorem mDig2_thr (k : Nat) (m : MdlT) (d : Int64) : ∀ c, mDig2 (mThr k m) d c = mDig2 m d c
  | 0 => rfl
  | c + 1 => by
    show mDigC (mThr k m) c (mDig2 (mThr k m) d c) 7 = mDigC m c (mDig2 m d c) 7
    rw [mDig2_thr k m d c, mDigC_thr]
theorem mDigP_thr (k : Nat) (m : MdlT) (p : Nat) (d : Int64) : ∀ w, mDigP (mThr k m) p d w = mDigP m p d w
  | 0 => rfl
  | w + 1 => by
    show dg (mDigP (mThr k m) p d w) (mPTold m p w) = dg (mDigP m p d w) (mPTold m p w)
    rw [mDigP_thr k m p d w]
theorem mDig3_thr (k : Nat) (m : MdlT) (d : Int64) : ∀ p, mDig3 (mThr k m) d p = mDig3 m d p
  | 0 => rfl
  | p + 1 => by
    show mDigP (mThr k m) p (mDig3 (mThr k m) d p) 5 = mDigP m p (mDig3 m d p) 5
    rw [mDig3_thr k m d p, mDigP_thr]
theorem mDigest_thr (k : Nat) (m : MdlT) (s : MsnT) : mDigest (mThr k m) s = mDigest m s := by
  unfold mDigest
  rw [mDig1_thr, mDig2_thr, mDig3_thr]
