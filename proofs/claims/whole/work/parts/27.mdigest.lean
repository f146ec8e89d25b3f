/-! ===== digest ===== -/
section EKL
variable {p : Program} {l : Launch} {e : Env} {R : Room} {s : State} {m : MethodId} {args : Array Value} {below : List Frame} {meth : Method} {c : Code} {own : String} {cc : ByteArray} {nL : Nat} {ret : Option FieldType} {Ts N : List Cond} {D : va_G} {tys : List (ClassId × FieldType)} {A B : Nat → Prop} {wr : Prop} {k n : Nat} {Q : State → Prop} {w : va_W} {pc : Nat} {lv : List (Nat × Value)} {st rest : List Value}
theorem ek_retl {S : Type} {post : Option Value → S → Prop} {W' : S → va_W} {v : Int64} (X : ek_X p s m args meth c own cc nL (some .long) Ts N D tys A A True) (u : S) (hp : post (some (.long v)) u) (hw : w = W' u) (hdg : decode cc pc = .ok (.lreturn, 1)) : ek_G p l e R s m args below meth c nL D A A k n (ek_E D A post W' below args s k n) w pc lv [.long v] := fun H locs ls hP hD hS hl => W.lret (v := v) X.1.1 X.1.2.1 X.2.2.2.1 (fun t ht hW => ⟨⟨_, u, rfl, hp, by rw [ht, ← hw]; exact hP, by rw [← hw]; exact hD⟩, hS.F ht⟩) hS.2.2 hdg X.2.2.1
end EKL
abbrev dg (d : Int64) (x : Nat) : Int64 := d * 31 + (nI x).toInt64
def mDig1 (m : MdlT) (s : MsnT) : Nat → Int64
  | 0 => 691
  | w + 1 => dg (mDig1 m s w) (mCtd m s w)
def mDigC (m : MdlT) (c : Nat) (d : Int64) : Nat → Int64
  | 0 => d
  | w + 1 => dg (mDigC m c d w) (mTold m c w)
def mDig2 (m : MdlT) (d : Int64) : Nat → Int64
  | 0 => d
  | c + 1 => mDigC m c (mDig2 m d c) 7
def mDigP (m : MdlT) (p : Nat) (d : Int64) : Nat → Int64
  | 0 => d
  | w + 1 => dg (mDigP m p d w) (mPTold m p w)
def mDig3 (m : MdlT) (d : Int64) : Nat → Int64
  | 0 => d
  | p + 1 => mDigP m p (mDig3 m d p) 5
def mDig4 (s : MsnT) (d : Int64) : Nat → Int64
  | 0 => d
  | k + 1 => dg (mDig4 s d k) (tHe s k)
def mDigest (m : MdlT) (s : MsnT) : Int64 := dg (mDig4 s (mDig3 m (mDig2 m (mDig1 m s 10) (mC m)) (mP m)) (5 * tK s)) (if tIn s then 1 else 0)

theorem hin_X6_digest_X5 : ∀ x ∈ wsX50, x ∈ wsX6_digest := fun x h => List.mem_cons_of_mem _ (List.mem_append_right _ h)
theorem hin_X6_digest_X6 : ∀ x ∈ wsX60, x ∈ wsX6_digest := fun x h => List.mem_cons_of_mem _ (List.mem_append_left _ (List.mem_append_right _ h))
abbrev rm_X6_digest : Room := { frames := 3, cells := 0, slots := 0, locals := 58 }
set_option maxHeartbeats 4000000 in
set_option maxRecDepth 100000 in
theorem c_X6_digest (l : Launch) (D : va_G) (cI cJ cR : ClassId) (ad : Nat → Nat) (m : MdlT) (s a : MsnT) (hM : mOk m) (hT : tBase s) : ek_M (S := Unit) l yX6_digest wsX6_digest rm_X6_digest D (tyW cI cJ cR) nestW [.ref (ad 50)] (wX ad cI m s a) (fun r9 _ => ∃ v : Int64, r9 = some (.long v) ∧ v = mDigest (mThr 0 m) s) (fun _ => wX ad cI (mThr 0 m) s a) := by
  refine ek_M.of (cc := cX6_digest) (maxL := 5) (ret := (some .long)) (by decide) rfl (Nat.le_of_ble_eq_true rfl) ?_
  intro p9 e9 s9 m9 args9 below9 meth9 c9 A X hin
  obtain ⟨⟨mC1, mC2⟩, mPs, mWs, mEs, mTs, mSs, mRs, mTl⟩ := id hM
  have htk := hT.2.2.2.2.2.2.1.1
  refine ek_castL (lv' := [(0, .ref (ad 50))]) rfl ?_
  refine ek_aln X 0 rfl dX6_digest_0 ?_
  refine ek_ic (v := nI 0) X (by decide) dX6_digest_1 ?_
  refine ek_put (w' := wX ad cI (0, mC m, mP m, mW m, mEar m, mSaid m, mRo m, mTu m) s a) X hin_X6_digest_X6 tyX6 tyX6_ok nmX6 0 rfl rfl 0 (by decide) (List.mem_of_getElem? (i := 1) rfl) rfl rfl rfl rfl (Nat.le_of_ble_eq_true rfl) rfl dX6_digest_2 ?_
  refine ek_ldl (v := 691) X (List.mem_of_getElem? (i := 2) rfl) dX6_digest_5 ?_
  refine ek_lsn (lv' := [(1, .long 691), (0, .ref (ad 50))]) X (by decide) rfl dX6_digest_8 ?_
  refine ek_ic (v := nI 0) X (by decide) dX6_digest_9 ?_
  refine ek_isn (lv' := [(3, .int (nI 0)), (1, .long 691), (0, .ref (ad 50))]) X (by decide) rfl dX6_digest_10 ?_
  refine ek_loopAt (σ := Int64 × Nat) (fun zz => (fun (d : Int64) (w9 : Nat) => w9 ≤ 10 ∧ d = mDig1 (mThr 0 m) s w9) zz.1 zz.2) (fun zz => (fun (d : Int64) (w9 : Nat) => 10 - w9) zz.1 zz.2) (fun zz => (fun (d : Int64) (w9 : Nat) => wX ad cI (0, mC m, mP m, mW m, mEar m, mSaid m, mRo m, mTu m) s a) zz.1 zz.2) (fun zz => (fun (d : Int64) (w9 : Nat) => [(0, .ref (ad 50)), (1, .long d), (3, .int (nI w9))]) zz.1 zz.2) ?_ (691, 0) ⟨Nat.zero_le _, rfl⟩ rfl [2, 1, 0] rfl
  intro zz ha_11 ih_11
  obtain ⟨d, w9⟩ := zz
  replace ha_11 : w9 ≤ 10 ∧ d = mDig1 (mThr 0 m) s w9 := ha_11
  refine ek_cast (w' := wX ad cI (0, mC m, mP m, mW m, mEar m, mSaid m, mRo m, mTu m) s a) rfl ?_
  refine ek_castL (lv' := [(0, .ref (ad 50)), (1, .long d), (3, .int (nI w9))]) rfl ?_
  refine ek_iln X 2 rfl dX6_digest_11 ?_
  refine ek_bp (v := nI 10) X (by decide) dX6_digest_12 ?_
  refine ek_Nge X (by omega) (by omega) 36 (by decide) dX6_digest_14 (fun c_14 => ?_) (fun c_14 => ?_)
  · skip
    refine ek_ic (v := nI 0) X (by decide) dX6_digest_36 ?_
    refine ek_isn (lv' := [(3, .int (nI 0)), (0, .ref (ad 50)), (1, .long d)]) X (by decide) rfl dX6_digest_37 ?_
    refine ek_loopAt (σ := Int64 × Nat) (fun zz => (fun (d : Int64) (c : Nat) => c ≤ mC m ∧ d = mDig2 (mThr 0 m) (mDig1 (mThr 0 m) s 10) c) zz.1 zz.2) (fun zz => (fun (d : Int64) (c : Nat) => mC m - c) zz.1 zz.2) (fun zz => (fun (d : Int64) (c : Nat) => wX ad cI (0, mC m, mP m, mW m, mEar m, mSaid m, mRo m, mTu m) s a) zz.1 zz.2) (fun zz => (fun (d : Int64) (c : Nat) => [(0, .ref (ad 50)), (1, .long d), (3, .int (nI c))]) zz.1 zz.2) ?_ (d, 0) ⟨Nat.zero_le _, (by obtain ⟨h1, h2⟩ := ha_11; rw [h2, show w9 = 10 by omega]; rfl)⟩ rfl [1, 2, 0] rfl
    intro zz ha_38 ih_38
    obtain ⟨d, c⟩ := zz
    replace ha_38 : c ≤ mC m ∧ d = mDig2 (mThr 0 m) (mDig1 (mThr 0 m) s 10) c := ha_38
    refine ek_cast (w' := wX ad cI (0, mC m, mP m, mW m, mEar m, mSaid m, mRo m, mTu m) s a) rfl ?_
    refine ek_castL (lv' := [(0, .ref (ad 50)), (1, .long d), (3, .int (nI c))]) rfl ?_
    refine ek_iln X 2 rfl dX6_digest_38 ?_
    refine ek_aln X 0 rfl dX6_digest_39 ?_
    refine ek_get X hin_X6_digest_X6 0 rfl rfl 1 (by decide) (List.mem_of_getElem? (i := 4) rfl) rfl dX6_digest_40 ?_
    refine ek_top (v' := nI (mC m)) rfl ?_
    refine ek_Nge X (by omega) (by omega) 83 (by decide) dX6_digest_43 (fun c_43 => ?_) (fun c_43 => ?_)
    · skip
      refine ek_ic (v := nI 0) X (by decide) dX6_digest_83 ?_
      refine ek_isn (lv' := [(3, .int (nI 0)), (0, .ref (ad 50)), (1, .long d)]) X (by decide) rfl dX6_digest_84 ?_
      refine ek_loopAt (σ := Int64 × Nat) (fun zz => (fun (d : Int64) (p : Nat) => p ≤ mP m ∧ d = mDig3 (mThr 0 m) (mDig2 (mThr 0 m) (mDig1 (mThr 0 m) s 10) (mC m)) p) zz.1 zz.2) (fun zz => (fun (d : Int64) (p : Nat) => mP m - p) zz.1 zz.2) (fun zz => (fun (d : Int64) (p : Nat) => wX ad cI (0, mC m, mP m, mW m, mEar m, mSaid m, mRo m, mTu m) s a) zz.1 zz.2) (fun zz => (fun (d : Int64) (p : Nat) => [(0, .ref (ad 50)), (1, .long d), (3, .int (nI p))]) zz.1 zz.2) ?_ (d, 0) ⟨Nat.zero_le _, (by obtain ⟨h1, h2⟩ := ha_38; rw [h2, show c = mC m by omega]; rfl)⟩ rfl [1, 2, 0] rfl
      intro zz ha_85 ih_85
      obtain ⟨d, p⟩ := zz
      replace ha_85 : p ≤ mP m ∧ d = mDig3 (mThr 0 m) (mDig2 (mThr 0 m) (mDig1 (mThr 0 m) s 10) (mC m)) p := ha_85
      refine ek_cast (w' := wX ad cI (0, mC m, mP m, mW m, mEar m, mSaid m, mRo m, mTu m) s a) rfl ?_
      refine ek_castL (lv' := [(0, .ref (ad 50)), (1, .long d), (3, .int (nI p))]) rfl ?_
      refine ek_iln X 2 rfl dX6_digest_85 ?_
      refine ek_aln X 0 rfl dX6_digest_86 ?_
      refine ek_get X hin_X6_digest_X6 0 rfl rfl 2 (by decide) (List.mem_of_getElem? (i := 5) rfl) rfl dX6_digest_87 ?_
      refine ek_top (v' := nI (mP m)) rfl ?_
      refine ek_Nge X (by omega) (by omega) 129 (by decide) dX6_digest_90 (fun c_90 => ?_) (fun c_90 => ?_)
      · skip
        refine ek_ic (v := nI 0) X (by decide) dX6_digest_129 ?_
        refine ek_isn (lv' := [(3, .int (nI 0)), (0, .ref (ad 50)), (1, .long d)]) X (by decide) rfl dX6_digest_130 ?_
        refine ek_loopAt (σ := Int64 × Nat) (fun zz => (fun (d : Int64) (k : Nat) => k ≤ 5 * tK s ∧ d = mDig4 s (mDig3 (mThr 0 m) (mDig2 (mThr 0 m) (mDig1 (mThr 0 m) s 10) (mC m)) (mP m)) k) zz.1 zz.2) (fun zz => (fun (d : Int64) (k : Nat) => 5 * tK s - k) zz.1 zz.2) (fun zz => (fun (d : Int64) (k : Nat) => wX ad cI (0, mC m, mP m, mW m, mEar m, mSaid m, mRo m, mTu m) s a) zz.1 zz.2) (fun zz => (fun (d : Int64) (k : Nat) => [(0, .ref (ad 50)), (1, .long d), (3, .int (nI k))]) zz.1 zz.2) ?_ (d, 0) ⟨Nat.zero_le _, (by obtain ⟨h1, h2⟩ := ha_85; rw [h2, show p = mP m by omega]; rfl)⟩ rfl [1, 2, 0] rfl
        intro zz ha_131 ih_131
        obtain ⟨d, k⟩ := zz
        replace ha_131 : k ≤ 5 * tK s ∧ d = mDig4 s (mDig3 (mThr 0 m) (mDig2 (mThr 0 m) (mDig1 (mThr 0 m) s 10) (mC m)) (mP m)) k := ha_131
        refine ek_cast (w' := wX ad cI (0, mC m, mP m, mW m, mEar m, mSaid m, mRo m, mTu m) s a) rfl ?_
        refine ek_castL (lv' := [(0, .ref (ad 50)), (1, .long d), (3, .int (nI k))]) rfl ?_
        refine ek_iln X 2 rfl dX6_digest_131 ?_
        refine ek_ic (v := nI 5) X (by decide) dX6_digest_132 ?_
        refine ek_aln X 0 rfl dX6_digest_133 ?_
        refine ek_get X hin_X6_digest_X6 0 rfl rfl 8 (by decide) (List.mem_of_getElem? (i := 6) rfl) rfl dX6_digest_134 ?_
        refine ek_getN X hin_X6_digest_X5 3 rfl rfl 3 (by decide) (List.mem_of_getElem? (i := 22) rfl) rfl dX6_digest_137 ?_
        refine ek_Nmul X dX6_digest_140 ?_
        refine ek_Nge X (by omega) (by omega) 167 (by decide) dX6_digest_141 (fun c_141 => ?_) (fun c_141 => ?_)
        · skip
          refine ek_lln X 1 rfl dX6_digest_167 ?_
          refine ek_ldl (v := 31) X (List.mem_of_getElem? (i := 3) rfl) dX6_digest_168 ?_
          refine ek_lmul X dX6_digest_171 ?_
          refine ek_aln X 0 rfl dX6_digest_172 ?_
          refine ek_get X hin_X6_digest_X6 0 rfl rfl 8 (by decide) (List.mem_of_getElem? (i := 6) rfl) rfl dX6_digest_173 ?_
          refine ek_doRi (ek_runV (As := []) (rest := [.long (d * 31)]) X (c_X5_isInOrder l D cI cJ cR ad 60 ((0, mC m, mP m, mW m, mEar m, mSaid m, mRo m, mTu m)) s (mOk_thr hM) hT) gX6_digest_X5_isInOrder rfl hdV_X5_isInOrder ⟨Nat.le_of_ble_eq_true rfl, Nat.le_of_ble_eq_true rfl⟩ ⟨Nat.le_of_ble_eq_true rfl, Nat.le_of_ble_eq_true rfl⟩ [3, 4, 5, 6, 7, 8, 9, 10, 11, 0, 1, 2] rfl (by decide) 0 5 rfl rfl (Nat.le_of_ble_eq_true rfl) dX6_digest_176) (fun v_176 hv_176 => ?_)
          subst hv_176
          by_cases c_176 : tIn s
          · refine ek_top (v' := nI 1) (congrArg nI (if_pos c_176)) ?_
            refine ek_Zeq X (by omega) 186 (by decide) dX6_digest_179 (fun h => absurd h (by omega)) (fun _ => ?_)
            refine ek_ic (v := nI 1) X (by decide) dX6_digest_182 ?_
            refine ek_goto X 187 (by decide) dX6_digest_183 ?_
            refine ek_i2l (v := (nI 1).toInt64) X rfl dX6_digest_187 ?_
            refine ek_ladd X dX6_digest_188 ?_
            exact ek_retl X () ⟨_, rfl, (by obtain ⟨h1, h2⟩ := ha_131; unfold mDigest; rw [h2, show k = 5 * tK s by omega]; first | (rw [if_pos (show tIn s by assumption)] <;> rfl) | (rw [if_neg (show ¬ tIn s by assumption)] <;> rfl))⟩ rfl dX6_digest_189
          · refine ek_top (v' := nI 0) (congrArg nI (if_neg c_176)) ?_
            refine ek_Zeq X (by omega) 186 (by decide) dX6_digest_179 (fun _ => ?_) (fun h => absurd h (by omega))
            refine ek_ic (v := nI 0) X (by decide) dX6_digest_186 ?_
            refine ek_i2l (v := (nI 0).toInt64) X rfl dX6_digest_187 ?_
            refine ek_ladd X dX6_digest_188 ?_
            exact ek_retl X () ⟨_, rfl, (by obtain ⟨h1, h2⟩ := ha_131; unfold mDigest; rw [h2, show k = 5 * tK s by omega]; first | (rw [if_pos (show tIn s by assumption)] <;> rfl) | (rw [if_neg (show ¬ tIn s by assumption)] <;> rfl))⟩ rfl dX6_digest_189
        · skip
          refine ek_lln X 1 rfl dX6_digest_144 ?_
          refine ek_ldl (v := 31) X (List.mem_of_getElem? (i := 3) rfl) dX6_digest_145 ?_
          refine ek_lmul X dX6_digest_148 ?_
          refine ek_aln X 0 rfl dX6_digest_149 ?_
          refine ek_get X hin_X6_digest_X6 0 rfl rfl 8 (by decide) (List.mem_of_getElem? (i := 6) rfl) rfl dX6_digest_150 ?_
          refine ek_getN X hin_X6_digest_X5 3 rfl rfl 13 (by decide) (List.mem_of_getElem? (i := 26) rfl) rfl dX6_digest_153 ?_
          refine ek_iln X 2 rfl dX6_digest_156 ?_
          refine ek_ald X 5 0 rfl rfl (by omega) (by omega) dX6_digest_157 ?_
          refine ek_i2l (v := (nI ((tHe s) k)).toInt64) X rfl dX6_digest_158 ?_
          refine ek_ladd X dX6_digest_159 ?_
          refine ek_lsn (lv' := [(1, .long ((d * 31) + ((nI ((tHe s) k)).toInt64))), (0, .ref (ad 50)), (3, .int (nI k))]) X (by decide) rfl dX6_digest_160 ?_
          refine ek_Ninc (j := 2) (d := 1) (lv' := [(3, .int (nI (k + 1))), (1, .long ((d * 31) + ((nI ((tHe s) k)).toInt64))), (0, .ref (ad 50))]) X rfl (by decide) rfl dX6_digest_161 ?_
          refine ek_goto X 131 (by decide) dX6_digest_164 ?_
          refine ek_re [2, 1, 0] rfl ?_
          exact ih_131 ((d * 31) + ((nI ((tHe s) k)).toInt64), k + 1) (show (k + 1) ≤ 5 * tK s ∧ ((d * 31) + ((nI ((tHe s) k)).toInt64)) = mDig4 s (mDig3 (mThr 0 m) (mDig2 (mThr 0 m) (mDig1 (mThr 0 m) s 10) (mC m)) (mP m)) (k + 1) from (by obtain ⟨h1, h2⟩ := ha_131; refine ⟨by omega, ?_⟩; rw [h2]; rfl)) (by show 5 * tK s - (k + 1) < 5 * tK s - k; omega)
      · skip
        refine ek_ic (v := nI 0) X (by decide) dX6_digest_93 ?_
        refine ek_is (lv' := [(4, .int (nI 0)), (0, .ref (ad 50)), (1, .long d), (3, .int (nI p))]) X (by decide) rfl dX6_digest_94 ?_
        refine ek_loopAt (σ := Int64 × Nat) (fun zz => (fun (d2 : Int64) (w9 : Nat) => w9 ≤ 5 ∧ d2 = mDigP (mThr 0 m) p d w9) zz.1 zz.2) (fun zz => (fun (d2 : Int64) (w9 : Nat) => 5 - w9) zz.1 zz.2) (fun zz => (fun (d2 : Int64) (w9 : Nat) => wX ad cI (0, mC m, mP m, mW m, mEar m, mSaid m, mRo m, mTu m) s a) zz.1 zz.2) (fun zz => (fun (d2 : Int64) (w9 : Nat) => [(0, .ref (ad 50)), (1, .long d2), (3, .int (nI p)), (4, .int (nI w9))]) zz.1 zz.2) ?_ (d, 0) ⟨Nat.zero_le _, rfl⟩ rfl [1, 2, 3, 0] rfl
        intro zz ha_96 ih_96
        obtain ⟨d2, w9⟩ := zz
        replace ha_96 : w9 ≤ 5 ∧ d2 = mDigP (mThr 0 m) p d w9 := ha_96
        refine ek_cast (w' := wX ad cI (0, mC m, mP m, mW m, mEar m, mSaid m, mRo m, mTu m) s a) rfl ?_
        refine ek_castL (lv' := [(0, .ref (ad 50)), (1, .long d2), (3, .int (nI p)), (4, .int (nI w9))]) rfl ?_
        refine ek_il X 3 rfl dX6_digest_96 ?_
        refine ek_ic (v := nI 5) X (by decide) dX6_digest_98 ?_
        refine ek_Nge X (by omega) (by omega) 123 (by decide) dX6_digest_99 (fun c_99 => ?_) (fun c_99 => ?_)
        · skip
          refine ek_Ninc (j := 2) (d := 1) (lv' := [(3, .int (nI (p + 1))), (0, .ref (ad 50)), (1, .long d2), (4, .int (nI w9))]) X rfl (by decide) rfl dX6_digest_123 ?_
          refine ek_goto X 85 (by decide) dX6_digest_126 ?_
          refine ek_re [1, 2, 0] rfl ?_
          exact ih_85 (d2, p + 1) (show (p + 1) ≤ mP m ∧ d2 = mDig3 (mThr 0 m) (mDig2 (mThr 0 m) (mDig1 (mThr 0 m) s 10) (mC m)) (p + 1) from (by obtain ⟨h1, h2⟩ := ha_85; obtain ⟨g1, g2⟩ := ha_96; refine ⟨by omega, ?_⟩; rw [g2, show w9 = 5 by omega, h2]; rfl)) (by show mP m - (p + 1) < mP m - p; omega)
        · skip
          refine ek_lln X 1 rfl dX6_digest_102 ?_
          refine ek_ldl (v := 31) X (List.mem_of_getElem? (i := 3) rfl) dX6_digest_103 ?_
          refine ek_lmul X dX6_digest_106 ?_
          refine ek_aln X 0 rfl dX6_digest_107 ?_
          refine ek_iln X 2 rfl dX6_digest_108 ?_
          refine ek_il X 3 rfl dX6_digest_109 ?_
          refine ek_doRi (ek_runV (As := [.int (nI p), .int (nI w9)]) (rest := [.long (d2 * 31)]) X (c_X6_passageTold l D cI cJ cR ad ((0, mC m, mP m, mW m, mEar m, mSaid m, mRo m, mTu m)) (mOk_thr hM) p w9 (by omega) (by omega)) gX6_digest_X6_passageTold rfl hdV_X6_passageTold ⟨Nat.le_of_ble_eq_true rfl, Nat.le_of_ble_eq_true rfl⟩ ⟨Nat.le_of_ble_eq_true rfl, Nat.le_of_ble_eq_true rfl⟩ [0, 1, 2] rfl (by decide) 0 6 rfl rfl (Nat.le_of_ble_eq_true rfl) dX6_digest_111) (fun v_111 hv_111 => ?_)
          subst hv_111
          refine ek_i2l (v := (nI (mPTold m p w9)).toInt64) X rfl dX6_digest_114 ?_
          refine ek_ladd X dX6_digest_115 ?_
          refine ek_lsn (lv' := [(1, .long ((d2 * 31) + ((nI (mPTold m p w9)).toInt64))), (0, .ref (ad 50)), (3, .int (nI p)), (4, .int (nI w9))]) X (by decide) rfl dX6_digest_116 ?_
          refine ek_Ninc (j := 3) (d := 1) (lv' := [(4, .int (nI (w9 + 1))), (1, .long ((d2 * 31) + ((nI (mPTold m p w9)).toInt64))), (0, .ref (ad 50)), (3, .int (nI p))]) X rfl (by decide) rfl dX6_digest_117 ?_
          refine ek_goto X 96 (by decide) dX6_digest_120 ?_
          refine ek_re [2, 1, 3, 0] rfl ?_
          exact ih_96 ((d2 * 31) + ((nI (mPTold m p w9)).toInt64), w9 + 1) (show (w9 + 1) ≤ 5 ∧ ((d2 * 31) + ((nI (mPTold m p w9)).toInt64)) = mDigP (mThr 0 m) p d (w9 + 1) from (by obtain ⟨h1, h2⟩ := ha_96; refine ⟨by omega, ?_⟩; rw [h2]; rfl)) (by show 5 - (w9 + 1) < 5 - w9; omega)
    · skip
      refine ek_ic (v := nI 0) X (by decide) dX6_digest_46 ?_
      refine ek_is (lv' := [(4, .int (nI 0)), (0, .ref (ad 50)), (1, .long d), (3, .int (nI c))]) X (by decide) rfl dX6_digest_47 ?_
      refine ek_loopAt (σ := Int64 × Nat) (fun zz => (fun (d2 : Int64) (w9 : Nat) => w9 ≤ 7 ∧ d2 = mDigC (mThr 0 m) c d w9) zz.1 zz.2) (fun zz => (fun (d2 : Int64) (w9 : Nat) => 7 - w9) zz.1 zz.2) (fun zz => (fun (d2 : Int64) (w9 : Nat) => wX ad cI (0, mC m, mP m, mW m, mEar m, mSaid m, mRo m, mTu m) s a) zz.1 zz.2) (fun zz => (fun (d2 : Int64) (w9 : Nat) => [(0, .ref (ad 50)), (1, .long d2), (3, .int (nI c)), (4, .int (nI w9))]) zz.1 zz.2) ?_ (d, 0) ⟨Nat.zero_le _, rfl⟩ rfl [1, 2, 3, 0] rfl
      intro zz ha_49 ih_49
      obtain ⟨d2, w9⟩ := zz
      replace ha_49 : w9 ≤ 7 ∧ d2 = mDigC (mThr 0 m) c d w9 := ha_49
      refine ek_cast (w' := wX ad cI (0, mC m, mP m, mW m, mEar m, mSaid m, mRo m, mTu m) s a) rfl ?_
      refine ek_castL (lv' := [(0, .ref (ad 50)), (1, .long d2), (3, .int (nI c)), (4, .int (nI w9))]) rfl ?_
      refine ek_il X 3 rfl dX6_digest_49 ?_
      refine ek_bp (v := nI 7) X (by decide) dX6_digest_51 ?_
      refine ek_Nge X (by omega) (by omega) 77 (by decide) dX6_digest_53 (fun c_53 => ?_) (fun c_53 => ?_)
      · skip
        refine ek_Ninc (j := 2) (d := 1) (lv' := [(3, .int (nI (c + 1))), (0, .ref (ad 50)), (1, .long d2), (4, .int (nI w9))]) X rfl (by decide) rfl dX6_digest_77 ?_
        refine ek_goto X 38 (by decide) dX6_digest_80 ?_
        refine ek_re [1, 2, 0] rfl ?_
        exact ih_38 (d2, c + 1) (show (c + 1) ≤ mC m ∧ d2 = mDig2 (mThr 0 m) (mDig1 (mThr 0 m) s 10) (c + 1) from (by obtain ⟨h1, h2⟩ := ha_38; obtain ⟨g1, g2⟩ := ha_49; refine ⟨by omega, ?_⟩; rw [g2, show w9 = 7 by omega, h2]; rfl)) (by show mC m - (c + 1) < mC m - c; omega)
      · skip
        refine ek_lln X 1 rfl dX6_digest_56 ?_
        refine ek_ldl (v := 31) X (List.mem_of_getElem? (i := 3) rfl) dX6_digest_57 ?_
        refine ek_lmul X dX6_digest_60 ?_
        refine ek_aln X 0 rfl dX6_digest_61 ?_
        refine ek_iln X 2 rfl dX6_digest_62 ?_
        refine ek_il X 3 rfl dX6_digest_63 ?_
        refine ek_doRi (ek_runV (As := [.int (nI c), .int (nI w9)]) (rest := [.long (d2 * 31)]) X (c_X6_chamberTold l D cI cJ cR ad ((0, mC m, mP m, mW m, mEar m, mSaid m, mRo m, mTu m)) (mOk_thr hM) c w9 (by omega) (by omega)) gX6_digest_X6_chamberTold rfl hdV_X6_chamberTold ⟨Nat.le_of_ble_eq_true rfl, Nat.le_of_ble_eq_true rfl⟩ ⟨Nat.le_of_ble_eq_true rfl, Nat.le_of_ble_eq_true rfl⟩ [0, 1, 2] rfl (by decide) 0 6 rfl rfl (Nat.le_of_ble_eq_true rfl) dX6_digest_65) (fun v_65 hv_65 => ?_)
        subst hv_65
        refine ek_i2l (v := (nI (mTold ((0, mC m, mP m, mW m, mEar m, mSaid m, mRo m, mTu m)) c w9)).toInt64) X rfl dX6_digest_68 ?_
        refine ek_ladd X dX6_digest_69 ?_
        refine ek_lsn (lv' := [(1, .long ((d2 * 31) + ((nI (mTold ((0, mC m, mP m, mW m, mEar m, mSaid m, mRo m, mTu m)) c w9)).toInt64))), (0, .ref (ad 50)), (3, .int (nI c)), (4, .int (nI w9))]) X (by decide) rfl dX6_digest_70 ?_
        refine ek_Ninc (j := 3) (d := 1) (lv' := [(4, .int (nI (w9 + 1))), (1, .long ((d2 * 31) + ((nI (mTold ((0, mC m, mP m, mW m, mEar m, mSaid m, mRo m, mTu m)) c w9)).toInt64))), (0, .ref (ad 50)), (3, .int (nI c))]) X rfl (by decide) rfl dX6_digest_71 ?_
        refine ek_goto X 49 (by decide) dX6_digest_74 ?_
        refine ek_re [2, 1, 3, 0] rfl ?_
        exact ih_49 ((d2 * 31) + ((nI (mTold ((0, mC m, mP m, mW m, mEar m, mSaid m, mRo m, mTu m)) c w9)).toInt64), w9 + 1) (show (w9 + 1) ≤ 7 ∧ ((d2 * 31) + ((nI (mTold ((0, mC m, mP m, mW m, mEar m, mSaid m, mRo m, mTu m)) c w9)).toInt64)) = mDigC (mThr 0 m) c d (w9 + 1) from (by obtain ⟨h1, h2⟩ := ha_49; refine ⟨by omega, ?_⟩; rw [h2]; rfl)) (by show 7 - (w9 + 1) < 7 - w9; omega)
  · skip
    refine ek_lln X 1 rfl dX6_digest_17 ?_
    refine ek_ldl (v := 31) X (List.mem_of_getElem? (i := 3) rfl) dX6_digest_18 ?_
    refine ek_lmul X dX6_digest_21 ?_
    refine ek_aln X 0 rfl dX6_digest_22 ?_
    refine ek_iln X 2 rfl dX6_digest_23 ?_
    refine ek_doRi (ek_runV (As := [.int (nI w9)]) (rest := [.long (d * 31)]) X (c_X6_counted l D cI cJ cR ad ((0, mC m, mP m, mW m, mEar m, mSaid m, mRo m, mTu m)) s a (mOk_thr hM) w9 (by omega)) gX6_digest_X6_counted rfl hdV_X6_counted ⟨Nat.le_of_ble_eq_true rfl, Nat.le_of_ble_eq_true rfl⟩ ⟨Nat.le_of_ble_eq_true rfl, Nat.le_of_ble_eq_true rfl⟩ [0, 1, 2, 3, 4, 5, 6, 7, 8, 9, 10, 11, 12, 13, 14, 15, 16, 17, 18, 19, 20] rfl (by decide) 0 6 rfl rfl (Nat.le_of_ble_eq_true rfl) dX6_digest_24) (fun v_24 hv_24 => ?_)
    subst hv_24
    refine ek_i2l (v := (nI (mCtd ((0, mC m, mP m, mW m, mEar m, mSaid m, mRo m, mTu m)) s w9)).toInt64) X rfl dX6_digest_27 ?_
    refine ek_ladd X dX6_digest_28 ?_
    refine ek_lsn (lv' := [(1, .long ((d * 31) + ((nI (mCtd ((0, mC m, mP m, mW m, mEar m, mSaid m, mRo m, mTu m)) s w9)).toInt64))), (0, .ref (ad 50)), (3, .int (nI w9))]) X (by decide) rfl dX6_digest_29 ?_
    refine ek_Ninc (j := 2) (d := 1) (lv' := [(3, .int (nI (w9 + 1))), (1, .long ((d * 31) + ((nI (mCtd ((0, mC m, mP m, mW m, mEar m, mSaid m, mRo m, mTu m)) s w9)).toInt64))), (0, .ref (ad 50))]) X rfl (by decide) rfl dX6_digest_30 ?_
    refine ek_goto X 11 (by decide) dX6_digest_33 ?_
    refine ek_re [2, 1, 0] rfl ?_
    exact ih_11 ((d * 31) + ((nI (mCtd ((0, mC m, mP m, mW m, mEar m, mSaid m, mRo m, mTu m)) s w9)).toInt64), w9 + 1) (show (w9 + 1) ≤ 10 ∧ ((d * 31) + ((nI (mCtd ((0, mC m, mP m, mW m, mEar m, mSaid m, mRo m, mTu m)) s w9)).toInt64)) = mDig1 (mThr 0 m) s (w9 + 1) from (by obtain ⟨h1, h2⟩ := ha_11; refine ⟨by omega, ?_⟩; rw [h2]; rfl)) (by show 10 - (w9 + 1) < 10 - w9; omega)
