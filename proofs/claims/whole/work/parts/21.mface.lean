/-! ===== EchoCaveModel: the calls ===== -/
theorem nI_toInt2 {x : Nat} (h : x < 4294967296) : (nI x).toInt = if x < 2147483648 then (x : Int) else (x : Int) - 4294967296 := by
  show (nI x).toBitVec.toInt = _
  rw [BitVec.toInt_eq_toNat_cond, nI_tb h]
  split <;> split <;> omega
theorem in_iff {x lo hi : Nat} (hx : x < 4294967296) (hl : lo < 2147483648) (hh : hi < 2147483648) : (nI lo ≤ nI x ∧ nI x ≤ nI hi) ↔ (lo ≤ x ∧ x ≤ hi) := by
  rw [Int32.le_iff_toInt_le, Int32.le_iff_toInt_le, nI_toInt2 hx, nI_toInt2 (x := lo) (by omega), nI_toInt2 (x := hi) (by omega), if_pos hl, if_pos hh]
  split <;> omega
theorem in_below {x n : Nat} (hx : x < 4294967296) (hn : n < 2147483648) : (nI 0 ≤ nI x ∧ nI x ≤ nI n - nI 1) ↔ x < n := by
  cases n with
  | zero =>
    rw [show nI 0 - nI 1 = (-1 : Int32) by decide, Int32.le_iff_toInt_le, Int32.le_iff_toInt_le, nI_toInt2 hx, show (nI 0).toInt = 0 by decide, show (-1 : Int32).toInt = -1 by decide]
    split <;> omega
  | succ n =>
    rw [show nI (n + 1) - nI 1 = nI n by rw [← nI_add, Int32.add_sub_cancel], in_iff hx (by omega) (by omega)]
    omega
theorem nI_le0 {x : Nat} (hx : x < 4294967296) : nI x ≤ 0 ↔ (x = 0 ∨ 2147483648 ≤ x) := by
  rw [Int32.le_iff_toInt_le, nI_toInt2 hx, show (0 : Int32).toInt = 0 by decide]
  split <;> omega
theorem if_eqN {A B : Prop} [Decidable A] [Decidable B] (h : A ↔ B) : (if A then 1 else 0 : Nat) = if B then 1 else 0 := by
  by_cases hb : B
  · rw [if_pos hb, if_pos (h.mpr hb)]
  · rw [if_neg hb, if_neg (fun ha => hb (h.mp ha))]
theorem c_X6_isInN (l : Launch) (D : va_G) (cI cJ cR : ClassId) (x lo hi : Nat) (hx : x < 4294967296) (hl : lo < 2147483648) (hh : hi < 2147483648) : ek_R l yX6_isIn wsX6_isIn rm_X6_isIn D (tyW cI cJ cR) nestW [.int (nI x), .int (nI lo), .int (nI hi)] ([]) (fun r9 => ∃ v : Int32, r9 = some (.int v) ∧ v = nI (if lo ≤ x ∧ x ≤ hi then 1 else 0)) := by
  have h := c_X6_isIn l D cI cJ cR (nI x) (nI lo) (nI hi)
  rw [if_eqN (in_iff hx hl hh)] at h
  exact h
theorem c_X6_isInB (l : Launch) (D : va_G) (cI cJ cR : ClassId) (x n : Nat) (hx : x < 4294967296) (hn : n < 2147483648) : ek_R l yX6_isIn wsX6_isIn rm_X6_isIn D (tyW cI cJ cR) nestW [.int (nI x), .int (nI 0), .int (nI n - nI 1)] ([]) (fun r9 => ∃ v : Int32, r9 = some (.int v) ∧ v = nI (if x < n then 1 else 0)) := by
  have h := c_X6_isIn l D cI cJ cR (nI x) (nI 0) (nI n - nI 1)
  rw [if_eqN (in_below hx hn)] at h
  exact h
theorem c_X6_isChamberN (l : Launch) (D : va_G) (cI cJ cR : ClassId) (ad : Nat → Nat) (m : MdlT) (hM : mOk m) (x : Nat) (hx : x < 4294967296) : ek_R l yX6_isChamber wsX6_isChamber rm_X6_isChamber D (tyW cI cJ cR) nestW [.ref (ad 50), .int (nI x)] (wM ad cI m) (fun r9 => ∃ v : Int32, r9 = some (.int v) ∧ v = nI (if x < mC m then 1 else 0)) := by
  have h := c_X6_isChamber l D cI cJ cR ad m hM (nI x)
  have hc := hM.1
  rw [if_eqN (show (nI 0 ≤ nI x ∧ nI x ≤ nI (mC m - 1)) ↔ x < mC m by rw [in_iff hx (by omega) (by omega)]; omega)] at h
  exact h
theorem mOk_thr {m : MdlT} (h : mOk m) : mOk (0, mC m, mP m, mW m, mEar m, mSaid m, mRo m, mTu m) := ⟨h.1, h.2.1, h.2.2.1, h.2.2.2.1, Nat.zero_le _, h.2.2.2.2.2⟩
def wdP (k s left : Nat) : Prop := left < 4294967296 ∧ s ≤ 1 ∧ ∃ i, left = k / 10 ^ i ∧ (s = 1 ↔ ((1 ≤ k ∧ k ≤ 999999) ∧ ∀ j, j < i → 1 ≤ k / 10 ^ j % 10)) ∧ (k ≤ 999999 → i ≤ 6 ∧ i + dgs (6 - i) left = dgs 6 k ∧ left < 10 ^ (6 - i))
theorem wdP_0 {k s : Nat} (hk : k < 4294967296) (h : s = if 1 ≤ k ∧ k ≤ 999999 then 1 else 0) : wdP k s k := by
  refine ⟨hk, by rw [h]; split <;> omega, 0, by rw [Nat.pow_zero, Nat.div_one], ?_, fun h9 => ⟨by omega, by show 0 + dgs 6 k = dgs 6 k; omega, by show k < 1000000; omega⟩⟩
  rw [h]
  constructor
  · intro h2
    refine ⟨?_, fun j hj => absurd hj (Nat.not_lt_zero j)⟩
    by_cases h3 : 1 ≤ k ∧ k ≤ 999999
    · exact h3
    · rw [if_neg h3] at h2; omega
  · intro h2
    exact if_pos h2.1
theorem wdP_s {k s s2 left : Nat} (h : wdP k s left) (hl : 0 < left) (hs : s2 ≤ 1) (hs2 : s2 = 1 ↔ (s = 1 ∧ ¬ left % 10 = 0)) : wdP k s2 (left / 10) := by
  obtain ⟨h1, h2, i, h3, h4, h5⟩ := h
  refine ⟨by omega, hs, i + 1, by rw [h3, Nat.div_div_eq_div_mul, Nat.pow_succ], ?_, fun h9 => ?_⟩
  · rw [hs2, h4]
    constructor
    · rintro ⟨⟨a, b⟩, c⟩
      refine ⟨a, fun j hj => ?_⟩
      rcases Nat.lt_or_ge j i with e | e
      · exact b j e
      · rw [show j = i by omega, ← h3]; omega
    · rintro ⟨a, b⟩
      refine ⟨⟨a, fun j hj => b j (by omega)⟩, ?_⟩
      have := b i (by omega)
      rw [← h3] at this
      omega
  · obtain ⟨a, b, c⟩ := h5 h9
    have hi : i < 6 := by
      rcases Nat.lt_or_ge i 6 with e | e
      · exact e
      · rw [show 6 - i = 0 by omega] at c; omega
    rw [show 6 - i = (6 - (i + 1)) + 1 by omega] at b c
    refine ⟨by omega, ?_, by rw [Nat.pow_succ] at c; omega⟩
    rw [← b, show dgs ((6 - (i + 1)) + 1) left = dgs (6 - (i + 1)) (left / 10) + 1 from if_pos hl]
    omega
theorem wdP_e {k s left : Nat} (h : wdP k s left) (hl : left = 0 ∨ 2147483648 ≤ left) : s = if wdOk k then 1 else 0 := by
  obtain ⟨h1, h2, i, h3, h4, h5⟩ := h
  have key : s = 1 ↔ wdOk k := by
    rw [h4]
    by_cases hk : k ≤ 999999
    · obtain ⟨a, b, c⟩ := h5 hk
      have h6 : left ≤ k := by rw [h3]; exact Nat.div_le_self _ _
      have e : i = dgs 6 k := by
        rw [← b, show left = 0 by omega]
        cases (6 - i) <;> rfl
      show _ ↔ ((1 ≤ k ∧ k ≤ 999999) ∧ ∀ j, j < dgs 6 k → 1 ≤ k / 10 ^ j % 10)
      rw [← e]
    · constructor
      · intro h; exact absurd h.1.2 hk
      · intro h; exact absurd h.1.2 hk
  by_cases hw : wdOk k
  · rw [if_pos hw]; exact key.mpr hw
  · rw [if_neg hw]
    have : ¬ s = 1 := fun e => hw (key.mp e)
    omega
def mSetW (k : Nat) (m : MdlT) : MdlT := if k ≤ 30 then (0, mC m, mP m, k, mEar m, mSaid m, mRo m, mTu m) else (1, mC m, mP m, mW m, mEar m, mSaid m, mRo m, mTu m)
def mSetE (k : Nat) (m : MdlT) : MdlT := if 1 ≤ k ∧ k ≤ 50 then (0, mC m, mP m, mW m, k, mSaid m, mRo m, mTu m) else (1, mC m, mP m, mW m, mEar m, mSaid m, mRo m, mTu m)
def mSetB (c b : Nat) (m : MdlT) : MdlT := if c < mC m then (if b ≤ 20 then (0, mC m, mP m, mW m, mEar m, mSaid m, eN (mRo m) (5 * c + 2) b, mTu m) else (2, mC m, mP m, mW m, mEar m, mSaid m, mRo m, mTu m)) else (1, mC m, mP m, mW m, mEar m, mSaid m, mRo m, mTu m)
def mSetC (c y d : Nat) (m : MdlT) : MdlT := if c < mC m then (if 0 < c ∧ y ≤ 9 ∧ d ≤ 20 then (0, mC m, mP m, mW m, mEar m, mSaid m, eN (eN (mRo m) (5 * c + 3) y) (5 * c + 4) (if y = 0 then 0 else d), mTu m) else (2, mC m, mP m, mW m, mEar m, mSaid m, mRo m, mTu m)) else (1, mC m, mP m, mW m, mEar m, mSaid m, mRo m, mTu m)
def mCnt (m : MdlT) (c w : Nat) : Nat → Nat
  | 0 => 0
  | p + 1 => mCnt m c w p + (if mTouch m p c ∧ (w = 5 ∨ mOpen m p (mW m)) then 1 else 0)
theorem mCnt_le (m : MdlT) (c w : Nat) : ∀ p, mCnt m c w p ≤ p
  | 0 => Nat.le_refl 0
  | p + 1 => by
    have := mCnt_le m c w p
    show mCnt m c w p + (if mTouch m p c ∧ (w = 5 ∨ mOpen m p (mW m)) then 1 else 0) ≤ p + 1
    split <;> omega
def mTold (m : MdlT) (c w : Nat) : Nat := if w < 5 then mRo m (5 * c + w) else mCnt m c w (mP m)
def mPTold (m : MdlT) (p w : Nat) : Nat := if w < 4 then mTu m (4 * p + w) else if mOpen m p (mW m) then 1 else 0
abbrev mThr (k : Nat) (m : MdlT) : MdlT := (k, mC m, mP m, mW m, mEar m, mSaid m, mRo m, mTu m)
theorem mCnt_thr (k : Nat) (m : MdlT) (c w : Nat) : ∀ p, mCnt (mThr k m) c w p = mCnt m c w p
  | 0 => rfl
  | p + 1 => congrArg (fun a => a + (if mTouch m p c ∧ (w = 5 ∨ mOpen m p (mW m)) then 1 else 0)) (mCnt_thr k m c w p)
theorem mTold_thr (k : Nat) (m : MdlT) (c w : Nat) : mTold (mThr k m) c w = mTold m c w := by
  unfold mTold
  rw [mCnt_thr]

theorem hin_X6_no_X6 : ∀ x ∈ wsX60, x ∈ wsX6_no := fun x h => List.mem_cons_of_mem _ (List.mem_append_right _ h)
abbrev rm_X6_no : Room := { frames := 1, cells := 0, slots := 0, locals := 12 }
set_option maxHeartbeats 4000000 in
set_option maxRecDepth 100000 in
theorem c_X6_no (l : Launch) (D : va_G) (cI cJ cR : ClassId) (ad : Nat → Nat) (m : MdlT) (k : Nat)  : ek_M (S := Unit) l yX6_no wsX6_no rm_X6_no D (tyW cI cJ cR) nestW [.ref (ad 50), .int (nI k)] (wM ad cI m) (fun r9 _ => ∃ v : Int32, r9 = some (.int v) ∧ v = nI 0) (fun _ => wM ad cI (k, mC m, mP m, mW m, mEar m, mSaid m, mRo m, mTu m)) := by
  refine ek_M.of (cc := cX6_no) (maxL := 2) (ret := (some .int)) (by decide) rfl (Nat.le_of_ble_eq_true rfl) ?_
  intro p9 e9 s9 m9 args9 below9 meth9 c9 A X hin
  refine ek_castL (lv' := [(0, .ref (ad 50)), (1, .int (nI k))]) rfl ?_
  refine ek_aln X 0 rfl dX6_no_0 ?_
  refine ek_iln X 1 rfl dX6_no_1 ?_
  refine ek_put (w' := wM ad cI (k, mC m, mP m, mW m, mEar m, mSaid m, mRo m, mTu m)) X hin_X6_no_X6 tyX6 tyX6_ok nmX6 0 rfl rfl 0 (by decide) (List.mem_of_getElem? (i := 1) rfl) rfl rfl rfl rfl (Nat.le_of_ble_eq_true rfl) rfl dX6_no_2 ?_
  refine ek_ic (v := nI 0) X (by decide) dX6_no_5 ?_
  exact ek_reti X () ⟨_, rfl, (by simp_all)⟩ rfl dX6_no_6

theorem hin_X6_thrown_X6 : ∀ x ∈ wsX60, x ∈ wsX6_thrown := fun x h => List.mem_cons_of_mem _ (List.mem_append_right _ h)
abbrev rm_X6_thrown : Room := { frames := 1, cells := 0, slots := 0, locals := 12 }
set_option maxHeartbeats 4000000 in
set_option maxRecDepth 100000 in
theorem c_X6_thrown (l : Launch) (D : va_G) (cI cJ cR : ClassId) (ad : Nat → Nat) (m : MdlT)  : ek_R l yX6_thrown wsX6_thrown rm_X6_thrown D (tyW cI cJ cR) nestW [.ref (ad 50)] (wM ad cI m) (fun r9 => ∃ v : Int32, r9 = some (.int v) ∧ v = nI (mTh m)) := by
  refine ek_R.of (cc := cX6_thrown) (maxL := 1) (ret := (some .int)) (by decide) rfl (Nat.le_of_ble_eq_true rfl) ?_
  intro p9 e9 s9 m9 args9 below9 meth9 c9 X
  refine ek_castL (lv' := [(0, .ref (ad 50))]) rfl ?_
  refine ek_aln X 0 rfl dX6_thrown_0 ?_
  refine ek_get X hin_X6_thrown_X6 0 rfl rfl 0 (by decide) (List.mem_of_getElem? (i := 1) rfl) rfl dX6_thrown_1 ?_
  exact ek_retiR X ⟨_, rfl, rfl⟩ dX6_thrown_4

abbrev rm_X6_isWord : Room := { frames := 2, cells := 0, slots := 0, locals := 34 }
set_option maxHeartbeats 4000000 in
set_option maxRecDepth 100000 in
theorem c_X6_isWord (l : Launch) (D : va_G) (cI cJ cR : ClassId) (k : Nat) (hk : k < 4294967296) : ek_R l yX6_isWord wsX6_isWord rm_X6_isWord D (tyW cI cJ cR) nestW [.int (nI k)] ([]) (fun r9 => ∃ v : Int32, r9 = some (.int v) ∧ v = nI (if wdOk k then 1 else 0)) := by
  refine ek_R.of (cc := cX6_isWord) (maxL := 3) (ret := (some .boolean)) (by decide) rfl (Nat.le_of_ble_eq_true rfl) ?_
  intro p9 e9 s9 m9 args9 below9 meth9 c9 X
  refine ek_castL (lv' := [(0, .int (nI k))]) rfl ?_
  refine ek_iln X 0 rfl dX6_isWord_0 ?_
  refine ek_ic (v := nI 1) X (by decide) dX6_isWord_1 ?_
  refine ek_ldc (v := 999999) X (List.mem_of_getElem? (i := 1) rfl) dX6_isWord_2 ?_
  refine ek_top (v' := nI 999999) (by decide) ?_
  refine ek_doRi (ek_runS (As := [.int (nI k), .int (nI 1), .int (nI 999999)]) (rest := []) X (c_X6_isInN l D cI cJ cR k 1 999999 (by omega) (by omega) (by omega)) gX6_isWord_X6_isIn rfl hd_X6_isIn ⟨Nat.le_of_ble_eq_true rfl, Nat.le_of_ble_eq_true rfl⟩ ⟨Nat.le_of_ble_eq_true rfl, Nat.le_of_ble_eq_true rfl⟩ [] rfl (by decide) (Nat.le_of_ble_eq_true rfl) dX6_isWord_4) (fun v_4 hv_4 => ?_)
  subst hv_4
  by_cases c_4 : 1 ≤ k ∧ k ≤ 999999
  · refine ek_top (v' := nI 1) (congrArg nI (if_pos c_4)) ?_
    refine ek_isn (lv' := [(1, .int (nI 1)), (0, .int (nI k))]) X (by decide) rfl dX6_isWord_7 ?_
    refine ek_iln X 1 rfl dX6_isWord_8 ?_
    refine ek_isn (lv' := [(2, .int (nI k)), (1, .int (nI 1)), (0, .int (nI k))]) X (by decide) rfl dX6_isWord_9 ?_
    refine ek_loopAt (σ := Nat × Nat) (fun zz => (fun (s0 : Nat) (left : Nat) => wdP k s0 left) zz.1 zz.2) (fun zz => (fun (s0 : Nat) (left : Nat) => left) zz.1 zz.2) (fun zz => (fun (s0 : Nat) (left : Nat) => []) zz.1 zz.2) (fun zz => (fun (s0 : Nat) (left : Nat) => [(0, .int (nI k)), (1, .int (nI s0)), (2, .int (nI left))]) zz.1 zz.2) ?_ (1, k) (wdP_0 hk (by first | exact (if_pos (by assumption)).symm | exact (if_neg (by assumption)).symm)) rfl [2, 1, 0] rfl
    intro zz ha_10 ih_10
    obtain ⟨s0, left⟩ := zz
    replace ha_10 : wdP k s0 left := ha_10
    refine ek_cast (w' := []) rfl ?_
    refine ek_castL (lv' := [(0, .int (nI k)), (1, .int (nI s0)), (2, .int (nI left))]) rfl ?_
    have hwd := ha_10.1
    have hs1 := ha_10.2.1
    refine ek_iln X 2 rfl dX6_isWord_10 ?_
    refine ek_if_le X 37 (by decide) dX6_isWord_11 (fun c_11 => ?_) (fun c_11 => ?_)
    · skip
      refine ek_iln X 1 rfl dX6_isWord_37 ?_
      rcases (show s0 = 0 ∨ s0 = 1 by omega) with e0 | e0
      · refine ek_top (v' := nI 0) (by rw [e0]) ?_
        exact ek_retzR X (by decide) ⟨_, rfl, (congrArg nI (e0.symm.trans (wdP_e ha_10 ((nI_le0 hwd).mp c_11))))⟩ dX6_isWord_38
      · refine ek_top (v' := nI 1) (by rw [e0]) ?_
        exact ek_retzR X (by decide) ⟨_, rfl, (congrArg nI (e0.symm.trans (wdP_e ha_10 ((nI_le0 hwd).mp c_11))))⟩ dX6_isWord_38
    · skip
      have hl := (not_congr (nI_le0 hwd)).mp c_11
      refine ek_iln X 1 rfl dX6_isWord_14 ?_
      refine ek_iln X 2 rfl dX6_isWord_15 ?_
      refine ek_bp (v := nI 10) X (by decide) dX6_isWord_16 ?_
      refine ek_Nrem X (by omega) (by omega) (by omega) dX6_isWord_18 ?_
      refine ek_Zeq X (by omega) 26 (by decide) dX6_isWord_19 (fun c_19 => ?_) (fun c_19 => ?_)
      · skip
        refine ek_ic (v := nI 0) X (by decide) dX6_isWord_26 ?_
        refine ek_and X dX6_isWord_27 ?_
        refine ek_top (v' := nI (s0 &&& 0)) (fa_and _ _) ?_
        refine ek_isn (lv' := [(1, .int (nI (s0 &&& 0))), (0, .int (nI k)), (2, .int (nI left))]) X (by decide) rfl dX6_isWord_28 ?_
        refine ek_iln X 2 rfl dX6_isWord_29 ?_
        refine ek_bp (v := nI 10) X (by decide) dX6_isWord_30 ?_
        refine ek_Ndiv X (by omega) (by omega) (by omega) dX6_isWord_32 ?_
        refine ek_isn (lv' := [(2, .int (nI (left / 10))), (1, .int (nI (s0 &&& 0))), (0, .int (nI k))]) X (by decide) rfl dX6_isWord_33 ?_
        refine ek_goto X 10 (by decide) dX6_isWord_34 ?_
        refine ek_re [2, 1, 0] rfl ?_
        exact ih_10 (s0 &&& 0, left / 10) (show wdP k (s0 &&& 0) (left / 10) from (by have hl := (not_congr (nI_le0 hwd)).mp c_11; first | exact wdP_s ha_10 (by omega) (by rw [Nat.and_one_is_mod]; omega) (by rw [Nat.and_one_is_mod]; omega) | exact wdP_s ha_10 (by omega) (by rw [Nat.and_zero]; omega) (by rw [Nat.and_zero]; omega))) (Nat.div_lt_self (by have hl := (not_congr (nI_le0 hwd)).mp c_11; omega) (by omega))
      · skip
        refine ek_ic (v := nI 1) X (by decide) dX6_isWord_22 ?_
        refine ek_goto X 27 (by decide) dX6_isWord_23 ?_
        refine ek_and X dX6_isWord_27 ?_
        refine ek_top (v' := nI (s0 &&& 1)) (fa_and _ _) ?_
        refine ek_isn (lv' := [(1, .int (nI (s0 &&& 1))), (0, .int (nI k)), (2, .int (nI left))]) X (by decide) rfl dX6_isWord_28 ?_
        refine ek_iln X 2 rfl dX6_isWord_29 ?_
        refine ek_bp (v := nI 10) X (by decide) dX6_isWord_30 ?_
        refine ek_Ndiv X (by omega) (by omega) (by omega) dX6_isWord_32 ?_
        refine ek_isn (lv' := [(2, .int (nI (left / 10))), (1, .int (nI (s0 &&& 1))), (0, .int (nI k))]) X (by decide) rfl dX6_isWord_33 ?_
        refine ek_goto X 10 (by decide) dX6_isWord_34 ?_
        refine ek_re [2, 1, 0] rfl ?_
        exact ih_10 (s0 &&& 1, left / 10) (show wdP k (s0 &&& 1) (left / 10) from (by have hl := (not_congr (nI_le0 hwd)).mp c_11; first | exact wdP_s ha_10 (by omega) (by rw [Nat.and_one_is_mod]; omega) (by rw [Nat.and_one_is_mod]; omega) | exact wdP_s ha_10 (by omega) (by rw [Nat.and_zero]; omega) (by rw [Nat.and_zero]; omega))) (Nat.div_lt_self (by have hl := (not_congr (nI_le0 hwd)).mp c_11; omega) (by omega))
  · refine ek_top (v' := nI 0) (congrArg nI (if_neg c_4)) ?_
    refine ek_isn (lv' := [(1, .int (nI 0)), (0, .int (nI k))]) X (by decide) rfl dX6_isWord_7 ?_
    refine ek_iln X 1 rfl dX6_isWord_8 ?_
    refine ek_isn (lv' := [(2, .int (nI k)), (1, .int (nI 0)), (0, .int (nI k))]) X (by decide) rfl dX6_isWord_9 ?_
    refine ek_loopAt (σ := Nat × Nat) (fun zz => (fun (s0 : Nat) (left : Nat) => wdP k s0 left) zz.1 zz.2) (fun zz => (fun (s0 : Nat) (left : Nat) => left) zz.1 zz.2) (fun zz => (fun (s0 : Nat) (left : Nat) => []) zz.1 zz.2) (fun zz => (fun (s0 : Nat) (left : Nat) => [(0, .int (nI k)), (1, .int (nI s0)), (2, .int (nI left))]) zz.1 zz.2) ?_ (0, k) (wdP_0 hk (by first | exact (if_pos (by assumption)).symm | exact (if_neg (by assumption)).symm)) rfl [2, 1, 0] rfl
    intro zz ha_10 ih_10
    obtain ⟨s0, left⟩ := zz
    replace ha_10 : wdP k s0 left := ha_10
    refine ek_cast (w' := []) rfl ?_
    refine ek_castL (lv' := [(0, .int (nI k)), (1, .int (nI s0)), (2, .int (nI left))]) rfl ?_
    have hwd := ha_10.1
    have hs1 := ha_10.2.1
    refine ek_iln X 2 rfl dX6_isWord_10 ?_
    refine ek_if_le X 37 (by decide) dX6_isWord_11 (fun c_11 => ?_) (fun c_11 => ?_)
    · skip
      refine ek_iln X 1 rfl dX6_isWord_37 ?_
      rcases (show s0 = 0 ∨ s0 = 1 by omega) with e0 | e0
      · refine ek_top (v' := nI 0) (by rw [e0]) ?_
        exact ek_retzR X (by decide) ⟨_, rfl, (congrArg nI (e0.symm.trans (wdP_e ha_10 ((nI_le0 hwd).mp c_11))))⟩ dX6_isWord_38
      · refine ek_top (v' := nI 1) (by rw [e0]) ?_
        exact ek_retzR X (by decide) ⟨_, rfl, (congrArg nI (e0.symm.trans (wdP_e ha_10 ((nI_le0 hwd).mp c_11))))⟩ dX6_isWord_38
    · skip
      have hl := (not_congr (nI_le0 hwd)).mp c_11
      refine ek_iln X 1 rfl dX6_isWord_14 ?_
      refine ek_iln X 2 rfl dX6_isWord_15 ?_
      refine ek_bp (v := nI 10) X (by decide) dX6_isWord_16 ?_
      refine ek_Nrem X (by omega) (by omega) (by omega) dX6_isWord_18 ?_
      refine ek_Zeq X (by omega) 26 (by decide) dX6_isWord_19 (fun c_19 => ?_) (fun c_19 => ?_)
      · skip
        refine ek_ic (v := nI 0) X (by decide) dX6_isWord_26 ?_
        refine ek_and X dX6_isWord_27 ?_
        refine ek_top (v' := nI (s0 &&& 0)) (fa_and _ _) ?_
        refine ek_isn (lv' := [(1, .int (nI (s0 &&& 0))), (0, .int (nI k)), (2, .int (nI left))]) X (by decide) rfl dX6_isWord_28 ?_
        refine ek_iln X 2 rfl dX6_isWord_29 ?_
        refine ek_bp (v := nI 10) X (by decide) dX6_isWord_30 ?_
        refine ek_Ndiv X (by omega) (by omega) (by omega) dX6_isWord_32 ?_
        refine ek_isn (lv' := [(2, .int (nI (left / 10))), (1, .int (nI (s0 &&& 0))), (0, .int (nI k))]) X (by decide) rfl dX6_isWord_33 ?_
        refine ek_goto X 10 (by decide) dX6_isWord_34 ?_
        refine ek_re [2, 1, 0] rfl ?_
        exact ih_10 (s0 &&& 0, left / 10) (show wdP k (s0 &&& 0) (left / 10) from (by have hl := (not_congr (nI_le0 hwd)).mp c_11; first | exact wdP_s ha_10 (by omega) (by rw [Nat.and_one_is_mod]; omega) (by rw [Nat.and_one_is_mod]; omega) | exact wdP_s ha_10 (by omega) (by rw [Nat.and_zero]; omega) (by rw [Nat.and_zero]; omega))) (Nat.div_lt_self (by have hl := (not_congr (nI_le0 hwd)).mp c_11; omega) (by omega))
      · skip
        refine ek_ic (v := nI 1) X (by decide) dX6_isWord_22 ?_
        refine ek_goto X 27 (by decide) dX6_isWord_23 ?_
        refine ek_and X dX6_isWord_27 ?_
        refine ek_top (v' := nI (s0 &&& 1)) (fa_and _ _) ?_
        refine ek_isn (lv' := [(1, .int (nI (s0 &&& 1))), (0, .int (nI k)), (2, .int (nI left))]) X (by decide) rfl dX6_isWord_28 ?_
        refine ek_iln X 2 rfl dX6_isWord_29 ?_
        refine ek_bp (v := nI 10) X (by decide) dX6_isWord_30 ?_
        refine ek_Ndiv X (by omega) (by omega) (by omega) dX6_isWord_32 ?_
        refine ek_isn (lv' := [(2, .int (nI (left / 10))), (1, .int (nI (s0 &&& 1))), (0, .int (nI k))]) X (by decide) rfl dX6_isWord_33 ?_
        refine ek_goto X 10 (by decide) dX6_isWord_34 ?_
        refine ek_re [2, 1, 0] rfl ?_
        exact ih_10 (s0 &&& 1, left / 10) (show wdP k (s0 &&& 1) (left / 10) from (by have hl := (not_congr (nI_le0 hwd)).mp c_11; first | exact wdP_s ha_10 (by omega) (by rw [Nat.and_one_is_mod]; omega) (by rw [Nat.and_one_is_mod]; omega) | exact wdP_s ha_10 (by omega) (by rw [Nat.and_zero]; omega) (by rw [Nat.and_zero]; omega))) (Nat.div_lt_self (by have hl := (not_congr (nI_le0 hwd)).mp c_11; omega) (by omega))

theorem hin_X6_setWater_X6 : ∀ x ∈ wsX60, x ∈ wsX6_setWater := fun x h => List.mem_cons_of_mem _ (List.mem_append_right _ h)
abbrev rm_X6_setWater : Room := { frames := 2, cells := 0, slots := 0, locals := 34 }
set_option maxHeartbeats 4000000 in
set_option maxRecDepth 100000 in
theorem c_X6_setWater (l : Launch) (D : va_G) (cI cJ cR : ClassId) (ad : Nat → Nat) (m : MdlT) (hM : mOk m) (k : Nat) (hk : k < 4294967296) : ek_M (S := Unit) l yX6_setWater wsX6_setWater rm_X6_setWater D (tyW cI cJ cR) nestW [.ref (ad 50), .int (nI k)] (wM ad cI m) (fun r9 _ => ∃ v : Int32, r9 = some (.int v) ∧ v = nI (if k ≤ 30 then mW m else 0)) (fun _ => wM ad cI (mSetW k m)) := by
  refine ek_M.of (cc := cX6_setWater) (maxL := 3) (ret := (some .int)) (by decide) rfl (Nat.le_of_ble_eq_true rfl) ?_
  intro p9 e9 s9 m9 args9 below9 meth9 c9 A X hin
  obtain ⟨⟨mC1, mC2⟩, mPs, mWs, mEs, mTs, mSs, mRs, mTl⟩ := id hM
  refine ek_castL (lv' := [(0, .ref (ad 50)), (1, .int (nI k))]) rfl ?_
  refine ek_aln X 0 rfl dX6_setWater_0 ?_
  refine ek_ic (v := nI 0) X (by decide) dX6_setWater_1 ?_
  refine ek_put (w' := wM ad cI (0, mC m, mP m, mW m, mEar m, mSaid m, mRo m, mTu m)) X hin_X6_setWater_X6 tyX6 tyX6_ok nmX6 0 rfl rfl 0 (by decide) (List.mem_of_getElem? (i := 1) rfl) rfl rfl rfl rfl (Nat.le_of_ble_eq_true rfl) rfl dX6_setWater_2 ?_
  refine ek_iln X 1 rfl dX6_setWater_5 ?_
  refine ek_ic (v := nI 0) X (by decide) dX6_setWater_6 ?_
  refine ek_bp (v := nI 30) X (by decide) dX6_setWater_7 ?_
  refine ek_doRi (ek_runS (As := [.int (nI k), .int (nI 0), .int (nI 30)]) (rest := []) X (c_X6_isInN l D cI cJ cR k 0 30 (by omega) (by omega) (by omega)) gX6_setWater_X6_isIn rfl hd_X6_isIn ⟨Nat.le_of_ble_eq_true rfl, Nat.le_of_ble_eq_true rfl⟩ ⟨Nat.le_of_ble_eq_true rfl, Nat.le_of_ble_eq_true rfl⟩ [] rfl (by decide) (Nat.le_of_ble_eq_true rfl) dX6_setWater_9) (fun v_9 hv_9 => ?_)
  subst hv_9
  by_cases c_9 : 0 ≤ k ∧ k ≤ 30
  · refine ek_top (v' := nI 1) (congrArg nI (if_pos c_9)) ?_
    refine ek_Zne X (by omega) 21 (by decide) dX6_setWater_12 (fun _ => ?_) (fun h => absurd h (by omega))
    refine ek_aln X 0 rfl dX6_setWater_21 ?_
    refine ek_get X hin_X6_setWater_X6 0 rfl rfl 3 (by decide) (List.mem_of_getElem? (i := 2) rfl) rfl dX6_setWater_22 ?_
    refine ek_top (v' := nI (mW m)) rfl ?_
    refine ek_isn (lv' := [(2, .int (nI (mW m))), (0, .ref (ad 50)), (1, .int (nI k))]) X (by decide) rfl dX6_setWater_25 ?_
    refine ek_aln X 1 rfl dX6_setWater_26 ?_
    refine ek_iln X 2 rfl dX6_setWater_27 ?_
    refine ek_put (w' := wM ad cI (0, mC m, mP m, k, mEar m, mSaid m, mRo m, mTu m)) X hin_X6_setWater_X6 tyX6 tyX6_ok nmX6 0 rfl rfl 3 (by decide) (List.mem_of_getElem? (i := 2) rfl) rfl rfl rfl rfl (Nat.le_of_ble_eq_true rfl) rfl dX6_setWater_28 ?_
    refine ek_iln X 0 rfl dX6_setWater_31 ?_
    exact ek_reti X () ⟨_, rfl, (by first | exact (congrArg nI (if_pos (by omega))).symm | exact (congrArg nI (if_neg (by omega))).symm)⟩ (by unfold mSetW; first | (exfalso; omega) | rw [if_pos (by omega)] | rw [if_neg (by omega)] | rw [if_pos (by omega), if_pos (by omega)] | rw [if_pos (by omega), if_neg (by omega)]) dX6_setWater_32
  · refine ek_top (v' := nI 0) (congrArg nI (if_neg c_9)) ?_
    refine ek_Zne X (by omega) 21 (by decide) dX6_setWater_12 (fun h => absurd h (by omega)) (fun _ => ?_)
    refine ek_aln X 0 rfl dX6_setWater_15 ?_
    refine ek_ic (v := nI 1) X (by decide) dX6_setWater_16 ?_
    refine ek_doWi X (ek_runV (As := [.int (nI 1)]) (rest := []) X (c_X6_no l D cI cJ cR ad ((0, mC m, mP m, mW m, mEar m, mSaid m, mRo m, mTu m)) 1) gX6_setWater_X6_no rfl hdV_X6_no ⟨Nat.le_of_ble_eq_true rfl, Nat.le_of_ble_eq_true rfl⟩ ⟨Nat.le_of_ble_eq_true rfl, Nat.le_of_ble_eq_true rfl⟩ [0, 1, 2] rfl (by decide) 0 6 rfl rfl (Nat.le_of_ble_eq_true rfl) dX6_setWater_17) [0, 1, 2] [] rfl rfl (by decide) (by decide) (fun _ => wM ad cI (1, mC m, mP m, mW m, mEar m, mSaid m, mRo m, mTu m)) [0, 1, 2] (by decide) (fun _ => rfl) (fun v_17 u_17 hv_17 => ?_)
    subst hv_17
    exact ek_reti X () ⟨_, rfl, (by first | exact (congrArg nI (if_pos (by omega))).symm | exact (congrArg nI (if_neg (by omega))).symm)⟩ (by unfold mSetW; first | (exfalso; omega) | rw [if_pos (by omega)] | rw [if_neg (by omega)] | rw [if_pos (by omega), if_pos (by omega)] | rw [if_pos (by omega), if_neg (by omega)]) dX6_setWater_20

theorem hin_X6_setEar_X6 : ∀ x ∈ wsX60, x ∈ wsX6_setEar := fun x h => List.mem_cons_of_mem _ (List.mem_append_right _ h)
abbrev rm_X6_setEar : Room := { frames := 2, cells := 0, slots := 0, locals := 34 }
set_option maxHeartbeats 4000000 in
set_option maxRecDepth 100000 in
theorem c_X6_setEar (l : Launch) (D : va_G) (cI cJ cR : ClassId) (ad : Nat → Nat) (m : MdlT) (hM : mOk m) (k : Nat) (hk : k < 4294967296) : ek_M (S := Unit) l yX6_setEar wsX6_setEar rm_X6_setEar D (tyW cI cJ cR) nestW [.ref (ad 50), .int (nI k)] (wM ad cI m) (fun r9 _ => ∃ v : Int32, r9 = some (.int v) ∧ v = nI (if 1 ≤ k ∧ k ≤ 50 then mEar m else 0)) (fun _ => wM ad cI (mSetE k m)) := by
  refine ek_M.of (cc := cX6_setEar) (maxL := 3) (ret := (some .int)) (by decide) rfl (Nat.le_of_ble_eq_true rfl) ?_
  intro p9 e9 s9 m9 args9 below9 meth9 c9 A X hin
  obtain ⟨⟨mC1, mC2⟩, mPs, mWs, mEs, mTs, mSs, mRs, mTl⟩ := id hM
  refine ek_castL (lv' := [(0, .ref (ad 50)), (1, .int (nI k))]) rfl ?_
  refine ek_aln X 0 rfl dX6_setEar_0 ?_
  refine ek_ic (v := nI 0) X (by decide) dX6_setEar_1 ?_
  refine ek_put (w' := wM ad cI (0, mC m, mP m, mW m, mEar m, mSaid m, mRo m, mTu m)) X hin_X6_setEar_X6 tyX6 tyX6_ok nmX6 0 rfl rfl 0 (by decide) (List.mem_of_getElem? (i := 1) rfl) rfl rfl rfl rfl (Nat.le_of_ble_eq_true rfl) rfl dX6_setEar_2 ?_
  refine ek_iln X 1 rfl dX6_setEar_5 ?_
  refine ek_ic (v := nI 1) X (by decide) dX6_setEar_6 ?_
  refine ek_bp (v := nI 50) X (by decide) dX6_setEar_7 ?_
  refine ek_doRi (ek_runS (As := [.int (nI k), .int (nI 1), .int (nI 50)]) (rest := []) X (c_X6_isInN l D cI cJ cR k 1 50 (by omega) (by omega) (by omega)) gX6_setEar_X6_isIn rfl hd_X6_isIn ⟨Nat.le_of_ble_eq_true rfl, Nat.le_of_ble_eq_true rfl⟩ ⟨Nat.le_of_ble_eq_true rfl, Nat.le_of_ble_eq_true rfl⟩ [] rfl (by decide) (Nat.le_of_ble_eq_true rfl) dX6_setEar_9) (fun v_9 hv_9 => ?_)
  subst hv_9
  by_cases c_9 : 1 ≤ k ∧ k ≤ 50
  · refine ek_top (v' := nI 1) (congrArg nI (if_pos c_9)) ?_
    refine ek_Zne X (by omega) 21 (by decide) dX6_setEar_12 (fun _ => ?_) (fun h => absurd h (by omega))
    refine ek_aln X 0 rfl dX6_setEar_21 ?_
    refine ek_get X hin_X6_setEar_X6 0 rfl rfl 4 (by decide) (List.mem_of_getElem? (i := 2) rfl) rfl dX6_setEar_22 ?_
    refine ek_top (v' := nI (mEar m)) rfl ?_
    refine ek_isn (lv' := [(2, .int (nI (mEar m))), (0, .ref (ad 50)), (1, .int (nI k))]) X (by decide) rfl dX6_setEar_25 ?_
    refine ek_aln X 1 rfl dX6_setEar_26 ?_
    refine ek_iln X 2 rfl dX6_setEar_27 ?_
    refine ek_put (w' := wM ad cI (0, mC m, mP m, mW m, k, mSaid m, mRo m, mTu m)) X hin_X6_setEar_X6 tyX6 tyX6_ok nmX6 0 rfl rfl 4 (by decide) (List.mem_of_getElem? (i := 2) rfl) rfl rfl rfl rfl (Nat.le_of_ble_eq_true rfl) rfl dX6_setEar_28 ?_
    refine ek_iln X 0 rfl dX6_setEar_31 ?_
    exact ek_reti X () ⟨_, rfl, (by first | exact (congrArg nI (if_pos (by omega))).symm | exact (congrArg nI (if_neg (by omega))).symm)⟩ (by unfold mSetE; first | (exfalso; omega) | rw [if_pos (by omega)] | rw [if_neg (by omega)] | rw [if_pos (by omega), if_pos (by omega)] | rw [if_pos (by omega), if_neg (by omega)]) dX6_setEar_32
  · refine ek_top (v' := nI 0) (congrArg nI (if_neg c_9)) ?_
    refine ek_Zne X (by omega) 21 (by decide) dX6_setEar_12 (fun h => absurd h (by omega)) (fun _ => ?_)
    refine ek_aln X 0 rfl dX6_setEar_15 ?_
    refine ek_ic (v := nI 1) X (by decide) dX6_setEar_16 ?_
    refine ek_doWi X (ek_runV (As := [.int (nI 1)]) (rest := []) X (c_X6_no l D cI cJ cR ad ((0, mC m, mP m, mW m, mEar m, mSaid m, mRo m, mTu m)) 1) gX6_setEar_X6_no rfl hdV_X6_no ⟨Nat.le_of_ble_eq_true rfl, Nat.le_of_ble_eq_true rfl⟩ ⟨Nat.le_of_ble_eq_true rfl, Nat.le_of_ble_eq_true rfl⟩ [0, 1, 2] rfl (by decide) 0 6 rfl rfl (Nat.le_of_ble_eq_true rfl) dX6_setEar_17) [0, 1, 2] [] rfl rfl (by decide) (by decide) (fun _ => wM ad cI (1, mC m, mP m, mW m, mEar m, mSaid m, mRo m, mTu m)) [0, 1, 2] (by decide) (fun _ => rfl) (fun v_17 u_17 hv_17 => ?_)
    subst hv_17
    exact ek_reti X () ⟨_, rfl, (by first | exact (congrArg nI (if_pos (by omega))).symm | exact (congrArg nI (if_neg (by omega))).symm)⟩ (by unfold mSetE; first | (exfalso; omega) | rw [if_pos (by omega)] | rw [if_neg (by omega)] | rw [if_pos (by omega), if_pos (by omega)] | rw [if_pos (by omega), if_neg (by omega)]) dX6_setEar_20

theorem hin_X6_setBats_X6 : ∀ x ∈ wsX60, x ∈ wsX6_setBats := fun x h => List.mem_cons_of_mem _ (List.mem_append_right _ h)
abbrev rm_X6_setBats : Room := { frames := 3, cells := 0, slots := 0, locals := 55 }
set_option maxHeartbeats 4000000 in
set_option maxRecDepth 100000 in
theorem c_X6_setBats (l : Launch) (D : va_G) (cI cJ cR : ClassId) (ad : Nat → Nat) (m : MdlT) (hM : mOk m) (c b : Nat) (hc : c < 4294967296) (hb : b < 4294967296) : ek_M (S := Unit) l yX6_setBats wsX6_setBats rm_X6_setBats D (tyW cI cJ cR) nestW [.ref (ad 50), .int (nI c), .int (nI b)] (wM ad cI m) (fun r9 _ => ∃ v : Int32, r9 = some (.int v) ∧ v = nI (if c < mC m ∧ b ≤ 20 then mRo m (5 * c + 2) else 0)) (fun _ => wM ad cI (mSetB c b m)) := by
  refine ek_M.of (cc := cX6_setBats) (maxL := 4) (ret := (some .int)) (by decide) rfl (Nat.le_of_ble_eq_true rfl) ?_
  intro p9 e9 s9 m9 args9 below9 meth9 c9 A X hin
  obtain ⟨⟨mC1, mC2⟩, mPs, mWs, mEs, mTs, mSs, mRs, mTl⟩ := id hM
  refine ek_castL (lv' := [(0, .ref (ad 50)), (1, .int (nI c)), (2, .int (nI b))]) rfl ?_
  refine ek_aln X 0 rfl dX6_setBats_0 ?_
  refine ek_ic (v := nI 0) X (by decide) dX6_setBats_1 ?_
  refine ek_put (w' := wM ad cI (0, mC m, mP m, mW m, mEar m, mSaid m, mRo m, mTu m)) X hin_X6_setBats_X6 tyX6 tyX6_ok nmX6 0 rfl rfl 0 (by decide) (List.mem_of_getElem? (i := 1) rfl) rfl rfl rfl rfl (Nat.le_of_ble_eq_true rfl) rfl dX6_setBats_2 ?_
  refine ek_aln X 0 rfl dX6_setBats_5 ?_
  refine ek_iln X 1 rfl dX6_setBats_6 ?_
  refine ek_doRi (ek_runV (As := [.int (nI c)]) (rest := []) X (c_X6_isChamberN l D cI cJ cR ad ((0, mC m, mP m, mW m, mEar m, mSaid m, mRo m, mTu m)) (mOk_thr hM) c (by omega)) gX6_setBats_X6_isChamber rfl hdV_X6_isChamber ⟨Nat.le_of_ble_eq_true rfl, Nat.le_of_ble_eq_true rfl⟩ ⟨Nat.le_of_ble_eq_true rfl, Nat.le_of_ble_eq_true rfl⟩ [0, 1, 2] rfl (by decide) 0 6 rfl rfl (Nat.le_of_ble_eq_true rfl) dX6_setBats_7) (fun v_7 hv_7 => ?_)
  subst hv_7
  by_cases c_7 : c < mC m
  · refine ek_top (v' := nI 1) (congrArg nI (if_pos c_7)) ?_
    refine ek_Zne X (by omega) 19 (by decide) dX6_setBats_10 (fun _ => ?_) (fun h => absurd h (by omega))
    refine ek_iln X 2 rfl dX6_setBats_19 ?_
    refine ek_ic (v := nI 0) X (by decide) dX6_setBats_20 ?_
    refine ek_bp (v := nI 20) X (by decide) dX6_setBats_21 ?_
    refine ek_doRi (ek_runS (As := [.int (nI b), .int (nI 0), .int (nI 20)]) (rest := []) X (c_X6_isInN l D cI cJ cR b 0 20 (by omega) (by omega) (by omega)) gX6_setBats_X6_isIn rfl hd_X6_isIn ⟨Nat.le_of_ble_eq_true rfl, Nat.le_of_ble_eq_true rfl⟩ ⟨Nat.le_of_ble_eq_true rfl, Nat.le_of_ble_eq_true rfl⟩ [] rfl (by decide) (Nat.le_of_ble_eq_true rfl) dX6_setBats_23) (fun v_23 hv_23 => ?_)
    subst hv_23
    by_cases c_23 : 0 ≤ b ∧ b ≤ 20
    · refine ek_top (v' := nI 1) (congrArg nI (if_pos c_23)) ?_
      refine ek_Zne X (by omega) 35 (by decide) dX6_setBats_26 (fun _ => ?_) (fun h => absurd h (by omega))
      refine ek_aln X 0 rfl dX6_setBats_35 ?_
      refine ek_get X hin_X6_setBats_X6 0 rfl rfl 6 (by decide) (List.mem_of_getElem? (i := 2) rfl) rfl dX6_setBats_36 ?_
      refine ek_ic (v := nI 5) X (by decide) dX6_setBats_39 ?_
      refine ek_iln X 1 rfl dX6_setBats_40 ?_
      refine ek_Nmul X dX6_setBats_41 ?_
      refine ek_ic (v := nI 2) X (by decide) dX6_setBats_42 ?_
      refine ek_Nadd X dX6_setBats_43 ?_
      refine ek_ald X 1 0 rfl rfl (by omega) (by omega) dX6_setBats_44 ?_
      refine ek_top (v' := nI ((mRo m) ((5 * c) + 2))) rfl ?_
      have b1_44 := mRs ((5 * c) + 2)
      refine ek_isn (lv' := [(3, .int (nI ((mRo m) ((5 * c) + 2)))), (0, .ref (ad 50)), (1, .int (nI c)), (2, .int (nI b))]) X (by decide) rfl dX6_setBats_45 ?_
      refine ek_aln X 1 rfl dX6_setBats_46 ?_
      refine ek_get X hin_X6_setBats_X6 0 rfl rfl 6 (by decide) (List.mem_of_getElem? (i := 2) rfl) rfl dX6_setBats_47 ?_
      refine ek_ic (v := nI 5) X (by decide) dX6_setBats_50 ?_
      refine ek_iln X 2 rfl dX6_setBats_51 ?_
      refine ek_Nmul X dX6_setBats_52 ?_
      refine ek_ic (v := nI 2) X (by decide) dX6_setBats_53 ?_
      refine ek_Nadd X dX6_setBats_54 ?_
      refine ek_iln X 3 rfl dX6_setBats_55 ?_
      refine ek_Nast (w' := wM ad cI (0, mC m, mP m, mW m, mEar m, mSaid m, eN (mRo m) ((5 * c) + 2) b, mTu m)) X 1 0 rfl rfl (by omega) (by omega) rfl dX6_setBats_56 ?_
      refine ek_iln X 0 rfl dX6_setBats_57 ?_
      exact ek_reti X () ⟨_, rfl, (by first | exact (congrArg nI (if_pos (by omega))).symm | exact (congrArg nI (if_neg (by omega))).symm)⟩ (by unfold mSetB; first | (exfalso; omega) | rw [if_neg (show ¬ c < mC m by omega)] | rw [if_pos (show c < mC m by omega), if_pos (show b ≤ 20 by omega)] | rw [if_pos (show c < mC m by omega), if_neg (show ¬ b ≤ 20 by omega)]) dX6_setBats_58
    · refine ek_top (v' := nI 0) (congrArg nI (if_neg c_23)) ?_
      refine ek_Zne X (by omega) 35 (by decide) dX6_setBats_26 (fun h => absurd h (by omega)) (fun _ => ?_)
      refine ek_aln X 0 rfl dX6_setBats_29 ?_
      refine ek_ic (v := nI 2) X (by decide) dX6_setBats_30 ?_
      refine ek_doWi X (ek_runV (As := [.int (nI 2)]) (rest := []) X (c_X6_no l D cI cJ cR ad ((0, mC m, mP m, mW m, mEar m, mSaid m, mRo m, mTu m)) 2) gX6_setBats_X6_no rfl hdV_X6_no ⟨Nat.le_of_ble_eq_true rfl, Nat.le_of_ble_eq_true rfl⟩ ⟨Nat.le_of_ble_eq_true rfl, Nat.le_of_ble_eq_true rfl⟩ [0, 1, 2] rfl (by decide) 0 6 rfl rfl (Nat.le_of_ble_eq_true rfl) dX6_setBats_31) [0, 1, 2] [] rfl rfl (by decide) (by decide) (fun _ => wM ad cI (2, mC m, mP m, mW m, mEar m, mSaid m, mRo m, mTu m)) [0, 1, 2] (by decide) (fun _ => rfl) (fun v_31 u_31 hv_31 => ?_)
      subst hv_31
      exact ek_reti X () ⟨_, rfl, (by first | exact (congrArg nI (if_pos (by omega))).symm | exact (congrArg nI (if_neg (by omega))).symm)⟩ (by unfold mSetB; first | (exfalso; omega) | rw [if_neg (show ¬ c < mC m by omega)] | rw [if_pos (show c < mC m by omega), if_pos (show b ≤ 20 by omega)] | rw [if_pos (show c < mC m by omega), if_neg (show ¬ b ≤ 20 by omega)]) dX6_setBats_34
  · refine ek_top (v' := nI 0) (congrArg nI (if_neg c_7)) ?_
    refine ek_Zne X (by omega) 19 (by decide) dX6_setBats_10 (fun h => absurd h (by omega)) (fun _ => ?_)
    refine ek_aln X 0 rfl dX6_setBats_13 ?_
    refine ek_ic (v := nI 1) X (by decide) dX6_setBats_14 ?_
    refine ek_doWi X (ek_runV (As := [.int (nI 1)]) (rest := []) X (c_X6_no l D cI cJ cR ad ((0, mC m, mP m, mW m, mEar m, mSaid m, mRo m, mTu m)) 1) gX6_setBats_X6_no rfl hdV_X6_no ⟨Nat.le_of_ble_eq_true rfl, Nat.le_of_ble_eq_true rfl⟩ ⟨Nat.le_of_ble_eq_true rfl, Nat.le_of_ble_eq_true rfl⟩ [0, 1, 2] rfl (by decide) 0 6 rfl rfl (Nat.le_of_ble_eq_true rfl) dX6_setBats_15) [0, 1, 2] [] rfl rfl (by decide) (by decide) (fun _ => wM ad cI (1, mC m, mP m, mW m, mEar m, mSaid m, mRo m, mTu m)) [0, 1, 2] (by decide) (fun _ => rfl) (fun v_15 u_15 hv_15 => ?_)
    subst hv_15
    exact ek_reti X () ⟨_, rfl, (by first | exact (congrArg nI (if_pos (by omega))).symm | exact (congrArg nI (if_neg (by omega))).symm)⟩ (by unfold mSetB; first | (exfalso; omega) | rw [if_neg (show ¬ c < mC m by omega)] | rw [if_pos (show c < mC m by omega), if_pos (show b ≤ 20 by omega)] | rw [if_pos (show c < mC m by omega), if_neg (show ¬ b ≤ 20 by omega)]) dX6_setBats_18

theorem hin_X6_setClapper_X6 : ∀ x ∈ wsX60, x ∈ wsX6_setClapper := fun x h => List.mem_cons_of_mem _ (List.mem_append_right _ h)
abbrev rm_X6_setClapper : Room := { frames := 3, cells := 0, slots := 0, locals := 55 }
set_option maxHeartbeats 4000000 in
set_option maxRecDepth 100000 in
theorem c_X6_setClapper (l : Launch) (D : va_G) (cI cJ cR : ClassId) (ad : Nat → Nat) (m : MdlT) (hM : mOk m) (c y d : Nat) (hc : c < 4294967296) (hy : y < 4294967296) (hd : d < 4294967296) : ek_M (S := Unit) l yX6_setClapper wsX6_setClapper rm_X6_setClapper D (tyW cI cJ cR) nestW [.ref (ad 50), .int (nI c), .int (nI y), .int (nI d)] (wM ad cI m) (fun r9 _ => ∃ v : Int32, r9 = some (.int v) ∧ v = nI (if c < mC m ∧ 0 < c ∧ y ≤ 9 ∧ d ≤ 20 then mRo m (5 * c + 3) else 0)) (fun _ => wM ad cI (mSetC c y d m)) := by
  refine ek_M.of (cc := cX6_setClapper) (maxL := 5) (ret := (some .int)) (by decide) rfl (Nat.le_of_ble_eq_true rfl) ?_
  intro p9 e9 s9 m9 args9 below9 meth9 c9 A X hin
  obtain ⟨⟨mC1, mC2⟩, mPs, mWs, mEs, mTs, mSs, mRs, mTl⟩ := id hM
  refine ek_castL (lv' := [(0, .ref (ad 50)), (1, .int (nI c)), (2, .int (nI y)), (3, .int (nI d))]) rfl ?_
  refine ek_aln X 0 rfl dX6_setClapper_0 ?_
  refine ek_ic (v := nI 0) X (by decide) dX6_setClapper_1 ?_
  refine ek_put (w' := wM ad cI (0, mC m, mP m, mW m, mEar m, mSaid m, mRo m, mTu m)) X hin_X6_setClapper_X6 tyX6 tyX6_ok nmX6 0 rfl rfl 0 (by decide) (List.mem_of_getElem? (i := 1) rfl) rfl rfl rfl rfl (Nat.le_of_ble_eq_true rfl) rfl dX6_setClapper_2 ?_
  refine ek_aln X 0 rfl dX6_setClapper_5 ?_
  refine ek_iln X 1 rfl dX6_setClapper_6 ?_
  refine ek_doRi (ek_runV (As := [.int (nI c)]) (rest := []) X (c_X6_isChamberN l D cI cJ cR ad ((0, mC m, mP m, mW m, mEar m, mSaid m, mRo m, mTu m)) (mOk_thr hM) c (by omega)) gX6_setClapper_X6_isChamber rfl hdV_X6_isChamber ⟨Nat.le_of_ble_eq_true rfl, Nat.le_of_ble_eq_true rfl⟩ ⟨Nat.le_of_ble_eq_true rfl, Nat.le_of_ble_eq_true rfl⟩ [0, 1, 2] rfl (by decide) 0 6 rfl rfl (Nat.le_of_ble_eq_true rfl) dX6_setClapper_7) (fun v_7 hv_7 => ?_)
  subst hv_7
  by_cases c_7 : c < mC m
  · refine ek_top (v' := nI 1) (congrArg nI (if_pos c_7)) ?_
    refine ek_Zne X (by omega) 19 (by decide) dX6_setClapper_10 (fun _ => ?_) (fun h => absurd h (by omega))
    refine ek_iln X 1 rfl dX6_setClapper_19 ?_
    refine ek_Zeq X (by omega) 43 (by decide) dX6_setClapper_20 (fun c_20 => ?_) (fun c_20 => ?_)
    · skip
      refine ek_aln X 0 rfl dX6_setClapper_43 ?_
      refine ek_ic (v := nI 2) X (by decide) dX6_setClapper_44 ?_
      refine ek_doWi X (ek_runV (As := [.int (nI 2)]) (rest := []) X (c_X6_no l D cI cJ cR ad ((0, mC m, mP m, mW m, mEar m, mSaid m, mRo m, mTu m)) 2) gX6_setClapper_X6_no rfl hdV_X6_no ⟨Nat.le_of_ble_eq_true rfl, Nat.le_of_ble_eq_true rfl⟩ ⟨Nat.le_of_ble_eq_true rfl, Nat.le_of_ble_eq_true rfl⟩ [0, 1, 2] rfl (by decide) 0 6 rfl rfl (Nat.le_of_ble_eq_true rfl) dX6_setClapper_45) [0, 1, 2] [] rfl rfl (by decide) (by decide) (fun _ => wM ad cI (2, mC m, mP m, mW m, mEar m, mSaid m, mRo m, mTu m)) [0, 1, 2] (by decide) (fun _ => rfl) (fun v_45 u_45 hv_45 => ?_)
      subst hv_45
      exact ek_reti X () ⟨_, rfl, (by first | exact (congrArg nI (if_pos (by omega))).symm | exact (congrArg nI (if_neg (by omega))).symm)⟩ (by unfold mSetC; first | (exfalso; omega) | rw [if_neg (show ¬ c < mC m by omega)] | rw [if_pos (show c < mC m by omega), if_pos (show 0 < c ∧ y ≤ 9 ∧ d ≤ 20 by omega), if_pos (show y = 0 by omega)] | rw [if_pos (show c < mC m by omega), if_pos (show 0 < c ∧ y ≤ 9 ∧ d ≤ 20 by omega), if_neg (show ¬ y = 0 by omega)] | rw [if_pos (show c < mC m by omega), if_neg (show ¬ (0 < c ∧ y ≤ 9 ∧ d ≤ 20) by omega)]) dX6_setClapper_48
    · skip
      refine ek_iln X 2 rfl dX6_setClapper_23 ?_
      refine ek_ic (v := nI 0) X (by decide) dX6_setClapper_24 ?_
      refine ek_bp (v := nI 9) X (by decide) dX6_setClapper_25 ?_
      refine ek_doRi (ek_runS (As := [.int (nI y), .int (nI 0), .int (nI 9)]) (rest := []) X (c_X6_isInN l D cI cJ cR y 0 9 (by omega) (by omega) (by omega)) gX6_setClapper_X6_isIn rfl hd_X6_isIn ⟨Nat.le_of_ble_eq_true rfl, Nat.le_of_ble_eq_true rfl⟩ ⟨Nat.le_of_ble_eq_true rfl, Nat.le_of_ble_eq_true rfl⟩ [] rfl (by decide) (Nat.le_of_ble_eq_true rfl) dX6_setClapper_27) (fun v_27 hv_27 => ?_)
      subst hv_27
      by_cases c_27 : 0 ≤ y ∧ y ≤ 9
      · refine ek_top (v' := nI 1) (congrArg nI (if_pos c_27)) ?_
        refine ek_Zeq X (by omega) 43 (by decide) dX6_setClapper_30 (fun h => absurd h (by omega)) (fun _ => ?_)
        refine ek_iln X 3 rfl dX6_setClapper_33 ?_
        refine ek_ic (v := nI 0) X (by decide) dX6_setClapper_34 ?_
        refine ek_bp (v := nI 20) X (by decide) dX6_setClapper_35 ?_
        refine ek_doRi (ek_runS (As := [.int (nI d), .int (nI 0), .int (nI 20)]) (rest := []) X (c_X6_isInN l D cI cJ cR d 0 20 (by omega) (by omega) (by omega)) gX6_setClapper_X6_isIn rfl hd_X6_isIn ⟨Nat.le_of_ble_eq_true rfl, Nat.le_of_ble_eq_true rfl⟩ ⟨Nat.le_of_ble_eq_true rfl, Nat.le_of_ble_eq_true rfl⟩ [] rfl (by decide) (Nat.le_of_ble_eq_true rfl) dX6_setClapper_37) (fun v_37 hv_37 => ?_)
        subst hv_37
        by_cases c_37 : 0 ≤ d ∧ d ≤ 20
        · refine ek_top (v' := nI 1) (congrArg nI (if_pos c_37)) ?_
          refine ek_Zne X (by omega) 49 (by decide) dX6_setClapper_40 (fun _ => ?_) (fun h => absurd h (by omega))
          refine ek_aln X 0 rfl dX6_setClapper_49 ?_
          refine ek_get X hin_X6_setClapper_X6 0 rfl rfl 6 (by decide) (List.mem_of_getElem? (i := 2) rfl) rfl dX6_setClapper_50 ?_
          refine ek_ic (v := nI 5) X (by decide) dX6_setClapper_53 ?_
          refine ek_iln X 1 rfl dX6_setClapper_54 ?_
          refine ek_Nmul X dX6_setClapper_55 ?_
          refine ek_ic (v := nI 3) X (by decide) dX6_setClapper_56 ?_
          refine ek_Nadd X dX6_setClapper_57 ?_
          refine ek_ald X 1 0 rfl rfl (by omega) (by omega) dX6_setClapper_58 ?_
          refine ek_top (v' := nI ((mRo m) ((5 * c) + 3))) rfl ?_
          have b1_58 := mRs ((5 * c) + 3)
          refine ek_is (lv' := [(4, .int (nI ((mRo m) ((5 * c) + 3)))), (0, .ref (ad 50)), (1, .int (nI c)), (2, .int (nI y)), (3, .int (nI d))]) X (by decide) rfl dX6_setClapper_59 ?_
          refine ek_aln X 1 rfl dX6_setClapper_61 ?_
          refine ek_get X hin_X6_setClapper_X6 0 rfl rfl 6 (by decide) (List.mem_of_getElem? (i := 2) rfl) rfl dX6_setClapper_62 ?_
          refine ek_ic (v := nI 5) X (by decide) dX6_setClapper_65 ?_
          refine ek_iln X 2 rfl dX6_setClapper_66 ?_
          refine ek_Nmul X dX6_setClapper_67 ?_
          refine ek_ic (v := nI 3) X (by decide) dX6_setClapper_68 ?_
          refine ek_Nadd X dX6_setClapper_69 ?_
          refine ek_iln X 3 rfl dX6_setClapper_70 ?_
          refine ek_Nast (w' := wM ad cI (0, mC m, mP m, mW m, mEar m, mSaid m, eN (mRo m) ((5 * c) + 3) y, mTu m)) X 1 0 rfl rfl (by omega) (by omega) rfl dX6_setClapper_71 ?_
          refine ek_aln X 1 rfl dX6_setClapper_72 ?_
          refine ek_get X hin_X6_setClapper_X6 0 rfl rfl 6 (by decide) (List.mem_of_getElem? (i := 2) rfl) rfl dX6_setClapper_73 ?_
          refine ek_ic (v := nI 5) X (by decide) dX6_setClapper_76 ?_
          refine ek_iln X 2 rfl dX6_setClapper_77 ?_
          refine ek_Nmul X dX6_setClapper_78 ?_
          refine ek_ic (v := nI 4) X (by decide) dX6_setClapper_79 ?_
          refine ek_Nadd X dX6_setClapper_80 ?_
          refine ek_iln X 3 rfl dX6_setClapper_81 ?_
          refine ek_Zne X (by omega) 89 (by decide) dX6_setClapper_82 (fun c_82 => ?_) (fun c_82 => ?_)
          · skip
            refine ek_iln X 4 rfl dX6_setClapper_89 ?_
            refine ek_Nast (w' := wM ad cI (0, mC m, mP m, mW m, mEar m, mSaid m, eN (eN (mRo m) ((5 * c) + 3) y) ((5 * c) + 4) d, mTu m)) X 1 0 rfl rfl (by omega) (by omega) rfl dX6_setClapper_90 ?_
            refine ek_il X 0 rfl dX6_setClapper_91 ?_
            exact ek_reti X () ⟨_, rfl, (by first | exact (congrArg nI (if_pos (by omega))).symm | exact (congrArg nI (if_neg (by omega))).symm)⟩ (by unfold mSetC; first | (exfalso; omega) | rw [if_neg (show ¬ c < mC m by omega)] | rw [if_pos (show c < mC m by omega), if_pos (show 0 < c ∧ y ≤ 9 ∧ d ≤ 20 by omega), if_pos (show y = 0 by omega)] | rw [if_pos (show c < mC m by omega), if_pos (show 0 < c ∧ y ≤ 9 ∧ d ≤ 20 by omega), if_neg (show ¬ y = 0 by omega)] | rw [if_pos (show c < mC m by omega), if_neg (show ¬ (0 < c ∧ y ≤ 9 ∧ d ≤ 20) by omega)]) dX6_setClapper_93
          · skip
            refine ek_ic (v := nI 0) X (by decide) dX6_setClapper_85 ?_
            refine ek_goto X 90 (by decide) dX6_setClapper_86 ?_
            refine ek_Nast (w' := wM ad cI (0, mC m, mP m, mW m, mEar m, mSaid m, eN (eN (mRo m) ((5 * c) + 3) y) ((5 * c) + 4) 0, mTu m)) X 1 0 rfl rfl (by omega) (by omega) rfl dX6_setClapper_90 ?_
            refine ek_il X 0 rfl dX6_setClapper_91 ?_
            exact ek_reti X () ⟨_, rfl, (by first | exact (congrArg nI (if_pos (by omega))).symm | exact (congrArg nI (if_neg (by omega))).symm)⟩ (by unfold mSetC; first | (exfalso; omega) | rw [if_neg (show ¬ c < mC m by omega)] | rw [if_pos (show c < mC m by omega), if_pos (show 0 < c ∧ y ≤ 9 ∧ d ≤ 20 by omega), if_pos (show y = 0 by omega)] | rw [if_pos (show c < mC m by omega), if_pos (show 0 < c ∧ y ≤ 9 ∧ d ≤ 20 by omega), if_neg (show ¬ y = 0 by omega)] | rw [if_pos (show c < mC m by omega), if_neg (show ¬ (0 < c ∧ y ≤ 9 ∧ d ≤ 20) by omega)]) dX6_setClapper_93
        · refine ek_top (v' := nI 0) (congrArg nI (if_neg c_37)) ?_
          refine ek_Zne X (by omega) 49 (by decide) dX6_setClapper_40 (fun h => absurd h (by omega)) (fun _ => ?_)
          refine ek_aln X 0 rfl dX6_setClapper_43 ?_
          refine ek_ic (v := nI 2) X (by decide) dX6_setClapper_44 ?_
          refine ek_doWi X (ek_runV (As := [.int (nI 2)]) (rest := []) X (c_X6_no l D cI cJ cR ad ((0, mC m, mP m, mW m, mEar m, mSaid m, mRo m, mTu m)) 2) gX6_setClapper_X6_no rfl hdV_X6_no ⟨Nat.le_of_ble_eq_true rfl, Nat.le_of_ble_eq_true rfl⟩ ⟨Nat.le_of_ble_eq_true rfl, Nat.le_of_ble_eq_true rfl⟩ [0, 1, 2] rfl (by decide) 0 6 rfl rfl (Nat.le_of_ble_eq_true rfl) dX6_setClapper_45) [0, 1, 2] [] rfl rfl (by decide) (by decide) (fun _ => wM ad cI (2, mC m, mP m, mW m, mEar m, mSaid m, mRo m, mTu m)) [0, 1, 2] (by decide) (fun _ => rfl) (fun v_45 u_45 hv_45 => ?_)
          subst hv_45
          exact ek_reti X () ⟨_, rfl, (by first | exact (congrArg nI (if_pos (by omega))).symm | exact (congrArg nI (if_neg (by omega))).symm)⟩ (by unfold mSetC; first | (exfalso; omega) | rw [if_neg (show ¬ c < mC m by omega)] | rw [if_pos (show c < mC m by omega), if_pos (show 0 < c ∧ y ≤ 9 ∧ d ≤ 20 by omega), if_pos (show y = 0 by omega)] | rw [if_pos (show c < mC m by omega), if_pos (show 0 < c ∧ y ≤ 9 ∧ d ≤ 20 by omega), if_neg (show ¬ y = 0 by omega)] | rw [if_pos (show c < mC m by omega), if_neg (show ¬ (0 < c ∧ y ≤ 9 ∧ d ≤ 20) by omega)]) dX6_setClapper_48
      · refine ek_top (v' := nI 0) (congrArg nI (if_neg c_27)) ?_
        refine ek_Zeq X (by omega) 43 (by decide) dX6_setClapper_30 (fun _ => ?_) (fun h => absurd h (by omega))
        refine ek_aln X 0 rfl dX6_setClapper_43 ?_
        refine ek_ic (v := nI 2) X (by decide) dX6_setClapper_44 ?_
        refine ek_doWi X (ek_runV (As := [.int (nI 2)]) (rest := []) X (c_X6_no l D cI cJ cR ad ((0, mC m, mP m, mW m, mEar m, mSaid m, mRo m, mTu m)) 2) gX6_setClapper_X6_no rfl hdV_X6_no ⟨Nat.le_of_ble_eq_true rfl, Nat.le_of_ble_eq_true rfl⟩ ⟨Nat.le_of_ble_eq_true rfl, Nat.le_of_ble_eq_true rfl⟩ [0, 1, 2] rfl (by decide) 0 6 rfl rfl (Nat.le_of_ble_eq_true rfl) dX6_setClapper_45) [0, 1, 2] [] rfl rfl (by decide) (by decide) (fun _ => wM ad cI (2, mC m, mP m, mW m, mEar m, mSaid m, mRo m, mTu m)) [0, 1, 2] (by decide) (fun _ => rfl) (fun v_45 u_45 hv_45 => ?_)
        subst hv_45
        exact ek_reti X () ⟨_, rfl, (by first | exact (congrArg nI (if_pos (by omega))).symm | exact (congrArg nI (if_neg (by omega))).symm)⟩ (by unfold mSetC; first | (exfalso; omega) | rw [if_neg (show ¬ c < mC m by omega)] | rw [if_pos (show c < mC m by omega), if_pos (show 0 < c ∧ y ≤ 9 ∧ d ≤ 20 by omega), if_pos (show y = 0 by omega)] | rw [if_pos (show c < mC m by omega), if_pos (show 0 < c ∧ y ≤ 9 ∧ d ≤ 20 by omega), if_neg (show ¬ y = 0 by omega)] | rw [if_pos (show c < mC m by omega), if_neg (show ¬ (0 < c ∧ y ≤ 9 ∧ d ≤ 20) by omega)]) dX6_setClapper_48
  · refine ek_top (v' := nI 0) (congrArg nI (if_neg c_7)) ?_
    refine ek_Zne X (by omega) 19 (by decide) dX6_setClapper_10 (fun h => absurd h (by omega)) (fun _ => ?_)
    refine ek_aln X 0 rfl dX6_setClapper_13 ?_
    refine ek_ic (v := nI 1) X (by decide) dX6_setClapper_14 ?_
    refine ek_doWi X (ek_runV (As := [.int (nI 1)]) (rest := []) X (c_X6_no l D cI cJ cR ad ((0, mC m, mP m, mW m, mEar m, mSaid m, mRo m, mTu m)) 1) gX6_setClapper_X6_no rfl hdV_X6_no ⟨Nat.le_of_ble_eq_true rfl, Nat.le_of_ble_eq_true rfl⟩ ⟨Nat.le_of_ble_eq_true rfl, Nat.le_of_ble_eq_true rfl⟩ [0, 1, 2] rfl (by decide) 0 6 rfl rfl (Nat.le_of_ble_eq_true rfl) dX6_setClapper_15) [0, 1, 2] [] rfl rfl (by decide) (by decide) (fun _ => wM ad cI (1, mC m, mP m, mW m, mEar m, mSaid m, mRo m, mTu m)) [0, 1, 2] (by decide) (fun _ => rfl) (fun v_15 u_15 hv_15 => ?_)
    subst hv_15
    exact ek_reti X () ⟨_, rfl, (by first | exact (congrArg nI (if_pos (by omega))).symm | exact (congrArg nI (if_neg (by omega))).symm)⟩ (by unfold mSetC; first | (exfalso; omega) | rw [if_neg (show ¬ c < mC m by omega)] | rw [if_pos (show c < mC m by omega), if_pos (show 0 < c ∧ y ≤ 9 ∧ d ≤ 20 by omega), if_pos (show y = 0 by omega)] | rw [if_pos (show c < mC m by omega), if_pos (show 0 < c ∧ y ≤ 9 ∧ d ≤ 20 by omega), if_neg (show ¬ y = 0 by omega)] | rw [if_pos (show c < mC m by omega), if_neg (show ¬ (0 < c ∧ y ≤ 9 ∧ d ≤ 20) by omega)]) dX6_setClapper_18

theorem hin_X6_chamberTold_X6 : ∀ x ∈ wsX60, x ∈ wsX6_chamberTold := fun x h => List.mem_cons_of_mem _ (List.mem_append_right _ h)
abbrev rm_X6_chamberTold : Room := { frames := 2, cells := 0, slots := 0, locals := 34 }
set_option maxHeartbeats 4000000 in
set_option maxRecDepth 100000 in
theorem c_X6_chamberTold (l : Launch) (D : va_G) (cI cJ cR : ClassId) (ad : Nat → Nat) (m : MdlT) (hM : mOk m) (c w9 : Nat) (hc : c < mC m) (hw : w9 ≤ 6) : ek_R l yX6_chamberTold wsX6_chamberTold rm_X6_chamberTold D (tyW cI cJ cR) nestW [.ref (ad 50), .int (nI c), .int (nI w9)] (wM ad cI m) (fun r9 => ∃ v : Int32, r9 = some (.int v) ∧ v = nI (mTold m c w9)) := by
  refine ek_R.of (cc := cX6_chamberTold) (maxL := 5) (ret := (some .int)) (by decide) rfl (Nat.le_of_ble_eq_true rfl) ?_
  intro p9 e9 s9 m9 args9 below9 meth9 c9 X
  obtain ⟨⟨mC1, mC2⟩, mPs, mWs, mEs, mTs, mSs, mRs, mTl⟩ := id hM
  refine ek_castL (lv' := [(0, .ref (ad 50)), (1, .int (nI c)), (2, .int (nI w9))]) rfl ?_
  refine ek_iln X 2 rfl dX6_chamberTold_0 ?_
  refine ek_ic (v := nI 5) X (by decide) dX6_chamberTold_1 ?_
  refine ek_Nge X (by omega) (by omega) 16 (by decide) dX6_chamberTold_2 (fun c_2 => ?_) (fun c_2 => ?_)
  · skip
    refine ek_ic (v := nI 0) X (by decide) dX6_chamberTold_16 ?_
    refine ek_isn (lv' := [(3, .int (nI 0)), (0, .ref (ad 50)), (1, .int (nI c)), (2, .int (nI w9))]) X (by decide) rfl dX6_chamberTold_17 ?_
    refine ek_ic (v := nI 0) X (by decide) dX6_chamberTold_18 ?_
    refine ek_is (lv' := [(4, .int (nI 0)), (3, .int (nI 0)), (0, .ref (ad 50)), (1, .int (nI c)), (2, .int (nI w9))]) X (by decide) rfl dX6_chamberTold_19 ?_
    refine ek_loopAt (σ := Nat × Nat) (fun zz => (fun (a : Nat) (p : Nat) => p ≤ mP m ∧ a = mCnt m c w9 p) zz.1 zz.2) (fun zz => (fun (a : Nat) (p : Nat) => mP m - p) zz.1 zz.2) (fun zz => (fun (a : Nat) (p : Nat) => wM ad cI m) zz.1 zz.2) (fun zz => (fun (a : Nat) (p : Nat) => [(0, .ref (ad 50)), (1, .int (nI c)), (2, .int (nI w9)), (3, .int (nI a)), (4, .int (nI p))]) zz.1 zz.2) ?_ (0, 0) ⟨Nat.zero_le _, rfl⟩ rfl [2, 3, 4, 1, 0] rfl
    intro zz ha_21 ih_21
    obtain ⟨a, p⟩ := zz
    replace ha_21 : p ≤ mP m ∧ a = mCnt m c w9 p := ha_21
    refine ek_cast (w' := wM ad cI m) rfl ?_
    refine ek_castL (lv' := [(0, .ref (ad 50)), (1, .int (nI c)), (2, .int (nI w9)), (3, .int (nI a)), (4, .int (nI p))]) rfl ?_
    have hcn := mCnt_le m c w9 p
    refine ek_il X 4 rfl dX6_chamberTold_21 ?_
    refine ek_aln X 0 rfl dX6_chamberTold_23 ?_
    refine ek_get X hin_X6_chamberTold_X6 0 rfl rfl 2 (by decide) (List.mem_of_getElem? (i := 2) rfl) rfl dX6_chamberTold_24 ?_
    refine ek_Nge X (by omega) (by omega) 72 (by decide) dX6_chamberTold_27 (fun c_27 => ?_) (fun c_27 => ?_)
    · skip
      refine ek_iln X 3 rfl dX6_chamberTold_72 ?_
      exact ek_retiR X ⟨_, rfl, (by obtain ⟨h1, h2⟩ := ha_21; rw [h2, show p = mP m by omega, show mTold m c w9 = mCnt m c w9 (mP m) from if_neg (by omega)])⟩ dX6_chamberTold_73
    · skip
      refine ek_iln X 3 rfl dX6_chamberTold_30 ?_
      refine ek_aln X 0 rfl dX6_chamberTold_31 ?_
      refine ek_il X 4 rfl dX6_chamberTold_32 ?_
      refine ek_iln X 1 rfl dX6_chamberTold_34 ?_
      refine ek_doRi (ek_runV (As := [.int (nI p), .int (nI c)]) (rest := [.int (nI a)]) X (c_X6_touches l D cI cJ cR ad m hM p c (by omega) (by omega)) gX6_chamberTold_X6_touches rfl hdV_X6_touches ⟨Nat.le_of_ble_eq_true rfl, Nat.le_of_ble_eq_true rfl⟩ ⟨Nat.le_of_ble_eq_true rfl, Nat.le_of_ble_eq_true rfl⟩ [0, 1, 2] rfl (by decide) 0 6 rfl rfl (Nat.le_of_ble_eq_true rfl) dX6_chamberTold_35) (fun v_35 hv_35 => ?_)
      subst hv_35
      by_cases c_35 : mTouch m p c
      · refine ek_top (v' := nI 1) (congrArg nI (if_pos c_35)) ?_
        refine ek_Zeq X (by omega) 63 (by decide) dX6_chamberTold_38 (fun h => absurd h (by omega)) (fun _ => ?_)
        refine ek_iln X 2 rfl dX6_chamberTold_41 ?_
        refine ek_ic (v := nI 5) X (by decide) dX6_chamberTold_42 ?_
        refine ek_Neq X (by omega) (by omega) 59 (by decide) dX6_chamberTold_43 (fun c_43 => ?_) (fun c_43 => ?_)
        · skip
          refine ek_ic (v := nI 1) X (by decide) dX6_chamberTold_59 ?_
          refine ek_goto X 64 (by decide) dX6_chamberTold_60 ?_
          refine ek_Nadd X dX6_chamberTold_64 ?_
          refine ek_isn (lv' := [(3, .int (nI (a + 1))), (0, .ref (ad 50)), (1, .int (nI c)), (2, .int (nI w9)), (4, .int (nI p))]) X (by decide) rfl dX6_chamberTold_65 ?_
          refine ek_Ninc (j := 4) (d := 1) (lv' := [(4, .int (nI (p + 1))), (3, .int (nI (a + 1))), (0, .ref (ad 50)), (1, .int (nI c)), (2, .int (nI w9))]) X rfl (by decide) rfl dX6_chamberTold_66 ?_
          refine ek_goto X 21 (by decide) dX6_chamberTold_69 ?_
          refine ek_re [2, 3, 4, 1, 0] rfl ?_
          exact ih_21 (a + 1, p + 1) (show (p + 1) ≤ mP m ∧ (a + 1) = mCnt m c w9 (p + 1) from (by obtain ⟨h1, h2⟩ := ha_21; refine ⟨by omega, ?_⟩; rw [h2]; show _ = mCnt m c w9 p + (if mTouch m p c ∧ (w9 = 5 ∨ mOpen m p (mW m)) then 1 else 0); first | rw [if_pos ⟨by assumption, Or.inl (by assumption)⟩] | rw [if_pos ⟨by assumption, Or.inr (by assumption)⟩] | (rw [if_neg (fun h => by have g1 := h.1; have g2 := h.2; rcases g2 with g2 | g2 <;> first | omega | contradiction)]))) (by show mP m - (p + 1) < mP m - p; omega)
        · skip
          refine ek_aln X 0 rfl dX6_chamberTold_46 ?_
          refine ek_il X 4 rfl dX6_chamberTold_47 ?_
          refine ek_aln X 0 rfl dX6_chamberTold_49 ?_
          refine ek_get X hin_X6_chamberTold_X6 0 rfl rfl 3 (by decide) (List.mem_of_getElem? (i := 3) rfl) rfl dX6_chamberTold_50 ?_
          refine ek_doRi (ek_runV (As := [.int (nI p), .int (nI (mW m))]) (rest := [.int (nI a)]) X (c_X6_isOpen l D cI cJ cR ad m hM p (mW m) (by omega) (by omega)) gX6_chamberTold_X6_isOpen rfl hdV_X6_isOpen ⟨Nat.le_of_ble_eq_true rfl, Nat.le_of_ble_eq_true rfl⟩ ⟨Nat.le_of_ble_eq_true rfl, Nat.le_of_ble_eq_true rfl⟩ [0, 1, 2] rfl (by decide) 0 6 rfl rfl (Nat.le_of_ble_eq_true rfl) dX6_chamberTold_53) (fun v_53 hv_53 => ?_)
          subst hv_53
          by_cases c_53 : mOpen m p (mW m)
          · refine ek_top (v' := nI 1) (congrArg nI (if_pos c_53)) ?_
            refine ek_Zeq X (by omega) 63 (by decide) dX6_chamberTold_56 (fun h => absurd h (by omega)) (fun _ => ?_)
            refine ek_ic (v := nI 1) X (by decide) dX6_chamberTold_59 ?_
            refine ek_goto X 64 (by decide) dX6_chamberTold_60 ?_
            refine ek_Nadd X dX6_chamberTold_64 ?_
            refine ek_isn (lv' := [(3, .int (nI (a + 1))), (0, .ref (ad 50)), (1, .int (nI c)), (2, .int (nI w9)), (4, .int (nI p))]) X (by decide) rfl dX6_chamberTold_65 ?_
            refine ek_Ninc (j := 4) (d := 1) (lv' := [(4, .int (nI (p + 1))), (3, .int (nI (a + 1))), (0, .ref (ad 50)), (1, .int (nI c)), (2, .int (nI w9))]) X rfl (by decide) rfl dX6_chamberTold_66 ?_
            refine ek_goto X 21 (by decide) dX6_chamberTold_69 ?_
            refine ek_re [2, 3, 4, 1, 0] rfl ?_
            exact ih_21 (a + 1, p + 1) (show (p + 1) ≤ mP m ∧ (a + 1) = mCnt m c w9 (p + 1) from (by obtain ⟨h1, h2⟩ := ha_21; refine ⟨by omega, ?_⟩; rw [h2]; show _ = mCnt m c w9 p + (if mTouch m p c ∧ (w9 = 5 ∨ mOpen m p (mW m)) then 1 else 0); first | rw [if_pos ⟨by assumption, Or.inl (by assumption)⟩] | rw [if_pos ⟨by assumption, Or.inr (by assumption)⟩] | (rw [if_neg (fun h => by have g1 := h.1; have g2 := h.2; rcases g2 with g2 | g2 <;> first | omega | contradiction)]))) (by show mP m - (p + 1) < mP m - p; omega)
          · refine ek_top (v' := nI 0) (congrArg nI (if_neg c_53)) ?_
            refine ek_Zeq X (by omega) 63 (by decide) dX6_chamberTold_56 (fun _ => ?_) (fun h => absurd h (by omega))
            refine ek_ic (v := nI 0) X (by decide) dX6_chamberTold_63 ?_
            refine ek_Nadd X dX6_chamberTold_64 ?_
            refine ek_isn (lv' := [(3, .int (nI (a + 0))), (0, .ref (ad 50)), (1, .int (nI c)), (2, .int (nI w9)), (4, .int (nI p))]) X (by decide) rfl dX6_chamberTold_65 ?_
            refine ek_Ninc (j := 4) (d := 1) (lv' := [(4, .int (nI (p + 1))), (3, .int (nI (a + 0))), (0, .ref (ad 50)), (1, .int (nI c)), (2, .int (nI w9))]) X rfl (by decide) rfl dX6_chamberTold_66 ?_
            refine ek_goto X 21 (by decide) dX6_chamberTold_69 ?_
            refine ek_re [2, 3, 4, 1, 0] rfl ?_
            exact ih_21 (a + 0, p + 1) (show (p + 1) ≤ mP m ∧ (a + 0) = mCnt m c w9 (p + 1) from (by obtain ⟨h1, h2⟩ := ha_21; refine ⟨by omega, ?_⟩; rw [h2]; show _ = mCnt m c w9 p + (if mTouch m p c ∧ (w9 = 5 ∨ mOpen m p (mW m)) then 1 else 0); first | rw [if_pos ⟨by assumption, Or.inl (by assumption)⟩] | rw [if_pos ⟨by assumption, Or.inr (by assumption)⟩] | (rw [if_neg (fun h => by have g1 := h.1; have g2 := h.2; rcases g2 with g2 | g2 <;> first | omega | contradiction)]))) (by show mP m - (p + 1) < mP m - p; omega)
      · refine ek_top (v' := nI 0) (congrArg nI (if_neg c_35)) ?_
        refine ek_Zeq X (by omega) 63 (by decide) dX6_chamberTold_38 (fun _ => ?_) (fun h => absurd h (by omega))
        refine ek_ic (v := nI 0) X (by decide) dX6_chamberTold_63 ?_
        refine ek_Nadd X dX6_chamberTold_64 ?_
        refine ek_isn (lv' := [(3, .int (nI (a + 0))), (0, .ref (ad 50)), (1, .int (nI c)), (2, .int (nI w9)), (4, .int (nI p))]) X (by decide) rfl dX6_chamberTold_65 ?_
        refine ek_Ninc (j := 4) (d := 1) (lv' := [(4, .int (nI (p + 1))), (3, .int (nI (a + 0))), (0, .ref (ad 50)), (1, .int (nI c)), (2, .int (nI w9))]) X rfl (by decide) rfl dX6_chamberTold_66 ?_
        refine ek_goto X 21 (by decide) dX6_chamberTold_69 ?_
        refine ek_re [2, 3, 4, 1, 0] rfl ?_
        exact ih_21 (a + 0, p + 1) (show (p + 1) ≤ mP m ∧ (a + 0) = mCnt m c w9 (p + 1) from (by obtain ⟨h1, h2⟩ := ha_21; refine ⟨by omega, ?_⟩; rw [h2]; show _ = mCnt m c w9 p + (if mTouch m p c ∧ (w9 = 5 ∨ mOpen m p (mW m)) then 1 else 0); first | rw [if_pos ⟨by assumption, Or.inl (by assumption)⟩] | rw [if_pos ⟨by assumption, Or.inr (by assumption)⟩] | (rw [if_neg (fun h => by have g1 := h.1; have g2 := h.2; rcases g2 with g2 | g2 <;> first | omega | contradiction)]))) (by show mP m - (p + 1) < mP m - p; omega)
  · skip
    refine ek_aln X 0 rfl dX6_chamberTold_5 ?_
    refine ek_get X hin_X6_chamberTold_X6 0 rfl rfl 6 (by decide) (List.mem_of_getElem? (i := 1) rfl) rfl dX6_chamberTold_6 ?_
    refine ek_ic (v := nI 5) X (by decide) dX6_chamberTold_9 ?_
    refine ek_iln X 1 rfl dX6_chamberTold_10 ?_
    refine ek_Nmul X dX6_chamberTold_11 ?_
    refine ek_iln X 2 rfl dX6_chamberTold_12 ?_
    refine ek_Nadd X dX6_chamberTold_13 ?_
    refine ek_ald X 1 0 rfl rfl (by omega) (by omega) dX6_chamberTold_14 ?_
    have b1_14 := mRs ((5 * c) + w9)
    exact ek_retiR X ⟨_, rfl, (by rw [show mTold m c w9 = mRo m (5 * c + w9) from if_pos (by omega)])⟩ dX6_chamberTold_15

theorem hin_X6_passageTold_X6 : ∀ x ∈ wsX60, x ∈ wsX6_passageTold := fun x h => List.mem_cons_of_mem _ (List.mem_append_right _ h)
abbrev rm_X6_passageTold : Room := { frames := 2, cells := 0, slots := 0, locals := 34 }
set_option maxHeartbeats 4000000 in
set_option maxRecDepth 100000 in
theorem c_X6_passageTold (l : Launch) (D : va_G) (cI cJ cR : ClassId) (ad : Nat → Nat) (m : MdlT) (hM : mOk m) (i w9 : Nat) (hi : i < mP m) (hw : w9 ≤ 4) : ek_R l yX6_passageTold wsX6_passageTold rm_X6_passageTold D (tyW cI cJ cR) nestW [.ref (ad 50), .int (nI i), .int (nI w9)] (wM ad cI m) (fun r9 => ∃ v : Int32, r9 = some (.int v) ∧ v = nI (mPTold m i w9)) := by
  refine ek_R.of (cc := cX6_passageTold) (maxL := 3) (ret := (some .int)) (by decide) rfl (Nat.le_of_ble_eq_true rfl) ?_
  intro p9 e9 s9 m9 args9 below9 meth9 c9 X
  obtain ⟨⟨mC1, mC2⟩, mPs, mWs, mEs, mTs, mSs, mRs, mTl⟩ := id hM
  refine ek_castL (lv' := [(0, .ref (ad 50)), (1, .int (nI i)), (2, .int (nI w9))]) rfl ?_
  refine ek_iln X 2 rfl dX6_passageTold_0 ?_
  refine ek_ic (v := nI 4) X (by decide) dX6_passageTold_1 ?_
  refine ek_Nge X (by omega) (by omega) 16 (by decide) dX6_passageTold_2 (fun c_2 => ?_) (fun c_2 => ?_)
  · skip
    refine ek_aln X 0 rfl dX6_passageTold_16 ?_
    refine ek_iln X 1 rfl dX6_passageTold_17 ?_
    refine ek_aln X 0 rfl dX6_passageTold_18 ?_
    refine ek_get X hin_X6_passageTold_X6 0 rfl rfl 3 (by decide) (List.mem_of_getElem? (i := 2) rfl) rfl dX6_passageTold_19 ?_
    refine ek_doRi (ek_runV (As := [.int (nI i), .int (nI (mW m))]) (rest := []) X (c_X6_isOpen l D cI cJ cR ad m hM i (mW m) (by omega) (by omega)) gX6_passageTold_X6_isOpen rfl hdV_X6_isOpen ⟨Nat.le_of_ble_eq_true rfl, Nat.le_of_ble_eq_true rfl⟩ ⟨Nat.le_of_ble_eq_true rfl, Nat.le_of_ble_eq_true rfl⟩ [0, 1, 2] rfl (by decide) 0 6 rfl rfl (Nat.le_of_ble_eq_true rfl) dX6_passageTold_22) (fun v_22 hv_22 => ?_)
    subst hv_22
    by_cases c_22 : mOpen m i (mW m)
    · refine ek_top (v' := nI 1) (congrArg nI (if_pos c_22)) ?_
      refine ek_Zeq X (by omega) 32 (by decide) dX6_passageTold_25 (fun h => absurd h (by omega)) (fun _ => ?_)
      refine ek_ic (v := nI 1) X (by decide) dX6_passageTold_28 ?_
      refine ek_goto X 33 (by decide) dX6_passageTold_29 ?_
      exact ek_retiR X ⟨_, rfl, (by unfold mPTold; first | rw [if_pos (show w9 < 4 by omega)] | rw [if_neg (show ¬ w9 < 4 by omega), if_pos (by assumption)] | rw [if_neg (show ¬ w9 < 4 by omega), if_neg (by assumption)])⟩ dX6_passageTold_33
    · refine ek_top (v' := nI 0) (congrArg nI (if_neg c_22)) ?_
      refine ek_Zeq X (by omega) 32 (by decide) dX6_passageTold_25 (fun _ => ?_) (fun h => absurd h (by omega))
      refine ek_ic (v := nI 0) X (by decide) dX6_passageTold_32 ?_
      exact ek_retiR X ⟨_, rfl, (by unfold mPTold; first | rw [if_pos (show w9 < 4 by omega)] | rw [if_neg (show ¬ w9 < 4 by omega), if_pos (by assumption)] | rw [if_neg (show ¬ w9 < 4 by omega), if_neg (by assumption)])⟩ dX6_passageTold_33
  · skip
    refine ek_aln X 0 rfl dX6_passageTold_5 ?_
    refine ek_get X hin_X6_passageTold_X6 0 rfl rfl 7 (by decide) (List.mem_of_getElem? (i := 1) rfl) rfl dX6_passageTold_6 ?_
    refine ek_ic (v := nI 4) X (by decide) dX6_passageTold_9 ?_
    refine ek_iln X 1 rfl dX6_passageTold_10 ?_
    refine ek_Nmul X dX6_passageTold_11 ?_
    refine ek_iln X 2 rfl dX6_passageTold_12 ?_
    refine ek_Nadd X dX6_passageTold_13 ?_
    refine ek_ald X 2 0 rfl rfl (by omega) (by omega) dX6_passageTold_14 ?_
    have b1_14 := mTl ((4 * i) + w9)
    exact ek_retiR X ⟨_, rfl, (by unfold mPTold; first | rw [if_pos (show w9 < 4 by omega)] | rw [if_neg (show ¬ w9 < 4 by omega), if_pos (by assumption)] | rw [if_neg (show ¬ w9 < 4 by omega), if_neg (by assumption)])⟩ dX6_passageTold_15

theorem hin_X6_chamber_X6 : ∀ x ∈ wsX60, x ∈ wsX6_chamber := fun x h => List.mem_cons_of_mem _ (List.mem_append_right _ h)
abbrev rm_X6_chamber : Room := { frames := 3, cells := 0, slots := 0, locals := 58 }
set_option maxHeartbeats 4000000 in
set_option maxRecDepth 100000 in
theorem c_X6_chamber (l : Launch) (D : va_G) (cI cJ cR : ClassId) (ad : Nat → Nat) (m : MdlT) (hM : mOk m) (c w9 : Nat) (hc : c < 4294967296) (hw : w9 < 4294967296) : ek_M (S := Unit) l yX6_chamber wsX6_chamber rm_X6_chamber D (tyW cI cJ cR) nestW [.ref (ad 50), .int (nI c), .int (nI w9)] (wM ad cI m) (fun r9 _ => ∃ v : Int32, r9 = some (.int v) ∧ v = nI (if c < mC m ∧ w9 ≤ 6 then mTold m c w9 else 0)) (fun _ => wM ad cI (mThr (if c < mC m ∧ w9 ≤ 6 then 0 else 1) m)) := by
  refine ek_M.of (cc := cX6_chamber) (maxL := 3) (ret := (some .int)) (by decide) rfl (Nat.le_of_ble_eq_true rfl) ?_
  intro p9 e9 s9 m9 args9 below9 meth9 c9 A X hin
  obtain ⟨⟨mC1, mC2⟩, mPs, mWs, mEs, mTs, mSs, mRs, mTl⟩ := id hM
  refine ek_castL (lv' := [(0, .ref (ad 50)), (1, .int (nI c)), (2, .int (nI w9))]) rfl ?_
  refine ek_aln X 0 rfl dX6_chamber_0 ?_
  refine ek_ic (v := nI 0) X (by decide) dX6_chamber_1 ?_
  refine ek_put (w' := wM ad cI (0, mC m, mP m, mW m, mEar m, mSaid m, mRo m, mTu m)) X hin_X6_chamber_X6 tyX6 tyX6_ok nmX6 0 rfl rfl 0 (by decide) (List.mem_of_getElem? (i := 1) rfl) rfl rfl rfl rfl (Nat.le_of_ble_eq_true rfl) rfl dX6_chamber_2 ?_
  refine ek_aln X 0 rfl dX6_chamber_5 ?_
  refine ek_iln X 1 rfl dX6_chamber_6 ?_
  refine ek_doRi (ek_runV (As := [.int (nI c)]) (rest := []) X (c_X6_isChamberN l D cI cJ cR ad ((0, mC m, mP m, mW m, mEar m, mSaid m, mRo m, mTu m)) (mOk_thr hM) c (by omega)) gX6_chamber_X6_isChamber rfl hdV_X6_isChamber ⟨Nat.le_of_ble_eq_true rfl, Nat.le_of_ble_eq_true rfl⟩ ⟨Nat.le_of_ble_eq_true rfl, Nat.le_of_ble_eq_true rfl⟩ [0, 1, 2] rfl (by decide) 0 6 rfl rfl (Nat.le_of_ble_eq_true rfl) dX6_chamber_7) (fun v_7 hv_7 => ?_)
  subst hv_7
  by_cases c_7 : c < mC m
  · refine ek_top (v' := nI 1) (congrArg nI (if_pos c_7)) ?_
    refine ek_Zeq X (by omega) 32 (by decide) dX6_chamber_10 (fun h => absurd h (by omega)) (fun _ => ?_)
    refine ek_iln X 2 rfl dX6_chamber_13 ?_
    refine ek_ic (v := nI 0) X (by decide) dX6_chamber_14 ?_
    refine ek_bp (v := nI 6) X (by decide) dX6_chamber_15 ?_
    refine ek_doRi (ek_runS (As := [.int (nI w9), .int (nI 0), .int (nI 6)]) (rest := []) X (c_X6_isInN l D cI cJ cR w9 0 6 (by omega) (by omega) (by omega)) gX6_chamber_X6_isIn rfl hd_X6_isIn ⟨Nat.le_of_ble_eq_true rfl, Nat.le_of_ble_eq_true rfl⟩ ⟨Nat.le_of_ble_eq_true rfl, Nat.le_of_ble_eq_true rfl⟩ [] rfl (by decide) (Nat.le_of_ble_eq_true rfl) dX6_chamber_17) (fun v_17 hv_17 => ?_)
    subst hv_17
    by_cases c_17 : 0 ≤ w9 ∧ w9 ≤ 6
    · refine ek_top (v' := nI 1) (congrArg nI (if_pos c_17)) ?_
      refine ek_Zeq X (by omega) 32 (by decide) dX6_chamber_20 (fun h => absurd h (by omega)) (fun _ => ?_)
      refine ek_aln X 0 rfl dX6_chamber_23 ?_
      refine ek_iln X 1 rfl dX6_chamber_24 ?_
      refine ek_iln X 2 rfl dX6_chamber_25 ?_
      refine ek_doRi (ek_runV (As := [.int (nI c), .int (nI w9)]) (rest := []) X (c_X6_chamberTold l D cI cJ cR ad ((0, mC m, mP m, mW m, mEar m, mSaid m, mRo m, mTu m)) (mOk_thr hM) c w9 (by omega) (by omega)) gX6_chamber_X6_chamberTold rfl hdV_X6_chamberTold ⟨Nat.le_of_ble_eq_true rfl, Nat.le_of_ble_eq_true rfl⟩ ⟨Nat.le_of_ble_eq_true rfl, Nat.le_of_ble_eq_true rfl⟩ [0, 1, 2] rfl (by decide) 0 6 rfl rfl (Nat.le_of_ble_eq_true rfl) dX6_chamber_26) (fun v_26 hv_26 => ?_)
      subst hv_26
      refine ek_top (v' := nI (mTold m c w9)) (congrArg nI (mTold_thr 0 m c w9)) ?_
      refine ek_goto X 37 (by decide) dX6_chamber_29 ?_
      exact ek_reti X () ⟨_, rfl, (by first | exact (congrArg nI (if_pos (by omega))).symm | exact (congrArg nI (if_neg (by omega))).symm)⟩ (by first | (exfalso; omega) | rw [if_pos (show c < mC m ∧ w9 ≤ 6 by omega)] | rw [if_neg (show ¬ (c < mC m ∧ w9 ≤ 6) by omega)]) dX6_chamber_37
    · refine ek_top (v' := nI 0) (congrArg nI (if_neg c_17)) ?_
      refine ek_Zeq X (by omega) 32 (by decide) dX6_chamber_20 (fun _ => ?_) (fun h => absurd h (by omega))
      refine ek_aln X 0 rfl dX6_chamber_32 ?_
      refine ek_ic (v := nI 1) X (by decide) dX6_chamber_33 ?_
      refine ek_doWi X (ek_runV (As := [.int (nI 1)]) (rest := []) X (c_X6_no l D cI cJ cR ad ((0, mC m, mP m, mW m, mEar m, mSaid m, mRo m, mTu m)) 1) gX6_chamber_X6_no rfl hdV_X6_no ⟨Nat.le_of_ble_eq_true rfl, Nat.le_of_ble_eq_true rfl⟩ ⟨Nat.le_of_ble_eq_true rfl, Nat.le_of_ble_eq_true rfl⟩ [0, 1, 2] rfl (by decide) 0 6 rfl rfl (Nat.le_of_ble_eq_true rfl) dX6_chamber_34) [0, 1, 2] [] rfl rfl (by decide) (by decide) (fun _ => wM ad cI (1, mC m, mP m, mW m, mEar m, mSaid m, mRo m, mTu m)) [0, 1, 2] (by decide) (fun _ => rfl) (fun v_34 u_34 hv_34 => ?_)
      subst hv_34
      exact ek_reti X () ⟨_, rfl, (by first | exact (congrArg nI (if_pos (by omega))).symm | exact (congrArg nI (if_neg (by omega))).symm)⟩ (by first | (exfalso; omega) | rw [if_pos (show c < mC m ∧ w9 ≤ 6 by omega)] | rw [if_neg (show ¬ (c < mC m ∧ w9 ≤ 6) by omega)]) dX6_chamber_37
  · refine ek_top (v' := nI 0) (congrArg nI (if_neg c_7)) ?_
    refine ek_Zeq X (by omega) 32 (by decide) dX6_chamber_10 (fun _ => ?_) (fun h => absurd h (by omega))
    refine ek_aln X 0 rfl dX6_chamber_32 ?_
    refine ek_ic (v := nI 1) X (by decide) dX6_chamber_33 ?_
    refine ek_doWi X (ek_runV (As := [.int (nI 1)]) (rest := []) X (c_X6_no l D cI cJ cR ad ((0, mC m, mP m, mW m, mEar m, mSaid m, mRo m, mTu m)) 1) gX6_chamber_X6_no rfl hdV_X6_no ⟨Nat.le_of_ble_eq_true rfl, Nat.le_of_ble_eq_true rfl⟩ ⟨Nat.le_of_ble_eq_true rfl, Nat.le_of_ble_eq_true rfl⟩ [0, 1, 2] rfl (by decide) 0 6 rfl rfl (Nat.le_of_ble_eq_true rfl) dX6_chamber_34) [0, 1, 2] [] rfl rfl (by decide) (by decide) (fun _ => wM ad cI (1, mC m, mP m, mW m, mEar m, mSaid m, mRo m, mTu m)) [0, 1, 2] (by decide) (fun _ => rfl) (fun v_34 u_34 hv_34 => ?_)
    subst hv_34
    exact ek_reti X () ⟨_, rfl, (by first | exact (congrArg nI (if_pos (by omega))).symm | exact (congrArg nI (if_neg (by omega))).symm)⟩ (by first | (exfalso; omega) | rw [if_pos (show c < mC m ∧ w9 ≤ 6 by omega)] | rw [if_neg (show ¬ (c < mC m ∧ w9 ≤ 6) by omega)]) dX6_chamber_37

theorem hin_X6_passage_X6 : ∀ x ∈ wsX60, x ∈ wsX6_passage := fun x h => List.mem_cons_of_mem _ (List.mem_append_right _ h)
abbrev rm_X6_passage : Room := { frames := 3, cells := 0, slots := 0, locals := 56 }
set_option maxHeartbeats 4000000 in
set_option maxRecDepth 100000 in
theorem c_X6_passage (l : Launch) (D : va_G) (cI cJ cR : ClassId) (ad : Nat → Nat) (m : MdlT) (hM : mOk m) (i w9 : Nat) (hi : i < 4294967296) (hw : w9 < 4294967296) : ek_M (S := Unit) l yX6_passage wsX6_passage rm_X6_passage D (tyW cI cJ cR) nestW [.ref (ad 50), .int (nI i), .int (nI w9)] (wM ad cI m) (fun r9 _ => ∃ v : Int32, r9 = some (.int v) ∧ v = nI (if i < mP m ∧ w9 ≤ 4 then mPTold m i w9 else 0)) (fun _ => wM ad cI (mThr (if i < mP m ∧ w9 ≤ 4 then 0 else 1) m)) := by
  refine ek_M.of (cc := cX6_passage) (maxL := 3) (ret := (some .int)) (by decide) rfl (Nat.le_of_ble_eq_true rfl) ?_
  intro p9 e9 s9 m9 args9 below9 meth9 c9 A X hin
  obtain ⟨⟨mC1, mC2⟩, mPs, mWs, mEs, mTs, mSs, mRs, mTl⟩ := id hM
  refine ek_castL (lv' := [(0, .ref (ad 50)), (1, .int (nI i)), (2, .int (nI w9))]) rfl ?_
  refine ek_aln X 0 rfl dX6_passage_0 ?_
  refine ek_ic (v := nI 0) X (by decide) dX6_passage_1 ?_
  refine ek_put (w' := wM ad cI (0, mC m, mP m, mW m, mEar m, mSaid m, mRo m, mTu m)) X hin_X6_passage_X6 tyX6 tyX6_ok nmX6 0 rfl rfl 0 (by decide) (List.mem_of_getElem? (i := 1) rfl) rfl rfl rfl rfl (Nat.le_of_ble_eq_true rfl) rfl dX6_passage_2 ?_
  refine ek_iln X 1 rfl dX6_passage_5 ?_
  refine ek_ic (v := nI 0) X (by decide) dX6_passage_6 ?_
  refine ek_aln X 0 rfl dX6_passage_7 ?_
  refine ek_get X hin_X6_passage_X6 0 rfl rfl 2 (by decide) (List.mem_of_getElem? (i := 2) rfl) rfl dX6_passage_8 ?_
  refine ek_top (v' := nI (mP m)) rfl ?_
  refine ek_ic (v := nI 1) X (by decide) dX6_passage_11 ?_
  refine ek_sub X dX6_passage_12 ?_
  refine ek_doRi (ek_runS (As := [.int (nI i), .int (nI 0), .int ((nI (mP m)) - (nI 1))]) (rest := []) X (c_X6_isInB l D cI cJ cR i (mP m) (by omega) (by omega)) gX6_passage_X6_isIn rfl hd_X6_isIn ⟨Nat.le_of_ble_eq_true rfl, Nat.le_of_ble_eq_true rfl⟩ ⟨Nat.le_of_ble_eq_true rfl, Nat.le_of_ble_eq_true rfl⟩ [] rfl (by decide) (Nat.le_of_ble_eq_true rfl) dX6_passage_13) (fun v_13 hv_13 => ?_)
  subst hv_13
  by_cases c_13 : i < mP m
  · refine ek_top (v' := nI 1) (congrArg nI (if_pos c_13)) ?_
    refine ek_Zeq X (by omega) 37 (by decide) dX6_passage_16 (fun h => absurd h (by omega)) (fun _ => ?_)
    refine ek_iln X 2 rfl dX6_passage_19 ?_
    refine ek_ic (v := nI 0) X (by decide) dX6_passage_20 ?_
    refine ek_ic (v := nI 4) X (by decide) dX6_passage_21 ?_
    refine ek_doRi (ek_runS (As := [.int (nI w9), .int (nI 0), .int (nI 4)]) (rest := []) X (c_X6_isInN l D cI cJ cR w9 0 4 (by omega) (by omega) (by omega)) gX6_passage_X6_isIn rfl hd_X6_isIn ⟨Nat.le_of_ble_eq_true rfl, Nat.le_of_ble_eq_true rfl⟩ ⟨Nat.le_of_ble_eq_true rfl, Nat.le_of_ble_eq_true rfl⟩ [] rfl (by decide) (Nat.le_of_ble_eq_true rfl) dX6_passage_22) (fun v_22 hv_22 => ?_)
    subst hv_22
    by_cases c_22 : 0 ≤ w9 ∧ w9 ≤ 4
    · refine ek_top (v' := nI 1) (congrArg nI (if_pos c_22)) ?_
      refine ek_Zeq X (by omega) 37 (by decide) dX6_passage_25 (fun h => absurd h (by omega)) (fun _ => ?_)
      refine ek_aln X 0 rfl dX6_passage_28 ?_
      refine ek_iln X 1 rfl dX6_passage_29 ?_
      refine ek_iln X 2 rfl dX6_passage_30 ?_
      refine ek_doRi (ek_runV (As := [.int (nI i), .int (nI w9)]) (rest := []) X (c_X6_passageTold l D cI cJ cR ad ((0, mC m, mP m, mW m, mEar m, mSaid m, mRo m, mTu m)) (mOk_thr hM) i w9 (by omega) (by omega)) gX6_passage_X6_passageTold rfl hdV_X6_passageTold ⟨Nat.le_of_ble_eq_true rfl, Nat.le_of_ble_eq_true rfl⟩ ⟨Nat.le_of_ble_eq_true rfl, Nat.le_of_ble_eq_true rfl⟩ [0, 1, 2] rfl (by decide) 0 6 rfl rfl (Nat.le_of_ble_eq_true rfl) dX6_passage_31) (fun v_31 hv_31 => ?_)
      subst hv_31
      refine ek_goto X 42 (by decide) dX6_passage_34 ?_
      exact ek_reti X () ⟨_, rfl, (by first | exact (congrArg nI (if_pos (by omega))).symm | exact (congrArg nI (if_neg (by omega))).symm)⟩ (by first | (exfalso; omega) | rw [if_pos (show i < mP m ∧ w9 ≤ 4 by omega)] | rw [if_neg (show ¬ (i < mP m ∧ w9 ≤ 4) by omega)]) dX6_passage_42
    · refine ek_top (v' := nI 0) (congrArg nI (if_neg c_22)) ?_
      refine ek_Zeq X (by omega) 37 (by decide) dX6_passage_25 (fun _ => ?_) (fun h => absurd h (by omega))
      refine ek_aln X 0 rfl dX6_passage_37 ?_
      refine ek_ic (v := nI 1) X (by decide) dX6_passage_38 ?_
      refine ek_doWi X (ek_runV (As := [.int (nI 1)]) (rest := []) X (c_X6_no l D cI cJ cR ad ((0, mC m, mP m, mW m, mEar m, mSaid m, mRo m, mTu m)) 1) gX6_passage_X6_no rfl hdV_X6_no ⟨Nat.le_of_ble_eq_true rfl, Nat.le_of_ble_eq_true rfl⟩ ⟨Nat.le_of_ble_eq_true rfl, Nat.le_of_ble_eq_true rfl⟩ [0, 1, 2] rfl (by decide) 0 6 rfl rfl (Nat.le_of_ble_eq_true rfl) dX6_passage_39) [0, 1, 2] [] rfl rfl (by decide) (by decide) (fun _ => wM ad cI (1, mC m, mP m, mW m, mEar m, mSaid m, mRo m, mTu m)) [0, 1, 2] (by decide) (fun _ => rfl) (fun v_39 u_39 hv_39 => ?_)
      subst hv_39
      exact ek_reti X () ⟨_, rfl, (by first | exact (congrArg nI (if_pos (by omega))).symm | exact (congrArg nI (if_neg (by omega))).symm)⟩ (by first | (exfalso; omega) | rw [if_pos (show i < mP m ∧ w9 ≤ 4 by omega)] | rw [if_neg (show ¬ (i < mP m ∧ w9 ≤ 4) by omega)]) dX6_passage_42
  · refine ek_top (v' := nI 0) (congrArg nI (if_neg c_13)) ?_
    refine ek_Zeq X (by omega) 37 (by decide) dX6_passage_16 (fun _ => ?_) (fun h => absurd h (by omega))
    refine ek_aln X 0 rfl dX6_passage_37 ?_
    refine ek_ic (v := nI 1) X (by decide) dX6_passage_38 ?_
    refine ek_doWi X (ek_runV (As := [.int (nI 1)]) (rest := []) X (c_X6_no l D cI cJ cR ad ((0, mC m, mP m, mW m, mEar m, mSaid m, mRo m, mTu m)) 1) gX6_passage_X6_no rfl hdV_X6_no ⟨Nat.le_of_ble_eq_true rfl, Nat.le_of_ble_eq_true rfl⟩ ⟨Nat.le_of_ble_eq_true rfl, Nat.le_of_ble_eq_true rfl⟩ [0, 1, 2] rfl (by decide) 0 6 rfl rfl (Nat.le_of_ble_eq_true rfl) dX6_passage_39) [0, 1, 2] [] rfl rfl (by decide) (by decide) (fun _ => wM ad cI (1, mC m, mP m, mW m, mEar m, mSaid m, mRo m, mTu m)) [0, 1, 2] (by decide) (fun _ => rfl) (fun v_39 u_39 hv_39 => ?_)
    subst hv_39
    exact ek_reti X () ⟨_, rfl, (by first | exact (congrArg nI (if_pos (by omega))).symm | exact (congrArg nI (if_neg (by omega))).symm)⟩ (by first | (exfalso; omega) | rw [if_pos (show i < mP m ∧ w9 ≤ 4 by omega)] | rw [if_neg (show ¬ (i < mP m ∧ w9 ≤ 4) by omega)]) dX6_passage_42
