/-! ===== a word's run ===== -/
def dgs : Nat → Nat → Nat
  | 0, _ => 0
  | f + 1, r => if 0 < r then dgs f (r / 10) + 1 else 0
theorem dgs_le : ∀ (f r : Nat), dgs f r ≤ f
  | 0, _ => Nat.le_refl 0
  | f + 1, r => by
    have := dgs_le f (r / 10)
    unfold dgs
    split <;> omega
def gSay (w n b : Nat) (g : SndT) (q : QueT) : Nat → SndT × QueT
  | 0 => (g, q)
  | i + 1 => sRunG (w / 10 ^ (n - 1 - i) % 10) i 0 (i * b) 100 (gSay w n b g q i).1 (gSay w n b g q i).2
abbrev gZero (g : SndT) : SndT := (0, 0, sSy g, sPl g, sU g)
abbrev qZero (q : QueT) : QueT := (0, qH q)
theorem uN_step {n i : Nat} (hi : i < n) : (if i < n then 10 ^ (n - 1 - i) else 0) / 10 = if i + 1 < n then 10 ^ (n - 1 - (i + 1)) else 0 := by
  rw [if_pos hi]
  by_cases hin : i + 1 < n
  · rw [if_pos hin, show n - 1 - i = (n - 1 - (i + 1)) + 1 by omega, Nat.pow_succ, Nat.mul_div_cancel _ (by omega)]
  · rw [if_neg hin, show n - 1 - i = 0 by omega]
def gBegin (w n b : Nat) (g : SndT) (q : QueT) : SndT × QueT := gSay w n b (gZero g) (qZero q) n
theorem zero_ok {g : SndT} {q : QueT} (h : sOk g q) : sOk (gZero g) (qZero q) := ⟨by show 0 ≤ 17; omega, by show 0 < 4096; omega, h.2.2.1, h.2.2.2.1, h.2.2.2.2.1, ⟨by show 0 ≤ 629; omega, h.2.2.2.2.2.1.2⟩, Nat.zero_le _⟩
theorem gSay_ok {g : SndT} {q : QueT} (h : sOk g q) {w n b : Nat} (hn : n ≤ 6) (hb : b ≤ 20) : ∀ i, i ≤ n → sOk (gSay w n b g q i).1 (gSay w n b g q i).2
  | 0, _ => h
  | i + 1, hi => (sRunG_ok (gSay_ok h hn hb i (by omega)) (by omega) (by omega) (by omega) (by have := Nat.mul_le_mul (show i ≤ 5 by omega) hb; omega) (by omega)).1
theorem take_ok {g : SndT} {q : QueT} (h : sOk g q) : sOk g (qTake q) := ⟨h.1, h.2.1, h.2.2.1, h.2.2.2.1, h.2.2.2.2.1, qTake_ok h.2.2.2.2.2.1, by have := h.2.2.2.2.2.2; show qN q - 1 ≤ _; omega⟩
def gLoop (u : CaveT) : Nat → SndT × QueT × EchT → SndT × QueT × EchT
  | 0, s => s
  | f + 1, s => if qN s.2.1 = 0 then s else gLoop u f (gCome u (qH s.2.1 0) s.1 (qTake s.2.1) s.2.2)
def gThrough (u : CaveT) (w b x : Nat) (g : SndT) (q : QueT) (h : EchT) : SndT × QueT × EchT := gLoop u 629 ((gBegin w (dgs 6 w) b g q).1, (gBegin w (dgs 6 w) b g q).2, hBegin h (dgs 6 w) x)
theorem hMay_ok {h : EchT} {g : SndT} {q : QueT} (hh : hOk h) (hI : sOk g q) {t c r b z : Nat} (ht : t < 1024) (hz : z < 128) : hOk (hMay t c r b z g h) := by
  unfold hMay
  split
  · exact hHear_ok hh ht (hI.2.2.2.1 r) (hI.2.2.1 r) hz
  · exact hh
theorem gFar_ok {u : CaveT} {g : SndT} {q : QueT} (hB : cOk u) (h : sOk g q) {t c r b z : Nat} (hc : c < 12) (hr : r < sR g) (hb : b ≤ cP u) (hz : z < 128) : sOk (gFar u t c r b z g q).1 (gFar u t c r b z g q).2 := by
  obtain ⟨i1, i2⟩ := gClap_ok (u := u) h (c := c) (r := r) (t := t) hc
  obtain ⟨j1, j2⟩ := gOn_ok hB i1 (c := c) (r := r) (t := t) (z := z) (w := pW b) (by omega) hz (cDrs u c)
  have hw := hB.2.2.2.1 c
  have hp := hB.2.1
  unfold gFar gRest
  split
  · exact (gGo_ok hB j1 (by omega) (by omega) (by have := Nat.mul_le_mul (show z ≤ 127 by omega) hw; omega)).1
  · exact j1
theorem gCome_ok {u : CaveT} {g : SndT} {q : QueT} {h : EchT} (hB : cOk u) (hI : sOk g q) (hH : hOk h) {x : Nat} (hx : x < 2147483648) : sOk (gCome u x g q h).1 (gCome u x g q h).2.1 ∧ hOk (gCome u x g q h).2.2 := by
  unfold gCome gComeP
  have hC := hB.1.2
  split
  · exact ⟨hI, hH⟩
  · rename_i h0
    split
    · exact ⟨hI, hMay_ok hH hI (by omega) (by omega)⟩
    · exact ⟨gFar_ok hB hI (by omega) (by omega) (by omega) (by omega), hMay_ok hH hI (by omega) (by omega)⟩
theorem hBegin_ok {h : EchT} (hh : hOk h) {n x : Nat} (hn : n ≤ 6) (hx : x ≤ 50) : hOk (hBegin h n x) := ⟨hn, hx, by show 0 ≤ 60; omega, Nat.le_refl 0, Nat.le_refl 0, hh.2.2.2.2.2⟩
theorem gLoop_ok {u : CaveT} (hB : cOk u) : ∀ (f : Nat) (s : SndT × QueT × EchT), sOk s.1 s.2.1 → hOk s.2.2 → sOk (gLoop u f s).1 (gLoop u f s).2.1 ∧ hOk (gLoop u f s).2.2
  | 0, s, h1, h2 => ⟨h1, h2⟩
  | f + 1, s, h1, h2 => by
    unfold gLoop
    split
    · exact ⟨h1, h2⟩
    · obtain ⟨i1, i2⟩ := gCome_ok (x := qH s.2.1 0) hB (take_ok h1) h2 (h1.2.2.2.2.2.1.2 0)
      exact gLoop_ok hB f _ i1 i2

abbrev rm_X4_placesOf : Room := { frames := 1, cells := 0, slots := 0, locals := 12 }
set_option maxHeartbeats 4000000 in
set_option maxRecDepth 100000 in
theorem c_X4_placesOf (l : Launch) (D : va_G) (cI cJ cR : ClassId) (w : Nat) (hw : w < 2147483648) : ek_R l yX4_placesOf wsX4_placesOf rm_X4_placesOf D (tyW cI cJ cR) nestW [.int (nI w)] ([]) (fun r9 => ∃ v : Int32, r9 = some (.int v) ∧ v = nI (dgs 6 w)) := by
  refine ek_R.of (cc := cX4_placesOf) (maxL := 3) (ret := (some .int)) (by decide) rfl (Nat.le_of_ble_eq_true rfl) ?_
  intro p9 e9 s9 m9 args9 below9 meth9 c9 X
  refine ek_castL (lv' := [(0, .int (nI w))]) rfl ?_
  refine ek_ic (v := nI 0) X (by decide) dX4_placesOf_0 ?_
  refine ek_isn (lv' := [(1, .int (nI 0)), (0, .int (nI w))]) X (by decide) rfl dX4_placesOf_1 ?_
  refine ek_iln X 1 rfl dX4_placesOf_2 ?_
  refine ek_isn (lv' := [(2, .int (nI w)), (1, .int (nI 0)), (0, .int (nI w))]) X (by decide) rfl dX4_placesOf_3 ?_
  refine ek_loopAt (σ := Nat × Nat) (fun zz => (fun (n : Nat) (r : Nat) => n ≤ 6 ∧ r < 2147483648 ∧ n + dgs (6 - n) r = dgs 6 w) zz.1 zz.2) (fun zz => (fun (n : Nat) (r : Nat) => 6 - n) zz.1 zz.2) (fun zz => (fun (n : Nat) (r : Nat) => []) zz.1 zz.2) (fun zz => (fun (n : Nat) (r : Nat) => [(0, .int (nI w)), (1, .int (nI n)), (2, .int (nI r))]) zz.1 zz.2) ?_ (0, w) ⟨by omega, hw, by show 0 + dgs 6 w = dgs 6 w; omega⟩ rfl [2, 1, 0] rfl
  intro zz ha_4 ih_4
  obtain ⟨n, r⟩ := zz
  replace ha_4 : n ≤ 6 ∧ r < 2147483648 ∧ n + dgs (6 - n) r = dgs 6 w := ha_4
  refine ek_cast (w' := []) rfl ?_
  refine ek_castL (lv' := [(0, .int (nI w)), (1, .int (nI n)), (2, .int (nI r))]) rfl ?_
  have hr31 := ha_4.2.1
  refine ek_iln X 2 rfl dX4_placesOf_4 ?_
  refine ek_Zle X (by omega) 25 (by decide) dX4_placesOf_5 (fun c_5 => ?_) (fun c_5 => ?_)
  · skip
    refine ek_iln X 1 rfl dX4_placesOf_25 ?_
    exact ek_retiR X ⟨_, rfl, (by obtain ⟨h1, h2, h3⟩ := ha_4; rw [← h3]; congr 1; first | (rw [show 6 - n = 0 by omega]; rfl) | (rw [show r = 0 by omega]; cases (6 - n) <;> rfl))⟩ dX4_placesOf_26
  · skip
    refine ek_iln X 1 rfl dX4_placesOf_8 ?_
    refine ek_bp (v := nI 6) X (by decide) dX4_placesOf_9 ?_
    refine ek_Nge X (by omega) (by omega) 25 (by decide) dX4_placesOf_11 (fun c_11 => ?_) (fun c_11 => ?_)
    · skip
      refine ek_iln X 1 rfl dX4_placesOf_25 ?_
      exact ek_retiR X ⟨_, rfl, (by obtain ⟨h1, h2, h3⟩ := ha_4; rw [← h3]; congr 1; first | (rw [show 6 - n = 0 by omega]; rfl) | (rw [show r = 0 by omega]; cases (6 - n) <;> rfl))⟩ dX4_placesOf_26
    · skip
      refine ek_Ninc (j := 1) (d := 1) (lv' := [(1, .int (nI (n + 1))), (0, .int (nI w)), (2, .int (nI r))]) X rfl (by decide) rfl dX4_placesOf_14 ?_
      refine ek_iln X 2 rfl dX4_placesOf_17 ?_
      refine ek_bp (v := nI 10) X (by decide) dX4_placesOf_18 ?_
      refine ek_Ndiv X (by omega) (by omega) (by omega) dX4_placesOf_20 ?_
      refine ek_isn (lv' := [(2, .int (nI (r / 10))), (1, .int (nI (n + 1))), (0, .int (nI w))]) X (by decide) rfl dX4_placesOf_21 ?_
      refine ek_goto X 4 (by decide) dX4_placesOf_22 ?_
      refine ek_re [2, 1, 0] rfl ?_
      exact ih_4 (n + 1, r / 10) (show (n + 1) ≤ 6 ∧ (r / 10) < 2147483648 ∧ (n + 1) + dgs (6 - (n + 1)) (r / 10) = dgs 6 w from (by obtain ⟨h1, h2, h3⟩ := ha_4; refine ⟨by omega, by omega, ?_⟩; rw [← h3, show 6 - n = (6 - (n + 1)) + 1 by omega]; rw [show dgs ((6 - (n + 1)) + 1) r = dgs (6 - (n + 1)) (r / 10) + 1 from if_pos (by omega)]; omega)) (by show 6 - (n + 1) < 6 - n; omega)

theorem hin_X3_begin_X3 : ∀ x ∈ wsX30, x ∈ wsX3_begin := fun x h => List.mem_cons_of_mem _ (List.mem_append_left _ (List.mem_append_right _ h))
abbrev rm_X3_begin : Room := { frames := 3, cells := 0, slots := 0, locals := 61 }
set_option maxHeartbeats 4000000 in
set_option maxRecDepth 100000 in
theorem c_X3_begin (l : Launch) (D : va_G) (cI cJ cR : ClassId) (ad : Nat → Nat) (e : Nat) (u : CaveT) (h : EchT) (g : SndT) (q : QueT) (hB : cOk u) (hI : sOk g q) (w n b : Nat) (hw : w < 2147483648) (hn1 : 1 ≤ n) (hn : n ≤ 6) (hb : b ≤ 20) : ek_M (S := Unit) l yX3_begin wsX3_begin rm_X3_begin D (tyW cI cJ cR) nestW [.ref (ad 32), .int (nI w), .int (nI n), .int (nI b)] (wS ad e cI cJ cR g q u h) (fun r9 _ => r9 = none ∧ True) (fun _ => wS ad e cI cJ cR (gBegin w n b g q).1 (gBegin w n b g q).2 u h) := by
  refine ek_M.of (cc := cX3_begin) (maxL := 6) (ret := none) (by decide) rfl (Nat.le_of_ble_eq_true rfl) ?_
  intro p9 e9 s9 m9 args9 below9 meth9 c9 A X hin
  obtain ⟨⟨hC1, hC2⟩, hPs, hWt, bWal, bHgt, bBat, bSyl, bDel, bDrs, bFrm, bTo, bLen, bNar, bPb⟩ := id hB
  obtain ⟨hr17, hcl, hsy, hpl, hus, hq, hpo⟩ := id hI
  have hI0 := zero_ok hI
  refine ek_castL (lv' := [(0, .ref (ad 32)), (1, .int (nI w)), (2, .int (nI n)), (3, .int (nI b))]) rfl ?_
  refine ek_aln X 0 rfl dX3_begin_0 ?_
  refine ek_get X hin_X3_begin_X3 0 rfl rfl 1 (by decide) (List.mem_of_getElem? (i := 1) rfl) rfl dX3_begin_1 ?_
  refine ek_doWv X (ek_runV (As := []) (rest := []) X (c_X1_clear l D cI cJ cR ad q) gX3_begin_X1_clear rfl hdV_X1_clear ⟨Nat.le_of_ble_eq_true rfl, Nat.le_of_ble_eq_true rfl⟩ ⟨Nat.le_of_ble_eq_true rfl, Nat.le_of_ble_eq_true rfl⟩ [4, 5] rfl (by decide) 0 1 rfl rfl (Nat.le_of_ble_eq_true rfl) dX3_begin_4) [4, 5] [0, 1, 2, 3, 6, 7, 8, 9, 10, 11, 12, 13, 14, 15, 16, 17, 18, 19, 20, 21, 22, 23, 24, 25, 26, 27, 28, 29, 30, 31, 32, 33] rfl rfl (by decide) (by decide) (fun _ => wS ad e cI cJ cR g (0, qH q) u h) [0, 1, 2, 3, 32, 33, 4, 5, 6, 7, 8, 9, 10, 11, 12, 13, 14, 15, 16, 17, 18, 19, 20, 21, 22, 23, 24, 25, 26, 27, 28, 29, 30, 31] (by decide) (fun _ => rfl) (fun u_4 hv_4 => ?_)
  refine ek_aln X 0 rfl dX3_begin_7 ?_
  refine ek_ic (v := nI 0) X (by decide) dX3_begin_8 ?_
  refine ek_put (w' := wS ad e cI cJ cR (0, sCl g, sSy g, sPl g, sU g) (0, qH q) u h) X hin_X3_begin_X3 tyX3 tyX3_ok nmX3 0 rfl rfl 5 (by decide) (List.mem_of_getElem? (i := 2) rfl) rfl rfl rfl rfl (Nat.le_of_ble_eq_true rfl) rfl dX3_begin_9 ?_
  refine ek_aln X 0 rfl dX3_begin_12 ?_
  refine ek_ic (v := nI 0) X (by decide) dX3_begin_13 ?_
  refine ek_put (w' := wS ad e cI cJ cR (0, 0, sSy g, sPl g, sU g) (0, qH q) u h) X hin_X3_begin_X3 tyX3 tyX3_ok nmX3 0 rfl rfl 6 (by decide) (List.mem_of_getElem? (i := 3) rfl) rfl rfl rfl rfl (Nat.le_of_ble_eq_true rfl) rfl dX3_begin_14 ?_
  refine ek_ic (v := nI 1) X (by decide) dX3_begin_17 ?_
  refine ek_is (lv' := [(4, .int (nI 1)), (0, .ref (ad 32)), (1, .int (nI w)), (2, .int (nI n)), (3, .int (nI b))]) X (by decide) rfl dX3_begin_18 ?_
  refine ek_ic (v := nI 1) X (by decide) dX3_begin_20 ?_
  refine ek_is (lv' := [(5, .int (nI 1)), (4, .int (nI 1)), (0, .ref (ad 32)), (1, .int (nI w)), (2, .int (nI n)), (3, .int (nI b))]) X (by decide) rfl dX3_begin_21 ?_
  refine ek_loopAt (σ := Nat × Nat) (fun zz => (fun (j : Nat) (d : Nat) => 1 ≤ j ∧ j ≤ n ∧ d = 10 ^ (j - 1)) zz.1 zz.2) (fun zz => (fun (j : Nat) (d : Nat) => n - j) zz.1 zz.2) (fun zz => (fun (j : Nat) (d : Nat) => wS ad e cI cJ cR (0, 0, sSy g, sPl g, sU g) (0, qH q) u h) zz.1 zz.2) (fun zz => (fun (j : Nat) (d : Nat) => [(0, .ref (ad 32)), (1, .int (nI w)), (2, .int (nI n)), (3, .int (nI b)), (4, .int (nI d)), (5, .int (nI j))]) zz.1 zz.2) ?_ (1, 1) ⟨by omega, by omega, rfl⟩ rfl [2, 3, 4, 5, 1, 0] rfl
  intro zz ha_23 ih_23
  obtain ⟨j, d⟩ := zz
  replace ha_23 : 1 ≤ j ∧ j ≤ n ∧ d = 10 ^ (j - 1) := ha_23
  refine ek_cast (w' := wS ad e cI cJ cR (0, 0, sSy g, sPl g, sU g) (0, qH q) u h) rfl ?_
  refine ek_castL (lv' := [(0, .ref (ad 32)), (1, .int (nI w)), (2, .int (nI n)), (3, .int (nI b)), (4, .int (nI d)), (5, .int (nI j))]) rfl ?_
  refine ek_il X 5 rfl dX3_begin_23 ?_
  refine ek_iln X 2 rfl dX3_begin_25 ?_
  refine ek_Nge X (by omega) (by omega) 42 (by decide) dX3_begin_26 (fun c_26 => ?_) (fun c_26 => ?_)
  · skip
    refine ek_ic (v := nI 0) X (by decide) dX3_begin_42 ?_
    refine ek_is (lv' := [(5, .int (nI 0)), (0, .ref (ad 32)), (1, .int (nI w)), (2, .int (nI n)), (3, .int (nI b)), (4, .int (nI d))]) X (by decide) rfl dX3_begin_43 ?_
    refine ek_loopAt (σ := Nat × Nat × SndT × QueT) (fun zz => (fun (i : Nat) (d : Nat) (g1 : SndT) (q1 : QueT) => i ≤ n ∧ d = (if i < n then 10 ^ (n - 1 - i) else 0) ∧ (g1, q1) = gSay w n b (gZero g) (qZero q) i) zz.1 zz.2.1 zz.2.2.1 zz.2.2.2) (fun zz => (fun (i : Nat) (d : Nat) (g1 : SndT) (q1 : QueT) => n - i) zz.1 zz.2.1 zz.2.2.1 zz.2.2.2) (fun zz => (fun (i : Nat) (d : Nat) (g1 : SndT) (q1 : QueT) => wS ad e cI cJ cR g1 q1 u h) zz.1 zz.2.1 zz.2.2.1 zz.2.2.2) (fun zz => (fun (i : Nat) (d : Nat) (g1 : SndT) (q1 : QueT) => [(0, .ref (ad 32)), (1, .int (nI w)), (2, .int (nI n)), (3, .int (nI b)), (4, .int (nI d)), (5, .int (nI i))]) zz.1 zz.2.1 zz.2.2.1 zz.2.2.2) ?_ (0, d, (0, 0, sSy g, sPl g, sU g), (0, qH q)) ⟨Nat.zero_le _, by obtain ⟨h1, h2, h3⟩ := ha_23; rw [if_pos (by omega), h3, show j = n by omega]; rfl, rfl⟩ rfl [1, 2, 3, 4, 5, 0] rfl
    intro zz ha_45 ih_45
    obtain ⟨i, d, g1, q1⟩ := zz
    replace ha_45 : i ≤ n ∧ d = (if i < n then 10 ^ (n - 1 - i) else 0) ∧ (g1, q1) = gSay w n b (gZero g) (qZero q) i := ha_45
    refine ek_cast (w' := wS ad e cI cJ cR g1 q1 u h) rfl ?_
    refine ek_castL (lv' := [(0, .ref (ad 32)), (1, .int (nI w)), (2, .int (nI n)), (3, .int (nI b)), (4, .int (nI d)), (5, .int (nI i))]) rfl ?_
    have hg1 : sOk g1 q1 := by have := gSay_ok hI0 (w := w) (b := b) hn hb i ha_45.1; rw [← ha_45.2.2] at this; exact this
    have hd5 : d ≤ 100000 := by rw [ha_45.2.1]; split; exact Nat.pow_le_pow_right (n := 10) (by omega) (show n - 1 - i ≤ 5 by omega); omega
    have hib : i ≤ 5 → i * b ≤ 100 := fun h => Nat.mul_le_mul h hb
    refine ek_il X 5 rfl dX3_begin_45 ?_
    refine ek_iln X 2 rfl dX3_begin_47 ?_
    refine ek_Nge X (by omega) (by omega) 89 (by decide) dX3_begin_48 (fun c_48 => ?_) (fun c_48 => ?_)
    · skip
      exact ek_retv X () ⟨rfl, trivial⟩ (by obtain ⟨h1, h2, h3⟩ := ha_45; first | (rw [show i = n by omega] at h3; show _ = wS ad e cI cJ cR (gSay w n b (gZero g) (qZero q) n).1 (gSay w n b (gZero g) (qZero q) n).2 u h; rw [← h3]) | (exfalso; rw [if_pos (by omega)] at h2; have := Nat.pow_pos (n := n - 1 - i) (show 0 < 10 by omega); omega)) dX3_begin_89
    · skip
      refine ek_il X 4 rfl dX3_begin_51 ?_
      refine ek_Zle X (by omega) 89 (by decide) dX3_begin_53 (fun c_53 => ?_) (fun c_53 => ?_)
      · skip
        exact ek_retv X () ⟨rfl, trivial⟩ (by obtain ⟨h1, h2, h3⟩ := ha_45; first | (rw [show i = n by omega] at h3; show _ = wS ad e cI cJ cR (gSay w n b (gZero g) (qZero q) n).1 (gSay w n b (gZero g) (qZero q) n).2 u h; rw [← h3]) | (exfalso; rw [if_pos (by omega)] at h2; have := Nat.pow_pos (n := n - 1 - i) (show 0 < 10 by omega); omega)) dX3_begin_89
      · skip
        refine ek_aln X 0 rfl dX3_begin_56 ?_
        refine ek_iln X 1 rfl dX3_begin_57 ?_
        refine ek_il X 4 rfl dX3_begin_58 ?_
        refine ek_Ndiv X (by omega) (by omega) (by omega) dX3_begin_60 ?_
        refine ek_bp (v := nI 10) X (by decide) dX3_begin_61 ?_
        refine ek_Nrem X (Nat.lt_of_le_of_lt (Nat.div_le_self _ _) hw) (by omega) (by omega) dX3_begin_63 ?_
        refine ek_il X 5 rfl dX3_begin_64 ?_
        refine ek_ic (v := nI 0) X (by decide) dX3_begin_66 ?_
        refine ek_il X 5 rfl dX3_begin_67 ?_
        refine ek_iln X 3 rfl dX3_begin_69 ?_
        refine ek_Nmul X dX3_begin_70 ?_
        refine ek_bp (v := nI 100) X (by decide) dX3_begin_71 ?_
        refine ek_doWv X (ek_runV (As := [.int (nI ((w / d) % 10)), .int (nI i), .int (nI 0), .int (nI (i * b)), .int (nI 100)]) (rest := []) X (c_X3_startRun l D cI cJ cR ad e u h g1 q1 hB hg1 ((w / d) % 10) i 0 (i * b) 100 (by omega) (by omega) (by omega) (by have := hib (by omega); omega) (by omega)) gX3_begin_X3_startRun rfl hdV_X3_startRun ⟨Nat.le_of_ble_eq_true rfl, Nat.le_of_ble_eq_true rfl⟩ ⟨Nat.le_of_ble_eq_true rfl, Nat.le_of_ble_eq_true rfl⟩ [0, 1, 2, 3, 4, 5, 6, 7, 8, 9, 10, 11, 12, 13, 14, 15, 16, 17, 18, 19, 20, 21, 22, 23, 24, 25, 26, 27, 28, 29, 30, 31, 32, 33] rfl (by decide) 0 3 rfl rfl (Nat.le_of_ble_eq_true rfl) dX3_begin_73) [0, 1, 2, 3, 4, 5, 6, 7, 8, 9, 10, 11, 12, 13, 14, 15, 16, 17, 18, 19, 20, 21, 22, 23, 24, 25, 26, 27, 28, 29, 30, 31, 32, 33] [] rfl rfl (by decide) (by decide) (fun _ => wS ad e cI cJ cR (sRunG ((w / d) % 10) i 0 (i * b) 100 g1 q1).1 (sRunG ((w / d) % 10) i 0 (i * b) 100 g1 q1).2 u h) [0, 1, 2, 3, 4, 5, 6, 7, 8, 9, 10, 11, 12, 13, 14, 15, 16, 17, 18, 19, 20, 21, 22, 23, 24, 25, 26, 27, 28, 29, 30, 31, 32, 33] (by decide) (fun _ => rfl) (fun u_73 hv_73 => ?_)
        refine ek_il X 4 rfl dX3_begin_76 ?_
        refine ek_bp (v := nI 10) X (by decide) dX3_begin_78 ?_
        refine ek_Ndiv X (by omega) (by omega) (by omega) dX3_begin_80 ?_
        refine ek_is (lv' := [(4, .int (nI (d / 10))), (0, .ref (ad 32)), (1, .int (nI w)), (2, .int (nI n)), (3, .int (nI b)), (5, .int (nI i))]) X (by decide) rfl dX3_begin_81 ?_
        refine ek_Ninc (j := 5) (d := 1) (lv' := [(5, .int (nI (i + 1))), (4, .int (nI (d / 10))), (0, .ref (ad 32)), (1, .int (nI w)), (2, .int (nI n)), (3, .int (nI b))]) X rfl (by decide) rfl dX3_begin_83 ?_
        refine ek_goto X 45 (by decide) dX3_begin_86 ?_
        refine ek_re [2, 3, 4, 5, 1, 0] rfl ?_
        exact ih_45 (i + 1, d / 10, (sRunG ((w / d) % 10) i 0 (i * b) 100 g1 q1).1, (sRunG ((w / d) % 10) i 0 (i * b) 100 g1 q1).2) (show (i + 1) ≤ n ∧ (d / 10) = (if (i + 1) < n then 10 ^ (n - 1 - (i + 1)) else 0) ∧ (((sRunG ((w / d) % 10) i 0 (i * b) 100 g1 q1).1), ((sRunG ((w / d) % 10) i 0 (i * b) 100 g1 q1).2)) = gSay w n b (gZero g) (qZero q) (i + 1) from (by obtain ⟨h1, h2, h3⟩ := ha_45; exact ⟨by omega, by rw [h2]; exact uN_step (by omega), by (show _ = sRunG (w / 10 ^ (n - 1 - i) % 10) i 0 (i * b) 100 (gSay w n b (gZero g) (qZero q) i).1 (gSay w n b (gZero g) (qZero q) i).2; rw [← h3, h2, if_pos (by omega)])⟩)) (by show n - (i + 1) < n - i; omega)
  · skip
    refine ek_il X 4 rfl dX3_begin_29 ?_
    refine ek_bp (v := nI 10) X (by decide) dX3_begin_31 ?_
    refine ek_Nmul X dX3_begin_33 ?_
    refine ek_is (lv' := [(4, .int (nI (d * 10))), (0, .ref (ad 32)), (1, .int (nI w)), (2, .int (nI n)), (3, .int (nI b)), (5, .int (nI j))]) X (by decide) rfl dX3_begin_34 ?_
    refine ek_Ninc (j := 5) (d := 1) (lv' := [(5, .int (nI (j + 1))), (4, .int (nI (d * 10))), (0, .ref (ad 32)), (1, .int (nI w)), (2, .int (nI n)), (3, .int (nI b))]) X rfl (by decide) rfl dX3_begin_36 ?_
    refine ek_goto X 23 (by decide) dX3_begin_39 ?_
    refine ek_re [2, 3, 4, 5, 1, 0] rfl ?_
    exact ih_23 (j + 1, d * 10) (show 1 ≤ (j + 1) ∧ (j + 1) ≤ n ∧ (d * 10) = 10 ^ ((j + 1) - 1) from (by obtain ⟨h1, h2, h3⟩ := ha_23; refine ⟨by omega, by omega, ?_⟩; rw [h3, show j + 1 - 1 = (j - 1) + 1 by omega, Nat.pow_succ])) (by show n - (j + 1) < n - j; omega)

theorem hin_X3_runThrough_X3 : ∀ x ∈ wsX30, x ∈ wsX3_runThrough := fun x h => List.mem_cons_of_mem _ (List.mem_append_left _ (List.mem_append_left _ (List.mem_append_left _ (List.mem_append_right _ h))))
set_option maxRecDepth 20000 in
theorem gn_X3_runThrough_X4_placesOf : GoodIn wsX3_runThrough wsX4_placesOf := goodIn_r _ [4] (by decide +kernel) (by decide +kernel)
abbrev rm_X3_runThrough : Room := { frames := 5, cells := 0, slots := 0, locals := 119 }
set_option maxHeartbeats 4000000 in
set_option maxRecDepth 100000 in
theorem c_X3_runThrough (l : Launch) (D : va_G) (cI cJ cR : ClassId) (ad : Nat → Nat) (e : Nat) (u : CaveT) (h : EchT) (g : SndT) (q : QueT) (hB : cOk u) (hI : sOk g q) (hH : hOk h) (w b x : Nat) (hw : w < 2147483648) (hw1 : 1 ≤ w) (hb : b ≤ 20) (hx : x ≤ 50) : ek_M (S := Unit) l yX3_runThrough wsX3_runThrough rm_X3_runThrough D (tyW cI cJ cR) nestW [.ref (ad 32), .int (nI w), .int (nI b), .int (nI x), .ref (ad e)] (wS ad e cI cJ cR g q u h) (fun r9 _ => r9 = none ∧ True) (fun _ => wS ad e cI cJ cR (gThrough u w b x g q h).1 (gThrough u w b x g q h).2.1 u (gThrough u w b x g q h).2.2) := by
  refine ek_M.of (cc := cX3_runThrough) (maxL := 7) (ret := none) (by decide) rfl (Nat.le_of_ble_eq_true rfl) ?_
  intro p9 e9 s9 m9 args9 below9 meth9 c9 A X hin
  obtain ⟨⟨hC1, hC2⟩, hPs, hWt, bWal, bHgt, bBat, bSyl, bDel, bDrs, bFrm, bTo, bLen, bNar, bPb⟩ := id hB
  obtain ⟨hr17, hcl, hsy, hpl, hus, hq, hpo⟩ := id hI
  have hdg6 := dgs_le 6 w
  have hd1 : 1 ≤ dgs 6 w := by unfold dgs; rw [if_pos (by omega)]; omega
  have hI1 : sOk (gBegin w (dgs 6 w) b g q).1 (gBegin w (dgs 6 w) b g q).2 := gSay_ok (zero_ok hI) hdg6 hb _ (Nat.le_refl _)
  refine ek_castL (lv' := [(0, .ref (ad 32)), (1, .int (nI w)), (2, .int (nI b)), (3, .int (nI x)), (4, .ref (ad e))]) rfl ?_
  refine ek_iln X 1 rfl dX3_runThrough_0 ?_
  refine ek_doRi (ek_runSN (As := [.int (nI w)]) (rest := []) X (c_X4_placesOf l D cI cJ cR w (by omega)) gn_X3_runThrough_X4_placesOf rfl (List.mem_of_getElem? (i := 20) rfl) (List.mem_of_getElem? (i := 3) rfl) (List.mem_of_getElem? (i := 2) rfl) hd_X4_placesOf ⟨Nat.le_of_ble_eq_true rfl, Nat.le_of_ble_eq_true rfl⟩ ⟨Nat.le_of_ble_eq_true rfl, Nat.le_of_ble_eq_true rfl⟩ [] rfl (by decide) (Nat.le_of_ble_eq_true rfl) dX3_runThrough_1) (fun v_1 hv_1 => ?_)
  subst hv_1
  have hdg_1 := dgs_le 6 w
  refine ek_is (lv' := [(5, .int (nI (dgs 6 w))), (0, .ref (ad 32)), (1, .int (nI w)), (2, .int (nI b)), (3, .int (nI x)), (4, .ref (ad e))]) X (by decide) rfl dX3_runThrough_4 ?_
  refine ek_al X 5 rfl dX3_runThrough_6 ?_
  refine ek_il X 0 rfl dX3_runThrough_8 ?_
  refine ek_iln X 4 rfl dX3_runThrough_10 ?_
  refine ek_doWv X (ek_runV (As := [.int (nI (dgs 6 w)), .int (nI x)]) (rest := []) X (c_X2_begin l D cI cJ cR ad e h (dgs 6 w) x) gX3_runThrough_X2_begin rfl hdV_X2_begin ⟨Nat.le_of_ble_eq_true rfl, Nat.le_of_ble_eq_true rfl⟩ ⟨Nat.le_of_ble_eq_true rfl, Nat.le_of_ble_eq_true rfl⟩ [31, 32, 33] rfl (by decide) 0 2 rfl rfl (Nat.le_of_ble_eq_true rfl) dX3_runThrough_11) [31, 32, 33] [0, 1, 2, 3, 4, 5, 6, 7, 8, 9, 10, 11, 12, 13, 14, 15, 16, 17, 18, 19, 20, 21, 22, 23, 24, 25, 26, 27, 28, 29, 30] rfl rfl (by decide) (by decide) (fun _ => wS ad e cI cJ cR g q u (hBegin h (dgs 6 w) x)) [0, 1, 2, 3, 4, 5, 6, 7, 8, 9, 10, 11, 12, 13, 14, 15, 16, 17, 18, 19, 20, 21, 22, 23, 24, 25, 26, 27, 28, 29, 30, 31, 32, 33] (by decide) (fun _ => rfl) (fun u_11 hv_11 => ?_)
  refine ek_aln X 1 rfl dX3_runThrough_14 ?_
  refine ek_iln X 2 rfl dX3_runThrough_15 ?_
  refine ek_il X 0 rfl dX3_runThrough_16 ?_
  refine ek_iln X 3 rfl dX3_runThrough_18 ?_
  refine ek_doWv X (ek_runV (As := [.int (nI w), .int (nI (dgs 6 w)), .int (nI b)]) (rest := []) X (c_X3_begin l D cI cJ cR ad e u ((hBegin h (dgs 6 w) x)) g q hB hI w (dgs 6 w) b hw hd1 hdg6 hb) gX3_runThrough_X3_begin rfl hdV_X3_begin ⟨Nat.le_of_ble_eq_true rfl, Nat.le_of_ble_eq_true rfl⟩ ⟨Nat.le_of_ble_eq_true rfl, Nat.le_of_ble_eq_true rfl⟩ [0, 1, 2, 3, 4, 5, 6, 7, 8, 9, 10, 11, 12, 13, 14, 15, 16, 17, 18, 19, 20, 21, 22, 23, 24, 25, 26, 27, 28, 29, 30, 31, 32, 33] rfl (by decide) 0 3 rfl rfl (Nat.le_of_ble_eq_true rfl) dX3_runThrough_19) [0, 1, 2, 3, 4, 5, 6, 7, 8, 9, 10, 11, 12, 13, 14, 15, 16, 17, 18, 19, 20, 21, 22, 23, 24, 25, 26, 27, 28, 29, 30, 31, 32, 33] [] rfl rfl (by decide) (by decide) (fun _ => wS ad e cI cJ cR (gBegin w (dgs 6 w) b g q).1 (gBegin w (dgs 6 w) b g q).2 u (hBegin h (dgs 6 w) x)) [0, 1, 2, 3, 4, 5, 6, 7, 8, 9, 10, 11, 12, 13, 14, 15, 16, 17, 18, 19, 20, 21, 22, 23, 24, 25, 26, 27, 28, 29, 30, 31, 32, 33] (by decide) (fun _ => rfl) (fun u_19 hv_19 => ?_)
  refine ek_ic (v := nI 0) X (by decide) dX3_runThrough_22 ?_
  refine ek_is (lv' := [(6, .int (nI 0)), (5, .int (nI (dgs 6 w))), (0, .ref (ad 32)), (1, .int (nI w)), (2, .int (nI b)), (3, .int (nI x)), (4, .ref (ad e))]) X (by decide) rfl dX3_runThrough_23 ?_
  refine ek_loopAt (σ := Nat × SndT × QueT × EchT) (fun zz => (fun (k : Nat) (g1 : SndT) (q1 : QueT) (h1 : EchT) => k ≤ 629 ∧ sOk g1 q1 ∧ hOk h1 ∧ gLoop u (629 - k) (g1, q1, h1) = gLoop u 629 ((gBegin w (dgs 6 w) b g q).1, (gBegin w (dgs 6 w) b g q).2, hBegin h (dgs 6 w) x)) zz.1 zz.2.1 zz.2.2.1 zz.2.2.2) (fun zz => (fun (k : Nat) (g1 : SndT) (q1 : QueT) (h1 : EchT) => 629 - k) zz.1 zz.2.1 zz.2.2.1 zz.2.2.2) (fun zz => (fun (k : Nat) (g1 : SndT) (q1 : QueT) (h1 : EchT) => wS ad e cI cJ cR g1 q1 u h1) zz.1 zz.2.1 zz.2.2.1 zz.2.2.2) (fun zz => (fun (k : Nat) (g1 : SndT) (q1 : QueT) (h1 : EchT) => [(0, .ref (ad 32)), (1, .int (nI w)), (2, .int (nI b)), (3, .int (nI x)), (4, .ref (ad e)), (5, .int (nI (dgs 6 w))), (6, .int (nI k))]) zz.1 zz.2.1 zz.2.2.1 zz.2.2.2) ?_ (0, (gBegin w (dgs 6 w) b g q).1, (gBegin w (dgs 6 w) b g q).2, (hBegin h (dgs 6 w) x)) ⟨by omega, hI1, hBegin_ok hH hdg6 hx, rfl⟩ rfl [2, 3, 4, 5, 6, 1, 0] rfl
  intro zz ha_25 ih_25
  obtain ⟨k, g1, q1, h1⟩ := zz
  replace ha_25 : k ≤ 629 ∧ sOk g1 q1 ∧ hOk h1 ∧ gLoop u (629 - k) (g1, q1, h1) = gLoop u 629 ((gBegin w (dgs 6 w) b g q).1, (gBegin w (dgs 6 w) b g q).2, hBegin h (dgs 6 w) x) := ha_25
  refine ek_cast (w' := wS ad e cI cJ cR g1 q1 u h1) rfl ?_
  refine ek_castL (lv' := [(0, .ref (ad 32)), (1, .int (nI w)), (2, .int (nI b)), (3, .int (nI x)), (4, .ref (ad e)), (5, .int (nI (dgs 6 w))), (6, .int (nI k))]) rfl ?_
  have hq1 := ha_25.2.1.2.2.2.2.2.1
  have hI2 := ha_25.2.1
  have hH2 := ha_25.2.2.1
  refine ek_il X 6 rfl dX3_runThrough_25 ?_
  refine ek_sp (v := nI 629) X (by decide) dX3_runThrough_27 ?_
  refine ek_Nge X (by omega) (by omega) 62 (by decide) dX3_runThrough_30 (fun c_30 => ?_) (fun c_30 => ?_)
  · skip
    exact ek_retv X () ⟨rfl, trivial⟩ (by obtain ⟨j1, j2, j3, j4⟩ := ha_25; have j5 : gThrough u w b x g q h = (g1, q1, h1) := (by show gLoop u 629 ((gBegin w (dgs 6 w) b g q).1, (gBegin w (dgs 6 w) b g q).2, hBegin h (dgs 6 w) x) = _; rw [← j4]; first | (rw [show 629 - k = 0 by omega]; rfl) | (cases (629 - k) with | zero => rfl | succ f => exact if_pos c_37)); rw [j5]) dX3_runThrough_62
  · skip
    refine ek_aln X 0 rfl dX3_runThrough_33 ?_
    refine ek_get X hin_X3_runThrough_X3 0 rfl rfl 1 (by decide) (List.mem_of_getElem? (i := 1) rfl) rfl dX3_runThrough_34 ?_
    refine ek_doRi (ek_runV (As := []) (rest := []) X (c_X1_isEmpty l D cI cJ cR ad q1 hq1) gX3_runThrough_X1_isEmpty rfl hdV_X1_isEmpty ⟨Nat.le_of_ble_eq_true rfl, Nat.le_of_ble_eq_true rfl⟩ ⟨Nat.le_of_ble_eq_true rfl, Nat.le_of_ble_eq_true rfl⟩ [4, 5] rfl (by decide) 0 1 rfl rfl (Nat.le_of_ble_eq_true rfl) dX3_runThrough_37) (fun v_37 hv_37 => ?_)
    subst hv_37
    by_cases c_37 : qN q1 = 0
    · refine ek_top (v' := nI 1) (congrArg nI (if_pos c_37)) ?_
      refine ek_Zne X (by omega) 62 (by decide) dX3_runThrough_40 (fun _ => ?_) (fun h => absurd h (by omega))
      exact ek_retv X () ⟨rfl, trivial⟩ (by obtain ⟨j1, j2, j3, j4⟩ := ha_25; have j5 : gThrough u w b x g q h = (g1, q1, h1) := (by show gLoop u 629 ((gBegin w (dgs 6 w) b g q).1, (gBegin w (dgs 6 w) b g q).2, hBegin h (dgs 6 w) x) = _; rw [← j4]; first | (rw [show 629 - k = 0 by omega]; rfl) | (cases (629 - k) with | zero => rfl | succ f => exact if_pos c_37)); rw [j5]) dX3_runThrough_62
    · refine ek_top (v' := nI 0) (congrArg nI (if_neg c_37)) ?_
      refine ek_Zne X (by omega) 62 (by decide) dX3_runThrough_40 (fun h => absurd h (by omega)) (fun _ => ?_)
      refine ek_aln X 0 rfl dX3_runThrough_43 ?_
      refine ek_aln X 0 rfl dX3_runThrough_44 ?_
      refine ek_get X hin_X3_runThrough_X3 0 rfl rfl 1 (by decide) (List.mem_of_getElem? (i := 1) rfl) rfl dX3_runThrough_45 ?_
      refine ek_doWi X (ek_runV (As := []) (rest := [.ref (ad 32)]) X (c_X1_takeNext l D cI cJ cR ad q1 hq1 (by omega)) gX3_runThrough_X1_takeNext rfl hdV_X1_takeNext ⟨Nat.le_of_ble_eq_true rfl, Nat.le_of_ble_eq_true rfl⟩ ⟨Nat.le_of_ble_eq_true rfl, Nat.le_of_ble_eq_true rfl⟩ [4, 5] rfl (by decide) 0 1 rfl rfl (Nat.le_of_ble_eq_true rfl) dX3_runThrough_48) [4, 5] [0, 1, 2, 3, 6, 7, 8, 9, 10, 11, 12, 13, 14, 15, 16, 17, 18, 19, 20, 21, 22, 23, 24, 25, 26, 27, 28, 29, 30, 31, 32, 33] rfl rfl (by decide) (by decide) (fun _ => wS ad e cI cJ cR g1 (qTake q1) u h1) [0, 1, 2, 3, 32, 33, 4, 5, 6, 7, 8, 9, 10, 11, 12, 13, 14, 15, 16, 17, 18, 19, 20, 21, 22, 23, 24, 25, 26, 27, 28, 29, 30, 31] (by decide) (fun _ => rfl) (fun v_48 u_48 hv_48 => ?_)
      subst hv_48
      refine ek_al X 4 rfl dX3_runThrough_51 ?_
      refine ek_doWv X (ek_runV (As := [.int (nI (qH q1 0)), .ref (ad e)]) (rest := []) X (c_X3_come l D cI cJ cR ad e u h1 g1 ((qTake q1)) hB (take_ok hI2) hH2 (qH q1 0) (hq1.2 0)) gX3_runThrough_X3_come rfl hdV_X3_come ⟨Nat.le_of_ble_eq_true rfl, Nat.le_of_ble_eq_true rfl⟩ ⟨Nat.le_of_ble_eq_true rfl, Nat.le_of_ble_eq_true rfl⟩ [0, 1, 2, 3, 4, 5, 6, 7, 8, 9, 10, 11, 12, 13, 14, 15, 16, 17, 18, 19, 20, 21, 22, 23, 24, 25, 26, 27, 28, 29, 30, 31, 32, 33] rfl (by decide) 0 3 rfl rfl (Nat.le_of_ble_eq_true rfl) dX3_runThrough_53) [0, 1, 2, 3, 4, 5, 6, 7, 8, 9, 10, 11, 12, 13, 14, 15, 16, 17, 18, 19, 20, 21, 22, 23, 24, 25, 26, 27, 28, 29, 30, 31, 32, 33] [] rfl rfl (by decide) (by decide) (fun _ => wS ad e cI cJ cR (gCome u (qH q1 0) g1 ((qTake q1)) h1).1 (gCome u (qH q1 0) g1 ((qTake q1)) h1).2.1 u (gCome u (qH q1 0) g1 ((qTake q1)) h1).2.2) [0, 1, 2, 3, 4, 5, 6, 7, 8, 9, 10, 11, 12, 13, 14, 15, 16, 17, 18, 19, 20, 21, 22, 23, 24, 25, 26, 27, 28, 29, 30, 31, 32, 33] (by decide) (fun _ => rfl) (fun u_53 hv_53 => ?_)
      refine ek_Ninc (j := 6) (d := 1) (lv' := [(6, .int (nI (k + 1))), (0, .ref (ad 32)), (1, .int (nI w)), (2, .int (nI b)), (3, .int (nI x)), (4, .ref (ad e)), (5, .int (nI (dgs 6 w)))]) X rfl (by decide) rfl dX3_runThrough_56 ?_
      refine ek_goto X 25 (by decide) dX3_runThrough_59 ?_
      refine ek_re [1, 2, 3, 4, 5, 6, 0] rfl ?_
      exact ih_25 (k + 1, (gCome u (qH q1 0) g1 ((qTake q1)) h1).1, (gCome u (qH q1 0) g1 ((qTake q1)) h1).2.1, (gCome u (qH q1 0) g1 ((qTake q1)) h1).2.2) (show (k + 1) ≤ 629 ∧ sOk ((gCome u (qH q1 0) g1 ((qTake q1)) h1).1) ((gCome u (qH q1 0) g1 ((qTake q1)) h1).2.1) ∧ hOk ((gCome u (qH q1 0) g1 ((qTake q1)) h1).2.2) ∧ gLoop u (629 - (k + 1)) (((gCome u (qH q1 0) g1 ((qTake q1)) h1).1), ((gCome u (qH q1 0) g1 ((qTake q1)) h1).2.1), ((gCome u (qH q1 0) g1 ((qTake q1)) h1).2.2)) = gLoop u 629 ((gBegin w (dgs 6 w) b g q).1, (gBegin w (dgs 6 w) b g q).2, hBegin h (dgs 6 w) x) from (by obtain ⟨j1, j2, j3, j4⟩ := ha_25; obtain ⟨j5, j6⟩ := gCome_ok hB (take_ok j2) j3 (j2.2.2.2.2.2.1.2 0); refine ⟨by omega, j5, j6, ?_⟩; rw [← j4, show 629 - k = (629 - (k + 1)) + 1 by omega]; exact (if_neg c_37).symm)) (by show 629 - (k + 1) < 629 - k; omega)
