/-! ===== EchoCave.Sound ===== -/
abbrev bitK (u : CaveT) (i c : Nat) : Nat := 2 * i + (if cFrm u i = c then 0 else 1)
abbrev sUse (g : SndT) (r k : Nat) : SndT := (sR g, sCl g, sSy g, sPl g, eN (sU g) r (sU g r ||| 2 ^ k))
def gGo (u : CaveT) (i c r t z : Nat) (g : SndT) (q : QueT) : SndT × QueT := if 200 < t + cLen u i then (g, q) else if sU g r &&& 2 ^ bitK u i c = 0 then (sUse g r (bitK u i c), qPut q (pkC (t + cLen u i) (cOth u i c) r (i + 1) (cBeh u i z))) else (g, q)
def sRun (y p c t z : Nat) (g : SndT) (q : QueT) : SndT × QueT := ((sR g + 1, sCl g, eN (sSy g) (sR g) y, eN (sPl g) (sR g) p, eN (sU g) (sR g) 0), qPut q (pkC t c (sR g) 0 z))
abbrev sBits (n : Nat) : Nat := fb_ct (fun k => n.testBit k) 36
def sPot (g : SndT) : Nat := fb_sm (fun r => 1 + sBits (sU g r)) (sR g)
def sOk (g : SndT) (q : QueT) : Prop := sR g ≤ 17 ∧ sCl g < 4096 ∧ (∀ j, sSy g j ≤ 9) ∧ (∀ j, sPl g j < 6) ∧ (∀ j, sU g j < 68719476736) ∧ qOk q ∧ qN q ≤ sPot g
theorem qUp_lt {M : Nat} : ∀ (f : Nat) (h : Nat → Nat) (t x : Nat), (∀ j, h j < M) → x < M → ∀ j, qUp f h t x j < M
  | 0, h, t, x, h1, h2, j => eN_lt h1 h2 j
  | f + 1, h, t, x, h1, h2, j => by
    unfold qUp
    split
    · exact qUp_lt f _ _ x (eN_lt h1 (h1 _)) h2 j
    · exact eN_lt h1 h2 j
theorem qSink_lt {M n : Nat} : ∀ (f : Nat) (h : Nat → Nat) (t x : Nat), (∀ j, h j < M) → x < M → ∀ j, qSink n f h t x j < M
  | 0, h, t, x, h1, h2, j => eN_lt h1 h2 j
  | f + 1, h, t, x, h1, h2, j => by
    rw [qSink_s]
    split
    · split
      · exact eN_lt h1 h2 j
      · exact qSink_lt f _ _ x (eN_lt h1 (h1 _)) h2 j
    · exact eN_lt h1 h2 j
theorem qPut_ok {q : QueT} {x : Nat} (h : qOk q) (hs : qN q < 629) (hx : x < 2147483648) : qOk (qPut q x) := ⟨by show qN q + 1 ≤ 629; omega, qUp_lt _ _ _ _ h.2 hx⟩
theorem qTake_ok {q : QueT} (h : qOk q) : qOk (qTake q) := ⟨by have := h.1; show qN q - 1 ≤ 629; omega, qSink_lt _ _ _ _ h.2 (h.2 _)⟩
theorem sPot_le (g : SndT) : sPot g ≤ sR g * 37 := fb_sm_bound (fun k _ => by have := fb_ct_le (fun j => (sU g k).testBit j) 36; show 1 + fb_ct (fun j => (sU g k).testBit j) 36 ≤ 37; omega)
theorem or_lt36 {a k : Nat} (h : a < 68719476736) (hk : k < 36) : a ||| 2 ^ k < 68719476736 := by
  have h2 : 2 ^ k < 2 ^ 36 := Nat.pow_lt_pow_right (by omega) hk
  exact Nat.or_lt_two_pow (n := 36) h h2
theorem sBits_or {a k : Nat} (hk : k < 36) (h : a &&& 2 ^ k = 0) : sBits (a ||| 2 ^ k) = sBits a + 1 := by
  have hb : a.testBit k = false := (fb_bit_nat a k).mp h
  have h1 := fb_ct_upd (fun j => a.testBit j) true (i := k) (n := 36) hk
  have h2 : fb_ct (fun j => (a ||| 2 ^ k).testBit j) 36 = fb_ct (fun j => if j = k then true else a.testBit j) 36 := fb_ct_cong (fun j _ => by
    rw [fb_bit_set]
    by_cases e : j = k <;> simp [e])
  simp only [hb, if_true] at h1
  show fb_ct _ 36 = fb_ct _ 36 + 1
  rw [h2]
  simpa using h1
theorem sPot_use {g : SndT} {r k : Nat} (hr : r < sR g) (hk : k < 36) (h : sU g r &&& 2 ^ k = 0) : sPot (sUse g r k) = sPot g + 1 := by
  have h1 := fb_sm_upd (fun j => 1 + sBits (sU g j)) (1 + sBits (sU g r ||| 2 ^ k)) (i := r) (n := sR g) hr
  have h2 : fb_sm (fun j => 1 + sBits (eN (sU g) r (sU g r ||| 2 ^ k) j)) (sR g) = fb_sm (fun j => if j = r then 1 + sBits (sU g r ||| 2 ^ k) else 1 + sBits (sU g j)) (sR g) := fb_sm_cong (fun j _ => by
    by_cases e : j = r <;> simp [eN, e])
  have h3 := sBits_or hk h
  show fb_sm (fun j => 1 + sBits (eN (sU g) r (sU g r ||| 2 ^ k) j)) (sR g) = fb_sm (fun j => 1 + sBits (sU g j)) (sR g) + 1
  rw [h2]
  omega
theorem sPot_run {g : SndT} (y p : Nat) : sPot (sR g + 1, sCl g, eN (sSy g) (sR g) y, eN (sPl g) (sR g) p, eN (sU g) (sR g) 0) = sPot g + 1 := by
  show fb_sm (fun j => 1 + sBits (eN (sU g) (sR g) 0 j)) (sR g + 1) = fb_sm (fun j => 1 + sBits (sU g j)) (sR g) + 1
  rw [fb_sm_succ]
  have h2 : fb_sm (fun j => 1 + sBits (eN (sU g) (sR g) 0 j)) (sR g) = fb_sm (fun j => 1 + sBits (sU g j)) (sR g) := fb_sm_cong (fun j hj => by rw [eN_ne _ _ (by omega)])
  rw [h2, eN_self]
  have h3 : sBits 0 = 0 := by decide
  omega
theorem bitK_lt (u : CaveT) {i c : Nat} (hi : i < 18) : bitK u i c < 36 := by
  unfold bitK
  split <;> omega
theorem cBeh_lt (u : CaveT) (i : Nat) {z : Nat} (hz : z < 128) : cBeh u i z < 128 := by
  have h1 : z * (90 - 5 * cNar u i) ≤ z * 90 := Nat.mul_le_mul (Nat.le_refl _) (Nat.sub_le _ _)
  show z * (90 - 5 * cNar u i) / 100 < 128
  omega
theorem cOth_lt {u : CaveT} (hB : cOk u) (i c : Nat) : cOth u i c < 12 := by
  obtain ⟨-, -, -, -, -, -, -, -, -, bFrm, bTo, -⟩ := hB
  have := bFrm i
  have := bTo i
  unfold cOth
  split <;> omega
theorem use_room {g : SndT} {q : QueT} {r k : Nat} (h : sOk g q) (hr : r < sR g) (hk : k < 36) (hb : sU g r &&& 2 ^ k = 0) : qN q < 629 := by
  obtain ⟨h1, h2, h3, h4, h5, h6, h7⟩ := h
  have e1 := sPot_use hr hk hb
  have e2 : sPot (sUse g r k) ≤ sR g * 37 := sPot_le (sUse g r k)
  omega
theorem gGo_ok {u : CaveT} {g : SndT} {q : QueT} (hB : cOk u) (h : sOk g q) {i c r t z : Nat} (hi : i < 18) (hr : r < sR g) (hz : z < 128) : sOk (gGo u i c r t z g q).1 (gGo u i c r t z g q).2 ∧ sR (gGo u i c r t z g q).1 = sR g := by
  unfold gGo
  split
  · exact ⟨h, rfl⟩
  · rename_i ht
    split
    · rename_i hb
      have hk := bitK_lt u (c := c) hi
      have hq := use_room h hr hk hb
      have e1 := sPot_use hr hk hb
      have hz2 := cBeh_lt u i hz
      have ho := cOth_lt hB i c
      obtain ⟨h1, h2, h3, h4, h5, h6, h7⟩ := h
      refine ⟨⟨h1, h2, h3, h4, fun j => ?_, qPut_ok h6 hq ?_, ?_⟩, rfl⟩
      · exact eN_lt h5 (or_lt36 (h5 _) hk) j
      · show (t + cLen u i) * 2097152 + cOth u i c * 131072 + r * 4096 + (i + 1) * 128 + cBeh u i z < 2147483648
        omega
      · rw [e1]
        show qN q + 1 ≤ _
        omega
    · exact ⟨h, rfl⟩
theorem sRun_ok {g : SndT} {q : QueT} (h : sOk g q) {y p c t z : Nat} (hr : sR g < 17) (hy : y ≤ 9) (hp : p < 6) (hc : c < 12) (ht : t ≤ 200) (hz : z < 128) : sOk (sRun y p c t z g q).1 (sRun y p c t z g q).2 ∧ qN q < 629 := by
  obtain ⟨h1, h2, h3, h4, h5, h6, h7⟩ := h
  have e1 := sPot_le g
  have e2 := sPot_run (g := g) y p
  have hq : qN q < 629 := by omega
  refine ⟨⟨by show sR g + 1 ≤ 17; omega, h2, fun j => ?_, fun j => eN_lt h4 hp j, fun j => eN_lt h5 (by omega) j, qPut_ok h6 hq ?_, ?_⟩, hq⟩
  · have := eN_lt (M := 10) (h := sSy g) (t := sR g) (v := y) (fun j => by have := h3 j; omega) (by omega) j
    show eN (sSy g) (sR g) y j ≤ 9
    omega
  · show t * 2097152 + c * 131072 + sR g * 4096 + 0 * 128 + z < 2147483648
    omega
  · show qN q + 1 ≤ sPot (sR g + 1, sCl g, eN (sSy g) (sR g) y, eN (sPl g) (sR g) p, eN (sU g) (sR g) 0)
    omega
def sRunG (y p c t z : Nat) (g : SndT) (q : QueT) : SndT × QueT := if 17 ≤ sR g then (g, q) else sRun y p c t z g q
theorem sRunG_ok {g : SndT} {q : QueT} (h : sOk g q) {y p c t z : Nat} (hy : y ≤ 9) (hp : p < 6) (hc : c < 12) (ht : t ≤ 200) (hz : z < 128) : sOk (sRunG y p c t z g q).1 (sRunG y p c t z g q).2 ∧ sR g ≤ sR (sRunG y p c t z g q).1 := by
  unfold sRunG
  split
  · exact ⟨h, Nat.le_refl _⟩
  · exact ⟨(sRun_ok h (by omega) hy hp hc ht hz).1, Nat.le_succ _⟩
abbrev sClp (g : SndT) (c : Nat) : SndT := (sR g, sCl g ||| 2 ^ c, sSy g, sPl g, sU g)
theorem sClp_ok {g : SndT} {q : QueT} (h : sOk g q) {c : Nat} (hc : c < 12) : sOk (sClp g c) q := by
  obtain ⟨h1, h2, h3, h4, h5, h6, h7⟩ := h
  exact ⟨h1, Nat.or_lt_two_pow (n := 12) h2 (Nat.pow_lt_pow_right (by omega) hc), h3, h4, h5, h6, h7⟩
def gClap (u : CaveT) (c r t : Nat) (g : SndT) (q : QueT) : SndT × QueT := if cSyl u c = sSy g r ∧ sCl g &&& 2 ^ c = 0 ∧ t + cDel u c ≤ 200 then sRunG (sSy g r) (sPl g r) c (t + cDel u c) 60 (sClp g c) q else (g, q)
theorem gClap_ok {u : CaveT} {g : SndT} {q : QueT} (h : sOk g q) {c r t : Nat} (hc : c < 12) : sOk (gClap u c r t g q).1 (gClap u c r t g q).2 ∧ sR g ≤ sR (gClap u c r t g q).1 := by
  unfold gClap
  split
  · rename_i hh
    have h9 := h
    obtain ⟨h1, h2, h3, h4, h5, h6, h7⟩ := h9
    exact sRunG_ok (sClp_ok h hc) (h3 r) (h4 r) hc hh.2.2 (by omega)
  · exact ⟨h, Nat.le_refl _⟩
def gOnS (u : CaveT) (c r : Nat) (w : Int32) (t z d : Nat) (s : SndT × QueT) : SndT × QueT := if nI (cPb u c d) = w then s else if cOpen u (cPb u c d) then gGo u (cPb u c d) c r t z s.1 s.2 else s
def gOn (u : CaveT) (c r : Nat) (w : Int32) (t z : Nat) (g : SndT) (q : QueT) : Nat → SndT × QueT
  | 0 => (g, q)
  | d + 1 => gOnS u c r w t z d (gOn u c r w t z g q d)
theorem gOnS_ok {u : CaveT} {s : SndT × QueT} (hB : cOk u) (h : sOk s.1 s.2) {c r t z d : Nat} {w : Int32} (hr : r < sR s.1) (hz : z < 128) : sOk (gOnS u c r w t z d s).1 (gOnS u c r w t z d s).2 ∧ sR (gOnS u c r w t z d s).1 = sR s.1 := by
  unfold gOnS
  split
  · exact ⟨h, rfl⟩
  · split
    · exact gGo_ok hB h (hB.2.2.2.2.2.2.2.2.2.2.2.2.2 c d) hr hz
    · exact ⟨h, rfl⟩
theorem gOn_ok {u : CaveT} {g : SndT} {q : QueT} (hB : cOk u) (h : sOk g q) {c r t z : Nat} {w : Int32} (hr : r < sR g) (hz : z < 128) : ∀ d, sOk (gOn u c r w t z g q d).1 (gOn u c r w t z g q d).2 ∧ sR (gOn u c r w t z g q d).1 = sR g
  | 0 => ⟨h, rfl⟩
  | d + 1 => by
    obtain ⟨i1, i2⟩ := gOn_ok hB h hr hz (w := w) (c := c) (t := t) d
    obtain ⟨j1, j2⟩ := gOnS_ok hB i1 (c := c) (r := r) (t := t) (z := z) (d := d) (w := w) (by omega) hz
    exact ⟨j1, by show sR (gOnS u c r w t z d (gOn u c r w t z g q d)).1 = sR g; rw [j2, i2]⟩
abbrev pW (b : Nat) : Int32 := if b = 0 then -1 else nI (b - 1)
def gRest (u : CaveT) (t c r b z : Nat) (g : SndT) (q : QueT) : SndT × QueT := if c ≠ 0 ∧ 0 < b then gGo u (b - 1) c r t (z * cWal u c / 100) g q else (g, q)
def gFar (u : CaveT) (t c r b z : Nat) (g : SndT) (q : QueT) : SndT × QueT := gRest u t c r b z (gOn u c r (pW b) t z (gClap u c r t g q).1 (gClap u c r t g q).2 (cDrs u c)).1 (gOn u c r (pW b) t z (gClap u c r t g q).1 (gClap u c r t g q).2 (cDrs u c)).2
def hMay (t c r b z : Nat) (g : SndT) (h : EchT) : EchT := if c = 0 ∧ 0 < b then hHear h t (sPl g r) (sSy g r) z else h
def gComeP (u : CaveT) (t c r b z : Nat) (g : SndT) (q : QueT) (h : EchT) : SndT × QueT × EchT := if sR g ≤ r ∨ cC u ≤ c ∨ cP u < b then (g, q, h) else if z < 2 * cBat u c + 1 then (g, q, hMay t c r b z g h) else ((gFar u t c r b z g q).1, (gFar u t c r b z g q).2, hMay t c r b z g h)
def gCome (u : CaveT) (x : Nat) (g : SndT) (q : QueT) (h : EchT) : SndT × QueT × EchT := gComeP u (x / 2 ^ 21) (x / 2 ^ 17 % 2 ^ 4) (x / 2 ^ 12 % 2 ^ 5) (x / 2 ^ 7 % 2 ^ 5) (x % 2 ^ 7) g q h
theorem hasC {c C : Nat} (h1 : 1 ≤ C) (h2 : C ≤ 12) (hc : c < 16) : (nI 0 ≤ nI c ∧ nI c ≤ nI (C - 1)) ↔ c < C := by
  rw [nI_leI (by omega) (by omega), nI_leI (by omega) (by omega)]
  omega
theorem hHear_ok {h : EchT} (hh : hOk h) {t p y z : Nat} (ht : t < 1024) (hp : p < 6) (hy : y ≤ 9) (hz : z < 128) : hOk (hHear h t p y z) := by
  obtain ⟨h1, h2, h3, h4, h5, h6⟩ := hh
  have hf : ∀ j, hFa (hKeep h t p y z) j < 1024 := fun j => by
    refine eN_lt (fun j => eN_lt (fun j => eN_lt (fun j => eN_lt (fun j => eN_lt h6 ht j) (by omega) j) (by omega) j) (by omega) j) ?_ j
    split <;> omega
  unfold hHear
  split
  · exact ⟨h1, h2, h3, h4, h5, h6⟩
  · split
    · refine ⟨h1, h2, by show hK h + 1 ≤ 60; omega, by show hCt h + 1 ≤ hK h + 1; omega, ?_, hf⟩
      show (if p = hOr h then hOr h + 1 else hOr h) ≤ hCt h + 1
      split <;> omega
    · exact ⟨h1, h2, by show hK h + 1 ≤ 60; omega, by show hCt h ≤ hK h + 1; omega, h5, hf⟩
theorem wS_row {ad : Nat → Nat} {e : Nat} {cI cJ cR : ClassId} {g : SndT} {q : QueT} {u : CaveT} {h : EchT} (c : Nat) (hc : c < 12) : (wS ad e cI cJ cR g q u h)[19 + c]? = some (ad (13 + c), .inl (cI, 18, .inl (fun j => nI (cPb u c j)))) := by
  rcases (show c = 0 ∨ c = 1 ∨ c = 2 ∨ c = 3 ∨ c = 4 ∨ c = 5 ∨ c = 6 ∨ c = 7 ∨ c = 8 ∨ c = 9 ∨ c = 10 ∨ c = 11 by omega) with rfl | rfl | rfl | rfl | rfl | rfl | rfl | rfl | rfl | rfl | rfl | rfl <;> rfl
theorem lcmp0 {a k : Nat} (ha : a < 68719476736) (hk : k < 36) : lg_cmp (lN a &&& lN (1 * 2 ^ k)) (lN 0) = 0 ↔ a &&& 2 ^ k = 0 := by
  have hp : 2 ^ k < 2 ^ 36 := Nat.pow_lt_pow_right (by omega) hk
  have h1 : a &&& 2 ^ k < 2 ^ 36 := Nat.and_lt_two_pow _ hp
  rw [Nat.one_mul, fb_andL]
  have h2 := @fb_lN_inj (a &&& 2 ^ k) 0 (by omega) (by omega)
  have h3 := @pk_lLT 0 (a &&& 2 ^ k) (by omega) (by omega)
  unfold lg_cmp
  by_cases e : a &&& 2 ^ k = 0
  · simp [e]
  · have h4 : lN (a &&& 2 ^ k) > lN 0 := h3.mpr (by omega)
    rw [if_pos h4]
    simp [e]
theorem m1_lt {n : Nat} (h : n < 2147483648) : (-1 : Int32) < nI n := by
  rw [fa_lt, nI_toInt h]
  have : (-1 : Int32).toInt = -1 := by decide
  omega

theorem hin_X3_goInto_X0 : ∀ x ∈ wsX00, x ∈ wsX3_goInto := fun x h => List.mem_cons_of_mem _ (List.mem_append_left _ (List.mem_append_right _ h))
theorem hin_X3_goInto_X3 : ∀ x ∈ wsX30, x ∈ wsX3_goInto := fun x h => List.mem_cons_of_mem _ (List.mem_append_left _ (List.mem_append_left _ (List.mem_append_right _ h)))
abbrev rm_X3_goInto : Room := { frames := 2, cells := 0, slots := 0, locals := 36 }
set_option maxHeartbeats 4000000 in
set_option maxRecDepth 100000 in
theorem c_X3_goInto (l : Launch) (D : va_G) (cI cJ cR : ClassId) (ad : Nat → Nat) (e : Nat) (u : CaveT) (h : EchT) (g : SndT) (q : QueT) (hB : cOk u) (hI : sOk g q) (i c r t z : Nat) (hi : i < 18) (hc : c < 12) (hr : r < sR g) (ht : t < 1024) (hz : z < 128) : ek_M (S := Unit) l yX3_goInto wsX3_goInto rm_X3_goInto D (tyW cI cJ cR) nestW [.ref (ad 32), .int (nI i), .int (nI c), .int (nI r), .int (nI t), .int (nI z)] (wS ad e cI cJ cR g q u h) (fun r9 _ => r9 = none ∧ True) (fun _ => wS ad e cI cJ cR (gGo u i c r t z g q).1 (gGo u i c r t z g q).2 u h) := by
  refine ek_M.of (cc := cX3_goInto) (maxL := 10) (ret := none) (by decide) rfl (Nat.le_of_ble_eq_true rfl) ?_
  intro p9 e9 s9 m9 args9 below9 meth9 c9 A X hin
  obtain ⟨⟨hC1, hC2⟩, hPs, hWt, bWal, bHgt, bBat, bSyl, bDel, bDrs, bFrm, bTo, bLen, bNar, bPb⟩ := id hB
  obtain ⟨hr17, hcl, hsy, hpl, hus, hq, hpo⟩ := id hI
  have hbk := bitK_lt u (c := c) hi
  have husr := hus r
  have hoth := cOth_lt hB i c
  have hbeh := cBeh_lt u i hz
  refine ek_castL (lv' := [(0, .ref (ad 32)), (1, .int (nI i)), (2, .int (nI c)), (3, .int (nI r)), (4, .int (nI t)), (5, .int (nI z))]) rfl ?_
  refine ek_il X 4 rfl dX3_goInto_0 ?_
  refine ek_aln X 0 rfl dX3_goInto_2 ?_
  refine ek_get X hin_X3_goInto_X3 0 rfl rfl 0 (by decide) (List.mem_of_getElem? (i := 1) rfl) rfl dX3_goInto_3 ?_
  refine ek_getN X hin_X3_goInto_X0 6 rfl rfl 11 (by decide) (List.mem_of_getElem? (i := 11) rfl) rfl dX3_goInto_6 ?_
  refine ek_iln X 1 rfl dX3_goInto_9 ?_
  refine ek_ald X 16 0 rfl rfl (by omega) (by omega) dX3_goInto_10 ?_
  have b1_10 := bLen i
  refine ek_Nadd X dX3_goInto_11 ?_
  refine ek_is (lv' := [(6, .int (nI (t + ((cLen u) i)))), (0, .ref (ad 32)), (1, .int (nI i)), (2, .int (nI c)), (3, .int (nI r)), (4, .int (nI t)), (5, .int (nI z))]) X (by decide) rfl dX3_goInto_12 ?_
  refine ek_lc (v := lN 1) X (by decide) dX3_goInto_14 ?_
  refine ek_ic (v := nI 2) X (by decide) dX3_goInto_15 ?_
  refine ek_iln X 2 rfl dX3_goInto_16 ?_
  refine ek_Nmul X dX3_goInto_17 ?_
  refine ek_aln X 1 rfl dX3_goInto_18 ?_
  refine ek_get X hin_X3_goInto_X3 0 rfl rfl 0 (by decide) (List.mem_of_getElem? (i := 1) rfl) rfl dX3_goInto_19 ?_
  refine ek_getN X hin_X3_goInto_X0 6 rfl rfl 9 (by decide) (List.mem_of_getElem? (i := 10) rfl) rfl dX3_goInto_22 ?_
  refine ek_iln X 2 rfl dX3_goInto_25 ?_
  refine ek_ald X 14 0 rfl rfl (by omega) (by omega) dX3_goInto_26 ?_
  have b2_26 := bFrm i
  refine ek_iln X 3 rfl dX3_goInto_27 ?_
  refine ek_Nne X (by omega) (by omega) 35 (by decide) dX3_goInto_28 (fun c_28 => ?_) (fun c_28 => ?_)
  · skip
    refine ek_ic (v := nI 1) X (by decide) dX3_goInto_35 ?_
    refine ek_Nadd X dX3_goInto_36 ?_
    refine ek_lshl X rfl dX3_goInto_37 ?_
    refine ek_topL (v' := lN (1 * 2 ^ bitK u i c)) (by rw [wb_shl 1 (by omega)]; exact congrArg (fun k => lN (1 * 2 ^ k)) (by show _ = 2 * i + (if cFrm u i = c then 0 else 1); first | rw [if_pos (by assumption)] | rw [if_neg (by assumption)])) ?_
    refine ek_ls (lv' := [(7, .long (lN (1 * 2 ^ bitK u i c))), (6, .int (nI (t + ((cLen u) i)))), (0, .ref (ad 32)), (1, .int (nI i)), (2, .int (nI c)), (3, .int (nI r)), (4, .int (nI t)), (5, .int (nI z))]) X (by decide) rfl dX3_goInto_38 ?_
    refine ek_il X 1 rfl dX3_goInto_40 ?_
    refine ek_sp (v := nI 200) X (by decide) dX3_goInto_42 ?_
    refine ek_Ngt X (by omega) (by omega) 62 (by decide) dX3_goInto_45 (fun c_45 => ?_) (fun c_45 => ?_)
    · skip
      exact ek_retv X () ⟨rfl, trivial⟩ (by unfold gGo; first | rw [if_pos (by omega)] | rw [if_neg (by omega), if_neg (fun h => c_59 ((lcmp0 husr hbk).mpr h))]) dX3_goInto_62
    · skip
      refine ek_aln X 2 rfl dX3_goInto_48 ?_
      refine ek_get X hin_X3_goInto_X3 0 rfl rfl 4 (by decide) (List.mem_of_getElem? (i := 2) rfl) rfl dX3_goInto_49 ?_
      refine ek_iln X 5 rfl dX3_goInto_52 ?_
      refine ek_lald X 3 1 rfl rfl (by omega) (by omega) dX3_goInto_53 ?_
      refine ek_ll X 0 rfl dX3_goInto_54 ?_
      refine ek_land X dX3_goInto_56 ?_
      refine ek_lc (v := lN 0) X (by decide) dX3_goInto_57 ?_
      refine ek_lcmp X dX3_goInto_58 ?_
      refine ek_if_eq X 63 (by decide) dX3_goInto_59 (fun c_59 => ?_) (fun c_59 => ?_)
      · skip
        refine ek_aln X 2 rfl dX3_goInto_63 ?_
        refine ek_get X hin_X3_goInto_X3 0 rfl rfl 4 (by decide) (List.mem_of_getElem? (i := 2) rfl) rfl dX3_goInto_64 ?_
        refine ek_iln X 5 rfl dX3_goInto_67 ?_
        refine ek_dup2 X rfl rfl dX3_goInto_68 ?_
        refine ek_lald X 3 1 rfl rfl (by omega) (by omega) dX3_goInto_69 ?_
        refine ek_ll X 0 rfl dX3_goInto_70 ?_
        refine ek_lor X dX3_goInto_72 ?_
        refine ek_topL (v' := lN (sU g r ||| 2 ^ bitK u i c)) (by rw [Nat.one_mul, fb_orL]) ?_
        refine ek_last (w' := wS ad e cI cJ cR (sR g, sCl g, sSy g, sPl g, eN (sU g) r ((sU g r ||| 2 ^ bitK u i c))) q u h) X 3 1 rfl rfl (by omega) (by omega) (by rw [← eN_comp lN]; rfl) dX3_goInto_73 ?_
        refine ek_aln X 2 rfl dX3_goInto_74 ?_
        refine ek_get X hin_X3_goInto_X3 0 rfl rfl 0 (by decide) (List.mem_of_getElem? (i := 1) rfl) rfl dX3_goInto_75 ?_
        refine ek_iln X 3 rfl dX3_goInto_78 ?_
        refine ek_iln X 4 rfl dX3_goInto_79 ?_
        refine ek_doRi (ek_runV (As := [.int (nI i), .int (nI c)]) (rest := []) X (c_X0_otherEnd l D cI cJ cR ad u hB i c (by omega) (by omega)) gX3_goInto_X0_otherEnd rfl hdV_X0_otherEnd ⟨Nat.le_of_ble_eq_true rfl, Nat.le_of_ble_eq_true rfl⟩ ⟨Nat.le_of_ble_eq_true rfl, Nat.le_of_ble_eq_true rfl⟩ [6, 7, 8, 9, 10, 11, 12, 13, 14, 15, 16, 17, 18, 19, 20, 21, 22, 23, 24, 25, 26, 27, 28, 29, 30] rfl (by decide) 0 0 rfl rfl (Nat.le_of_ble_eq_true rfl) dX3_goInto_80) (fun v_80 hv_80 => ?_)
        subst hv_80
        refine ek_is (lv' := [(9, .int (nI (cOth u i c))), (7, .long (lN (1 * 2 ^ bitK u i c))), (6, .int (nI (t + ((cLen u) i)))), (0, .ref (ad 32)), (1, .int (nI i)), (2, .int (nI c)), (3, .int (nI r)), (4, .int (nI t)), (5, .int (nI z))]) X (by decide) rfl dX3_goInto_83 ?_
        refine ek_aln X 3 rfl dX3_goInto_85 ?_
        refine ek_get X hin_X3_goInto_X3 0 rfl rfl 1 (by decide) (List.mem_of_getElem? (i := 3) rfl) rfl dX3_goInto_86 ?_
        refine ek_il X 2 rfl dX3_goInto_89 ?_
        refine ek_il X 0 rfl dX3_goInto_91 ?_
        refine ek_iln X 6 rfl dX3_goInto_93 ?_
        refine ek_iln X 4 rfl dX3_goInto_94 ?_
        refine ek_aln X 3 rfl dX3_goInto_95 ?_
        refine ek_get X hin_X3_goInto_X3 0 rfl rfl 0 (by decide) (List.mem_of_getElem? (i := 1) rfl) rfl dX3_goInto_96 ?_
        refine ek_iln X 4 rfl dX3_goInto_99 ?_
        refine ek_il X 8 rfl dX3_goInto_100 ?_
        refine ek_doRi (ek_runV (As := [.int (nI i), .int (nI z)]) (rest := [.int (nI i), .int (nI r), .int (nI (cOth u i c)), .int (nI (t + ((cLen u) i))), .ref (ad 30)]) X (c_X0_strengthBehind l D cI cJ cR ad u hB i z (by omega) (by omega)) gX3_goInto_X0_strengthBehind rfl hdV_X0_strengthBehind ⟨Nat.le_of_ble_eq_true rfl, Nat.le_of_ble_eq_true rfl⟩ ⟨Nat.le_of_ble_eq_true rfl, Nat.le_of_ble_eq_true rfl⟩ [6, 7, 8, 9, 10, 11, 12, 13, 14, 15, 16, 17, 18, 19, 20, 21, 22, 23, 24, 25, 26, 27, 28, 29, 30] rfl (by decide) 0 0 rfl rfl (Nat.le_of_ble_eq_true rfl) dX3_goInto_102) (fun v_102 hv_102 => ?_)
        subst hv_102
        refine ek_doRi (ek_runS (As := [.int (nI (t + ((cLen u) i))), .int (nI (cOth u i c)), .int (nI r), .int (nI i), .int (nI (cBeh u i z))]) (rest := [.ref (ad 30)]) X (c_X1_pack l D cI cJ cR (t + ((cLen u) i)) (cOth u i c) r (i + 1) (cBeh u i z) (nI i) (by omega) (by omega) (by omega) (by omega) (by omega) (nI_1 i)) gX3_goInto_X1_pack rfl hd_X1_pack ⟨Nat.le_of_ble_eq_true rfl, Nat.le_of_ble_eq_true rfl⟩ ⟨Nat.le_of_ble_eq_true rfl, Nat.le_of_ble_eq_true rfl⟩ [] rfl (by decide) (Nat.le_of_ble_eq_true rfl) dX3_goInto_105) (fun v_105 hv_105 => ?_)
        subst hv_105
        refine ek_doWv X (ek_runV (As := [.int (nI (pkC (t + ((cLen u) i)) (cOth u i c) r (i + 1) (cBeh u i z)))]) (rest := []) X (c_X1_put l D cI cJ cR ad q (pkC (t + ((cLen u) i)) (cOth u i c) r (i + 1) (cBeh u i z)) hq (use_room hI hr hbk ((lcmp0 husr hbk).mp c_59)) (by show (t + cLen u i) * 2097152 + cOth u i c * 131072 + r * 4096 + (i + 1) * 128 + cBeh u i z < 2147483648; omega)) gX3_goInto_X1_put rfl hdV_X1_put ⟨Nat.le_of_ble_eq_true rfl, Nat.le_of_ble_eq_true rfl⟩ ⟨Nat.le_of_ble_eq_true rfl, Nat.le_of_ble_eq_true rfl⟩ [4, 5] rfl (by decide) 0 1 rfl rfl (Nat.le_of_ble_eq_true rfl) dX3_goInto_108) [4, 5] [0, 1, 2, 3, 6, 7, 8, 9, 10, 11, 12, 13, 14, 15, 16, 17, 18, 19, 20, 21, 22, 23, 24, 25, 26, 27, 28, 29, 30, 31, 32, 33] rfl rfl (by decide) (by decide) (fun _ => wS ad e cI cJ cR (sR g, sCl g, sSy g, sPl g, eN (sU g) r ((sU g r ||| 2 ^ bitK u i c))) (qPut q (pkC (t + ((cLen u) i)) (cOth u i c) r (i + 1) (cBeh u i z))) u h) [0, 1, 2, 3, 32, 33, 4, 5, 6, 7, 8, 9, 10, 11, 12, 13, 14, 15, 16, 17, 18, 19, 20, 21, 22, 23, 24, 25, 26, 27, 28, 29, 30, 31] (by decide) (fun _ => rfl) (fun u_108 hv_108 => ?_)
        exact ek_retv X () ⟨rfl, trivial⟩ (by unfold gGo; rw [if_neg (by omega), if_pos ((lcmp0 husr hbk).mp c_59)]) dX3_goInto_111
      · skip
        exact ek_retv X () ⟨rfl, trivial⟩ (by unfold gGo; first | rw [if_pos (by omega)] | rw [if_neg (by omega), if_neg (fun h => c_59 ((lcmp0 husr hbk).mpr h))]) dX3_goInto_62
  · skip
    refine ek_ic (v := nI 0) X (by decide) dX3_goInto_31 ?_
    refine ek_goto X 36 (by decide) dX3_goInto_32 ?_
    refine ek_Nadd X dX3_goInto_36 ?_
    refine ek_lshl X rfl dX3_goInto_37 ?_
    refine ek_topL (v' := lN (1 * 2 ^ bitK u i c)) (by rw [wb_shl 1 (by omega)]; exact congrArg (fun k => lN (1 * 2 ^ k)) (by show _ = 2 * i + (if cFrm u i = c then 0 else 1); first | rw [if_pos (by assumption)] | rw [if_neg (by assumption)])) ?_
    refine ek_ls (lv' := [(7, .long (lN (1 * 2 ^ bitK u i c))), (6, .int (nI (t + ((cLen u) i)))), (0, .ref (ad 32)), (1, .int (nI i)), (2, .int (nI c)), (3, .int (nI r)), (4, .int (nI t)), (5, .int (nI z))]) X (by decide) rfl dX3_goInto_38 ?_
    refine ek_il X 1 rfl dX3_goInto_40 ?_
    refine ek_sp (v := nI 200) X (by decide) dX3_goInto_42 ?_
    refine ek_Ngt X (by omega) (by omega) 62 (by decide) dX3_goInto_45 (fun c_45 => ?_) (fun c_45 => ?_)
    · skip
      exact ek_retv X () ⟨rfl, trivial⟩ (by unfold gGo; first | rw [if_pos (by omega)] | rw [if_neg (by omega), if_neg (fun h => c_59 ((lcmp0 husr hbk).mpr h))]) dX3_goInto_62
    · skip
      refine ek_aln X 2 rfl dX3_goInto_48 ?_
      refine ek_get X hin_X3_goInto_X3 0 rfl rfl 4 (by decide) (List.mem_of_getElem? (i := 2) rfl) rfl dX3_goInto_49 ?_
      refine ek_iln X 5 rfl dX3_goInto_52 ?_
      refine ek_lald X 3 1 rfl rfl (by omega) (by omega) dX3_goInto_53 ?_
      refine ek_ll X 0 rfl dX3_goInto_54 ?_
      refine ek_land X dX3_goInto_56 ?_
      refine ek_lc (v := lN 0) X (by decide) dX3_goInto_57 ?_
      refine ek_lcmp X dX3_goInto_58 ?_
      refine ek_if_eq X 63 (by decide) dX3_goInto_59 (fun c_59 => ?_) (fun c_59 => ?_)
      · skip
        refine ek_aln X 2 rfl dX3_goInto_63 ?_
        refine ek_get X hin_X3_goInto_X3 0 rfl rfl 4 (by decide) (List.mem_of_getElem? (i := 2) rfl) rfl dX3_goInto_64 ?_
        refine ek_iln X 5 rfl dX3_goInto_67 ?_
        refine ek_dup2 X rfl rfl dX3_goInto_68 ?_
        refine ek_lald X 3 1 rfl rfl (by omega) (by omega) dX3_goInto_69 ?_
        refine ek_ll X 0 rfl dX3_goInto_70 ?_
        refine ek_lor X dX3_goInto_72 ?_
        refine ek_topL (v' := lN (sU g r ||| 2 ^ bitK u i c)) (by rw [Nat.one_mul, fb_orL]) ?_
        refine ek_last (w' := wS ad e cI cJ cR (sR g, sCl g, sSy g, sPl g, eN (sU g) r ((sU g r ||| 2 ^ bitK u i c))) q u h) X 3 1 rfl rfl (by omega) (by omega) (by rw [← eN_comp lN]; rfl) dX3_goInto_73 ?_
        refine ek_aln X 2 rfl dX3_goInto_74 ?_
        refine ek_get X hin_X3_goInto_X3 0 rfl rfl 0 (by decide) (List.mem_of_getElem? (i := 1) rfl) rfl dX3_goInto_75 ?_
        refine ek_iln X 3 rfl dX3_goInto_78 ?_
        refine ek_iln X 4 rfl dX3_goInto_79 ?_
        refine ek_doRi (ek_runV (As := [.int (nI i), .int (nI c)]) (rest := []) X (c_X0_otherEnd l D cI cJ cR ad u hB i c (by omega) (by omega)) gX3_goInto_X0_otherEnd rfl hdV_X0_otherEnd ⟨Nat.le_of_ble_eq_true rfl, Nat.le_of_ble_eq_true rfl⟩ ⟨Nat.le_of_ble_eq_true rfl, Nat.le_of_ble_eq_true rfl⟩ [6, 7, 8, 9, 10, 11, 12, 13, 14, 15, 16, 17, 18, 19, 20, 21, 22, 23, 24, 25, 26, 27, 28, 29, 30] rfl (by decide) 0 0 rfl rfl (Nat.le_of_ble_eq_true rfl) dX3_goInto_80) (fun v_80 hv_80 => ?_)
        subst hv_80
        refine ek_is (lv' := [(9, .int (nI (cOth u i c))), (7, .long (lN (1 * 2 ^ bitK u i c))), (6, .int (nI (t + ((cLen u) i)))), (0, .ref (ad 32)), (1, .int (nI i)), (2, .int (nI c)), (3, .int (nI r)), (4, .int (nI t)), (5, .int (nI z))]) X (by decide) rfl dX3_goInto_83 ?_
        refine ek_aln X 3 rfl dX3_goInto_85 ?_
        refine ek_get X hin_X3_goInto_X3 0 rfl rfl 1 (by decide) (List.mem_of_getElem? (i := 3) rfl) rfl dX3_goInto_86 ?_
        refine ek_il X 2 rfl dX3_goInto_89 ?_
        refine ek_il X 0 rfl dX3_goInto_91 ?_
        refine ek_iln X 6 rfl dX3_goInto_93 ?_
        refine ek_iln X 4 rfl dX3_goInto_94 ?_
        refine ek_aln X 3 rfl dX3_goInto_95 ?_
        refine ek_get X hin_X3_goInto_X3 0 rfl rfl 0 (by decide) (List.mem_of_getElem? (i := 1) rfl) rfl dX3_goInto_96 ?_
        refine ek_iln X 4 rfl dX3_goInto_99 ?_
        refine ek_il X 8 rfl dX3_goInto_100 ?_
        refine ek_doRi (ek_runV (As := [.int (nI i), .int (nI z)]) (rest := [.int (nI i), .int (nI r), .int (nI (cOth u i c)), .int (nI (t + ((cLen u) i))), .ref (ad 30)]) X (c_X0_strengthBehind l D cI cJ cR ad u hB i z (by omega) (by omega)) gX3_goInto_X0_strengthBehind rfl hdV_X0_strengthBehind ⟨Nat.le_of_ble_eq_true rfl, Nat.le_of_ble_eq_true rfl⟩ ⟨Nat.le_of_ble_eq_true rfl, Nat.le_of_ble_eq_true rfl⟩ [6, 7, 8, 9, 10, 11, 12, 13, 14, 15, 16, 17, 18, 19, 20, 21, 22, 23, 24, 25, 26, 27, 28, 29, 30] rfl (by decide) 0 0 rfl rfl (Nat.le_of_ble_eq_true rfl) dX3_goInto_102) (fun v_102 hv_102 => ?_)
        subst hv_102
        refine ek_doRi (ek_runS (As := [.int (nI (t + ((cLen u) i))), .int (nI (cOth u i c)), .int (nI r), .int (nI i), .int (nI (cBeh u i z))]) (rest := [.ref (ad 30)]) X (c_X1_pack l D cI cJ cR (t + ((cLen u) i)) (cOth u i c) r (i + 1) (cBeh u i z) (nI i) (by omega) (by omega) (by omega) (by omega) (by omega) (nI_1 i)) gX3_goInto_X1_pack rfl hd_X1_pack ⟨Nat.le_of_ble_eq_true rfl, Nat.le_of_ble_eq_true rfl⟩ ⟨Nat.le_of_ble_eq_true rfl, Nat.le_of_ble_eq_true rfl⟩ [] rfl (by decide) (Nat.le_of_ble_eq_true rfl) dX3_goInto_105) (fun v_105 hv_105 => ?_)
        subst hv_105
        refine ek_doWv X (ek_runV (As := [.int (nI (pkC (t + ((cLen u) i)) (cOth u i c) r (i + 1) (cBeh u i z)))]) (rest := []) X (c_X1_put l D cI cJ cR ad q (pkC (t + ((cLen u) i)) (cOth u i c) r (i + 1) (cBeh u i z)) hq (use_room hI hr hbk ((lcmp0 husr hbk).mp c_59)) (by show (t + cLen u i) * 2097152 + cOth u i c * 131072 + r * 4096 + (i + 1) * 128 + cBeh u i z < 2147483648; omega)) gX3_goInto_X1_put rfl hdV_X1_put ⟨Nat.le_of_ble_eq_true rfl, Nat.le_of_ble_eq_true rfl⟩ ⟨Nat.le_of_ble_eq_true rfl, Nat.le_of_ble_eq_true rfl⟩ [4, 5] rfl (by decide) 0 1 rfl rfl (Nat.le_of_ble_eq_true rfl) dX3_goInto_108) [4, 5] [0, 1, 2, 3, 6, 7, 8, 9, 10, 11, 12, 13, 14, 15, 16, 17, 18, 19, 20, 21, 22, 23, 24, 25, 26, 27, 28, 29, 30, 31, 32, 33] rfl rfl (by decide) (by decide) (fun _ => wS ad e cI cJ cR (sR g, sCl g, sSy g, sPl g, eN (sU g) r ((sU g r ||| 2 ^ bitK u i c))) (qPut q (pkC (t + ((cLen u) i)) (cOth u i c) r (i + 1) (cBeh u i z))) u h) [0, 1, 2, 3, 32, 33, 4, 5, 6, 7, 8, 9, 10, 11, 12, 13, 14, 15, 16, 17, 18, 19, 20, 21, 22, 23, 24, 25, 26, 27, 28, 29, 30, 31] (by decide) (fun _ => rfl) (fun u_108 hv_108 => ?_)
        exact ek_retv X () ⟨rfl, trivial⟩ (by unfold gGo; rw [if_neg (by omega), if_pos ((lcmp0 husr hbk).mp c_59)]) dX3_goInto_111
      · skip
        exact ek_retv X () ⟨rfl, trivial⟩ (by unfold gGo; first | rw [if_pos (by omega)] | rw [if_neg (by omega), if_neg (fun h => c_59 ((lcmp0 husr hbk).mpr h))]) dX3_goInto_62

theorem hin_X3_startRun_X3 : ∀ x ∈ wsX30, x ∈ wsX3_startRun := fun x h => List.mem_cons_of_mem _ (List.mem_append_left _ (List.mem_append_right _ h))
abbrev rm_X3_startRun : Room := { frames := 2, cells := 0, slots := 0, locals := 36 }
set_option maxHeartbeats 4000000 in
set_option maxRecDepth 100000 in
theorem c_X3_startRun (l : Launch) (D : va_G) (cI cJ cR : ClassId) (ad : Nat → Nat) (e : Nat) (u : CaveT) (h : EchT) (g : SndT) (q : QueT) (hB : cOk u) (hI : sOk g q) (y p c t z : Nat) (hy : y ≤ 9) (hp : p < 6) (hc : c < 12) (ht : t ≤ 200) (hz : z < 128) : ek_M (S := Unit) l yX3_startRun wsX3_startRun rm_X3_startRun D (tyW cI cJ cR) nestW [.ref (ad 32), .int (nI y), .int (nI p), .int (nI c), .int (nI t), .int (nI z)] (wS ad e cI cJ cR g q u h) (fun r9 _ => r9 = none ∧ True) (fun _ => wS ad e cI cJ cR (sRunG y p c t z g q).1 (sRunG y p c t z g q).2 u h) := by
  refine ek_M.of (cc := cX3_startRun) (maxL := 6) (ret := none) (by decide) rfl (Nat.le_of_ble_eq_true rfl) ?_
  intro p9 e9 s9 m9 args9 below9 meth9 c9 A X hin
  obtain ⟨⟨hC1, hC2⟩, hPs, hWt, bWal, bHgt, bBat, bSyl, bDel, bDrs, bFrm, bTo, bLen, bNar, bPb⟩ := id hB
  obtain ⟨hr17, hcl, hsy, hpl, hus, hq, hpo⟩ := id hI
  refine ek_castL (lv' := [(0, .ref (ad 32)), (1, .int (nI y)), (2, .int (nI p)), (3, .int (nI c)), (4, .int (nI t)), (5, .int (nI z))]) rfl ?_
  refine ek_aln X 0 rfl dX3_startRun_0 ?_
  refine ek_get X hin_X3_startRun_X3 0 rfl rfl 5 (by decide) (List.mem_of_getElem? (i := 1) rfl) rfl dX3_startRun_1 ?_
  refine ek_bp (v := nI 17) X (by decide) dX3_startRun_4 ?_
  refine ek_Nlt X (by omega) (by omega) 10 (by decide) dX3_startRun_6 (fun c_6 => ?_) (fun c_6 => ?_)
  · skip
    have hrm := (sRun_ok hI (y := y) (p := p) (c := c) (t := t) (z := z) c_6 hy hp hc ht hz).2
    refine ek_aln X 0 rfl dX3_startRun_10 ?_
    refine ek_get X hin_X3_startRun_X3 0 rfl rfl 2 (by decide) (List.mem_of_getElem? (i := 2) rfl) rfl dX3_startRun_11 ?_
    refine ek_aln X 0 rfl dX3_startRun_14 ?_
    refine ek_get X hin_X3_startRun_X3 0 rfl rfl 5 (by decide) (List.mem_of_getElem? (i := 1) rfl) rfl dX3_startRun_15 ?_
    refine ek_iln X 1 rfl dX3_startRun_18 ?_
    refine ek_Nast (w' := wS ad e cI cJ cR (sR g, sCl g, eN (sSy g) (sR g) y, sPl g, sU g) q u h) X 1 0 rfl rfl (by omega) (by omega) rfl dX3_startRun_19 ?_
    refine ek_aln X 0 rfl dX3_startRun_20 ?_
    refine ek_get X hin_X3_startRun_X3 0 rfl rfl 3 (by decide) (List.mem_of_getElem? (i := 3) rfl) rfl dX3_startRun_21 ?_
    refine ek_aln X 0 rfl dX3_startRun_24 ?_
    refine ek_get X hin_X3_startRun_X3 0 rfl rfl 5 (by decide) (List.mem_of_getElem? (i := 1) rfl) rfl dX3_startRun_25 ?_
    refine ek_top (v' := nI (sR g)) rfl ?_
    refine ek_iln X 2 rfl dX3_startRun_28 ?_
    refine ek_Nast (w' := wS ad e cI cJ cR (sR g, sCl g, eN (sSy g) (sR g) y, eN (sPl g) (sR g) p, sU g) q u h) X 2 0 rfl rfl (by omega) (by omega) rfl dX3_startRun_29 ?_
    refine ek_aln X 0 rfl dX3_startRun_30 ?_
    refine ek_get X hin_X3_startRun_X3 0 rfl rfl 4 (by decide) (List.mem_of_getElem? (i := 4) rfl) rfl dX3_startRun_31 ?_
    refine ek_aln X 0 rfl dX3_startRun_34 ?_
    refine ek_get X hin_X3_startRun_X3 0 rfl rfl 5 (by decide) (List.mem_of_getElem? (i := 1) rfl) rfl dX3_startRun_35 ?_
    refine ek_top (v' := nI (sR g)) rfl ?_
    refine ek_lc (v := lN 0) X (by decide) dX3_startRun_38 ?_
    refine ek_last (w' := wS ad e cI cJ cR (sR g, sCl g, eN (sSy g) (sR g) y, eN (sPl g) (sR g) p, eN (sU g) (sR g) (0)) q u h) X 3 1 rfl rfl (by omega) (by omega) (by rw [← eN_comp lN]; rfl) dX3_startRun_39 ?_
    refine ek_aln X 0 rfl dX3_startRun_40 ?_
    refine ek_get X hin_X3_startRun_X3 0 rfl rfl 1 (by decide) (List.mem_of_getElem? (i := 5) rfl) rfl dX3_startRun_41 ?_
    refine ek_il X 4 rfl dX3_startRun_44 ?_
    refine ek_iln X 3 rfl dX3_startRun_46 ?_
    refine ek_aln X 0 rfl dX3_startRun_47 ?_
    refine ek_get X hin_X3_startRun_X3 0 rfl rfl 5 (by decide) (List.mem_of_getElem? (i := 1) rfl) rfl dX3_startRun_48 ?_
    refine ek_top (v' := nI (sR g)) rfl ?_
    refine ek_ic (v := -1) X (by decide) dX3_startRun_51 ?_
    refine ek_il X 5 rfl dX3_startRun_52 ?_
    refine ek_doRi (ek_runS (As := [.int (nI t), .int (nI c), .int (nI (sR g)), .int (-1), .int (nI z)]) (rest := [.ref (ad 30)]) X (c_X1_pack l D cI cJ cR t c (sR g) 0 z (-1) (by omega) (by omega) (by omega) (by omega) (by omega) (by decide)) gX3_startRun_X1_pack rfl hd_X1_pack ⟨Nat.le_of_ble_eq_true rfl, Nat.le_of_ble_eq_true rfl⟩ ⟨Nat.le_of_ble_eq_true rfl, Nat.le_of_ble_eq_true rfl⟩ [] rfl (by decide) (Nat.le_of_ble_eq_true rfl) dX3_startRun_54) (fun v_54 hv_54 => ?_)
    subst hv_54
    refine ek_doWv X (ek_runV (As := [.int (nI (pkC t c (sR g) 0 z))]) (rest := []) X (c_X1_put l D cI cJ cR ad q (pkC t c (sR g) 0 z) hq hrm (by show t * 2097152 + c * 131072 + sR g * 4096 + 0 * 128 + z < 2147483648; omega)) gX3_startRun_X1_put rfl hdV_X1_put ⟨Nat.le_of_ble_eq_true rfl, Nat.le_of_ble_eq_true rfl⟩ ⟨Nat.le_of_ble_eq_true rfl, Nat.le_of_ble_eq_true rfl⟩ [4, 5] rfl (by decide) 0 1 rfl rfl (Nat.le_of_ble_eq_true rfl) dX3_startRun_57) [4, 5] [0, 1, 2, 3, 6, 7, 8, 9, 10, 11, 12, 13, 14, 15, 16, 17, 18, 19, 20, 21, 22, 23, 24, 25, 26, 27, 28, 29, 30, 31, 32, 33] rfl rfl (by decide) (by decide) (fun _ => wS ad e cI cJ cR (sR g, sCl g, eN (sSy g) (sR g) y, eN (sPl g) (sR g) p, eN (sU g) (sR g) (0)) (qPut q (pkC t c (sR g) 0 z)) u h) [0, 1, 2, 3, 32, 33, 4, 5, 6, 7, 8, 9, 10, 11, 12, 13, 14, 15, 16, 17, 18, 19, 20, 21, 22, 23, 24, 25, 26, 27, 28, 29, 30, 31] (by decide) (fun _ => rfl) (fun u_57 hv_57 => ?_)
    refine ek_aln X 0 rfl dX3_startRun_60 ?_
    refine ek_dup X rfl dX3_startRun_61 ?_
    refine ek_get X hin_X3_startRun_X3 0 rfl rfl 5 (by decide) (List.mem_of_getElem? (i := 1) rfl) rfl dX3_startRun_62 ?_
    refine ek_top (v' := nI (sR g)) rfl ?_
    refine ek_ic (v := nI 1) X (by decide) dX3_startRun_65 ?_
    refine ek_Nadd X dX3_startRun_66 ?_
    refine ek_put (w' := wS ad e cI cJ cR ((sR g) + 1, sCl g, eN (sSy g) (sR g) y, eN (sPl g) (sR g) p, eN (sU g) (sR g) (0)) (qPut q (pkC t c (sR g) 0 z)) u h) X hin_X3_startRun_X3 tyX3 tyX3_ok nmX3 0 rfl rfl 5 (by decide) (List.mem_of_getElem? (i := 1) rfl) rfl rfl rfl rfl (Nat.le_of_ble_eq_true rfl) rfl dX3_startRun_67 ?_
    exact ek_retv X () ⟨rfl, trivial⟩ (by unfold sRunG; rw [if_neg (by omega)]; rfl) dX3_startRun_70
  · skip
    exact ek_retv X () ⟨rfl, trivial⟩ (by unfold sRunG; rw [if_pos (by omega)]) dX3_startRun_9

theorem hin_X3_setOffClapper_X0 : ∀ x ∈ wsX00, x ∈ wsX3_setOffClapper := fun x h => List.mem_cons_of_mem _ (List.mem_append_left _ (List.mem_append_right _ h))
theorem hin_X3_setOffClapper_X3 : ∀ x ∈ wsX30, x ∈ wsX3_setOffClapper := fun x h => List.mem_cons_of_mem _ (List.mem_append_left _ (List.mem_append_left _ (List.mem_append_right _ h)))
abbrev rm_X3_setOffClapper : Room := { frames := 3, cells := 0, slots := 0, locals := 61 }
set_option maxHeartbeats 4000000 in
set_option maxRecDepth 100000 in
theorem c_X3_setOffClapper (l : Launch) (D : va_G) (cI cJ cR : ClassId) (ad : Nat → Nat) (e : Nat) (u : CaveT) (h : EchT) (g : SndT) (q : QueT) (hB : cOk u) (hI : sOk g q) (c r t : Nat) (hc : c < 12) (hr : r < sR g) (ht : t < 1024) : ek_M (S := Unit) l yX3_setOffClapper wsX3_setOffClapper rm_X3_setOffClapper D (tyW cI cJ cR) nestW [.ref (ad 32), .int (nI c), .int (nI r), .int (nI t)] (wS ad e cI cJ cR g q u h) (fun r9 _ => r9 = none ∧ True) (fun _ => wS ad e cI cJ cR (gClap u c r t g q).1 (gClap u c r t g q).2 u h) := by
  refine ek_M.of (cc := cX3_setOffClapper) (maxL := 6) (ret := none) (by decide) rfl (Nat.le_of_ble_eq_true rfl) ?_
  intro p9 e9 s9 m9 args9 below9 meth9 c9 A X hin
  obtain ⟨⟨hC1, hC2⟩, hPs, hWt, bWal, bHgt, bBat, bSyl, bDel, bDrs, bFrm, bTo, bLen, bNar, bPb⟩ := id hB
  obtain ⟨hr17, hcl, hsy, hpl, hus, hq, hpo⟩ := id hI
  have hsyr := hsy r
  have hplr := hpl r
  have hcs := bSyl c
  have h2c : 2 ^ c < 2 ^ 12 := Nat.pow_lt_pow_right (by omega) hc
  have hI1 := sClp_ok hI hc
  refine ek_castL (lv' := [(0, .ref (ad 32)), (1, .int (nI c)), (2, .int (nI r)), (3, .int (nI t))]) rfl ?_
  refine ek_ic (v := nI 1) X (by decide) dX3_setOffClapper_0 ?_
  refine ek_iln X 1 rfl dX3_setOffClapper_1 ?_
  refine ek_shl X dX3_setOffClapper_2 ?_
  refine ek_top (v' := nI (2 ^ c)) (by rw [pk_shlN _ c (sh_and c (by omega)) (by omega), Nat.one_mul]) ?_
  refine ek_is (lv' := [(4, .int (nI (2 ^ c))), (0, .ref (ad 32)), (1, .int (nI c)), (2, .int (nI r)), (3, .int (nI t))]) X (by decide) rfl dX3_setOffClapper_3 ?_
  refine ek_aln X 1 rfl dX3_setOffClapper_5 ?_
  refine ek_get X hin_X3_setOffClapper_X3 0 rfl rfl 0 (by decide) (List.mem_of_getElem? (i := 1) rfl) rfl dX3_setOffClapper_6 ?_
  refine ek_getN X hin_X3_setOffClapper_X0 6 rfl rfl 4 (by decide) (List.mem_of_getElem? (i := 2) rfl) rfl dX3_setOffClapper_9 ?_
  refine ek_iln X 2 rfl dX3_setOffClapper_12 ?_
  refine ek_ald X 10 0 rfl rfl (by omega) (by omega) dX3_setOffClapper_13 ?_
  have b1_13 := bSyl c
  refine ek_aln X 1 rfl dX3_setOffClapper_14 ?_
  refine ek_get X hin_X3_setOffClapper_X3 0 rfl rfl 2 (by decide) (List.mem_of_getElem? (i := 2) rfl) rfl dX3_setOffClapper_15 ?_
  refine ek_iln X 3 rfl dX3_setOffClapper_18 ?_
  refine ek_ald X 1 0 rfl rfl (by omega) (by omega) dX3_setOffClapper_19 ?_
  have b2_19 := bSyl r
  refine ek_Nne X (by omega) (by omega) 33 (by decide) dX3_setOffClapper_20 (fun c_20 => ?_) (fun c_20 => ?_)
  · skip
    exact ek_retv X () ⟨rfl, trivial⟩ (by unfold gClap; rw [if_neg (by omega)]) dX3_setOffClapper_33
  · skip
    refine ek_aln X 1 rfl dX3_setOffClapper_23 ?_
    refine ek_get X hin_X3_setOffClapper_X3 0 rfl rfl 6 (by decide) (List.mem_of_getElem? (i := 3) rfl) rfl dX3_setOffClapper_24 ?_
    refine ek_il X 0 rfl dX3_setOffClapper_27 ?_
    refine ek_and X dX3_setOffClapper_29 ?_
    refine ek_top (v' := nI (sCl g &&& 2 ^ c)) (fa_and _ _) ?_
    refine ek_Zeq X (Nat.lt_trans (Nat.and_lt_two_pow _ h2c) (by decide)) 34 (by decide) dX3_setOffClapper_30 (fun c_30 => ?_) (fun c_30 => ?_)
    · skip
      refine ek_iln X 4 rfl dX3_setOffClapper_34 ?_
      refine ek_aln X 1 rfl dX3_setOffClapper_35 ?_
      refine ek_get X hin_X3_setOffClapper_X3 0 rfl rfl 0 (by decide) (List.mem_of_getElem? (i := 1) rfl) rfl dX3_setOffClapper_36 ?_
      refine ek_getN X hin_X3_setOffClapper_X0 6 rfl rfl 5 (by decide) (List.mem_of_getElem? (i := 4) rfl) rfl dX3_setOffClapper_39 ?_
      refine ek_iln X 2 rfl dX3_setOffClapper_42 ?_
      refine ek_ald X 11 0 rfl rfl (by omega) (by omega) dX3_setOffClapper_43 ?_
      have b3_43 := bDel c
      refine ek_Nadd X dX3_setOffClapper_44 ?_
      refine ek_is (lv' := [(5, .int (nI (t + ((cDel u) c)))), (4, .int (nI (2 ^ c))), (0, .ref (ad 32)), (1, .int (nI c)), (2, .int (nI r)), (3, .int (nI t))]) X (by decide) rfl dX3_setOffClapper_45 ?_
      refine ek_il X 0 rfl dX3_setOffClapper_47 ?_
      refine ek_sp (v := nI 200) X (by decide) dX3_setOffClapper_49 ?_
      refine ek_Nle X (by omega) (by omega) 56 (by decide) dX3_setOffClapper_52 (fun c_52 => ?_) (fun c_52 => ?_)
      · skip
        refine ek_aln X 2 rfl dX3_setOffClapper_56 ?_
        refine ek_dup X rfl dX3_setOffClapper_57 ?_
        refine ek_get X hin_X3_setOffClapper_X3 0 rfl rfl 6 (by decide) (List.mem_of_getElem? (i := 3) rfl) rfl dX3_setOffClapper_58 ?_
        refine ek_il X 1 rfl dX3_setOffClapper_61 ?_
        refine ek_or X dX3_setOffClapper_63 ?_
        refine ek_top (v' := nI (sCl g ||| 2 ^ c)) (fa_or _ _) ?_
        refine ek_put (w' := wS ad e cI cJ cR (sR g, sCl g ||| 2 ^ c, sSy g, sPl g, sU g) q u h) X hin_X3_setOffClapper_X3 tyX3 tyX3_ok nmX3 0 rfl rfl 6 (by decide) (List.mem_of_getElem? (i := 3) rfl) rfl rfl rfl rfl (Nat.le_of_ble_eq_true rfl) rfl dX3_setOffClapper_64 ?_
        refine ek_aln X 2 rfl dX3_setOffClapper_67 ?_
        refine ek_aln X 2 rfl dX3_setOffClapper_68 ?_
        refine ek_get X hin_X3_setOffClapper_X3 0 rfl rfl 2 (by decide) (List.mem_of_getElem? (i := 2) rfl) rfl dX3_setOffClapper_69 ?_
        refine ek_iln X 4 rfl dX3_setOffClapper_72 ?_
        refine ek_ald X 1 0 rfl rfl (by omega) (by omega) dX3_setOffClapper_73 ?_
        refine ek_top (v' := nI ((sSy g) r)) rfl ?_
        have b4_73 := bSyl r
        refine ek_aln X 2 rfl dX3_setOffClapper_74 ?_
        refine ek_get X hin_X3_setOffClapper_X3 0 rfl rfl 3 (by decide) (List.mem_of_getElem? (i := 4) rfl) rfl dX3_setOffClapper_75 ?_
        refine ek_iln X 4 rfl dX3_setOffClapper_78 ?_
        refine ek_ald X 2 0 rfl rfl (by omega) (by omega) dX3_setOffClapper_79 ?_
        refine ek_top (v' := nI ((sPl g) r)) rfl ?_
        refine ek_iln X 3 rfl dX3_setOffClapper_80 ?_
        refine ek_il X 0 rfl dX3_setOffClapper_81 ?_
        refine ek_bp (v := nI 60) X (by decide) dX3_setOffClapper_83 ?_
        refine ek_doWv X (ek_runV (As := [.int (nI ((sSy g) r)), .int (nI ((sPl g) r)), .int (nI c), .int (nI (t + ((cDel u) c))), .int (nI 60)]) (rest := []) X (c_X3_startRun l D cI cJ cR ad e u h ((sR g, sCl g ||| 2 ^ c, sSy g, sPl g, sU g)) q hB hI1 ((sSy g) r) ((sPl g) r) c (t + ((cDel u) c)) 60 (by omega) (by omega) hc (by omega) (by omega)) gX3_setOffClapper_X3_startRun rfl hdV_X3_startRun ⟨Nat.le_of_ble_eq_true rfl, Nat.le_of_ble_eq_true rfl⟩ ⟨Nat.le_of_ble_eq_true rfl, Nat.le_of_ble_eq_true rfl⟩ [0, 1, 2, 3, 4, 5, 6, 7, 8, 9, 10, 11, 12, 13, 14, 15, 16, 17, 18, 19, 20, 21, 22, 23, 24, 25, 26, 27, 28, 29, 30, 31, 32, 33] rfl (by decide) 0 3 rfl rfl (Nat.le_of_ble_eq_true rfl) dX3_setOffClapper_85) [0, 1, 2, 3, 4, 5, 6, 7, 8, 9, 10, 11, 12, 13, 14, 15, 16, 17, 18, 19, 20, 21, 22, 23, 24, 25, 26, 27, 28, 29, 30, 31, 32, 33] [] rfl rfl (by decide) (by decide) (fun _ => wS ad e cI cJ cR (sRunG ((sSy g) r) ((sPl g) r) c (t + ((cDel u) c)) 60 ((sR g, sCl g ||| 2 ^ c, sSy g, sPl g, sU g)) q).1 (sRunG ((sSy g) r) ((sPl g) r) c (t + ((cDel u) c)) 60 ((sR g, sCl g ||| 2 ^ c, sSy g, sPl g, sU g)) q).2 u h) [0, 1, 2, 3, 4, 5, 6, 7, 8, 9, 10, 11, 12, 13, 14, 15, 16, 17, 18, 19, 20, 21, 22, 23, 24, 25, 26, 27, 28, 29, 30, 31, 32, 33] (by decide) (fun _ => rfl) (fun u_85 hv_85 => ?_)
        exact ek_retv X () ⟨rfl, trivial⟩ (by unfold gClap; rw [if_pos (by omega)]) dX3_setOffClapper_88
      · skip
        exact ek_retv X () ⟨rfl, trivial⟩ (by unfold gClap; rw [if_neg (by omega)]) dX3_setOffClapper_55
    · skip
      exact ek_retv X () ⟨rfl, trivial⟩ (by unfold gClap; rw [if_neg (by omega)]) dX3_setOffClapper_33

theorem hin_X3_goOn_X0 : ∀ x ∈ wsX00, x ∈ wsX3_goOn := fun x h => List.mem_cons_of_mem _ (List.mem_append_left _ (List.mem_append_right _ h))
theorem hin_X3_goOn_X3 : ∀ x ∈ wsX30, x ∈ wsX3_goOn := fun x h => List.mem_cons_of_mem _ (List.mem_append_left _ (List.mem_append_left _ (List.mem_append_right _ h)))
abbrev rm_X3_goOn : Room := { frames := 3, cells := 0, slots := 0, locals := 65 }
set_option maxHeartbeats 4000000 in
set_option maxRecDepth 100000 in
theorem c_X3_goOn (l : Launch) (D : va_G) (cI cJ cR : ClassId) (ad : Nat → Nat) (e : Nat) (u : CaveT) (h : EchT) (g : SndT) (q : QueT) (hB : cOk u) (hI : sOk g q) (c r : Nat) (w : Int32) (t z : Nat) (hc : c < 12) (hr : r < sR g) (ht : t < 1024) (hz : z < 128) : ek_M (S := Unit) l yX3_goOn wsX3_goOn rm_X3_goOn D (tyW cI cJ cR) nestW [.ref (ad 32), .int (nI c), .int (nI r), .int w, .int (nI t), .int (nI z)] (wS ad e cI cJ cR g q u h) (fun r9 _ => r9 = none ∧ True) (fun _ => wS ad e cI cJ cR (gOn u c r w t z g q (cDrs u c)).1 (gOn u c r w t z g q (cDrs u c)).2 u h) := by
  refine ek_M.of (cc := cX3_goOn) (maxL := 8) (ret := none) (by decide) rfl (Nat.le_of_ble_eq_true rfl) ?_
  intro p9 e9 s9 m9 args9 below9 meth9 c9 A X hin
  obtain ⟨⟨hC1, hC2⟩, hPs, hWt, bWal, bHgt, bBat, bSyl, bDel, bDrs, bFrm, bTo, bLen, bNar, bPb⟩ := id hB
  obtain ⟨hr17, hcl, hsy, hpl, hus, hq, hpo⟩ := id hI
  have hdr := bDrs c
  refine ek_castL (lv' := [(0, .ref (ad 32)), (1, .int (nI c)), (2, .int (nI r)), (3, .int w), (4, .int (nI t)), (5, .int (nI z))]) rfl ?_
  refine ek_ic (v := nI 0) X (by decide) dX3_goOn_0 ?_
  refine ek_is (lv' := [(6, .int (nI 0)), (0, .ref (ad 32)), (1, .int (nI c)), (2, .int (nI r)), (3, .int w), (4, .int (nI t)), (5, .int (nI z))]) X (by decide) rfl dX3_goOn_1 ?_
  refine ek_loopAt (σ := Nat × SndT × QueT) (fun zz => (fun (d : Nat) (g1 : SndT) (q1 : QueT) => d ≤ cDrs u c ∧ (g1, q1) = gOn u c r w t z g q d ∧ sOk g1 q1 ∧ sR g1 = sR g) zz.1 zz.2.1 zz.2.2) (fun zz => (fun (d : Nat) (g1 : SndT) (q1 : QueT) => cDrs u c - d) zz.1 zz.2.1 zz.2.2) (fun zz => (fun (d : Nat) (g1 : SndT) (q1 : QueT) => wS ad e cI cJ cR g1 q1 u h) zz.1 zz.2.1 zz.2.2) (fun zz => (fun (d : Nat) (g1 : SndT) (q1 : QueT) => [(0, .ref (ad 32)), (1, .int (nI c)), (2, .int (nI r)), (3, .int w), (4, .int (nI t)), (5, .int (nI z)), (6, .int (nI d))]) zz.1 zz.2.1 zz.2.2) ?_ (0, g, q) ⟨Nat.zero_le _, rfl, hI, rfl⟩ rfl [1, 2, 3, 4, 5, 6, 0] rfl
  intro zz ha_3 ih_3
  obtain ⟨d, g1, q1⟩ := zz
  replace ha_3 : d ≤ cDrs u c ∧ (g1, q1) = gOn u c r w t z g q d ∧ sOk g1 q1 ∧ sR g1 = sR g := ha_3
  refine ek_cast (w' := wS ad e cI cJ cR g1 q1 u h) rfl ?_
  refine ek_castL (lv' := [(0, .ref (ad 32)), (1, .int (nI c)), (2, .int (nI r)), (3, .int w), (4, .int (nI t)), (5, .int (nI z)), (6, .int (nI d))]) rfl ?_
  have hI1 := ha_3.2.2.1
  have hrg := ha_3.2.2.2
  refine ek_il X 6 rfl dX3_goOn_3 ?_
  refine ek_aln X 0 rfl dX3_goOn_5 ?_
  refine ek_get X hin_X3_goOn_X3 0 rfl rfl 0 (by decide) (List.mem_of_getElem? (i := 1) rfl) rfl dX3_goOn_6 ?_
  refine ek_getN X hin_X3_goOn_X0 6 rfl rfl 6 (by decide) (List.mem_of_getElem? (i := 6) rfl) rfl dX3_goOn_9 ?_
  refine ek_iln X 1 rfl dX3_goOn_12 ?_
  refine ek_ald X 12 0 rfl rfl (by omega) (by omega) dX3_goOn_13 ?_
  have b1_13 := bDrs c
  refine ek_Nge X (by omega) (by omega) 67 (by decide) dX3_goOn_14 (fun c_14 => ?_) (fun c_14 => ?_)
  · skip
    exact ek_retv X () ⟨rfl, trivial⟩ (by obtain ⟨h1, h2, h3, h4⟩ := ha_3; rw [← show d = cDrs u c by omega, ← h2]) dX3_goOn_67
  · skip
    refine ek_aln X 0 rfl dX3_goOn_17 ?_
    refine ek_get X hin_X3_goOn_X3 0 rfl rfl 0 (by decide) (List.mem_of_getElem? (i := 1) rfl) rfl dX3_goOn_18 ?_
    refine ek_getN X hin_X3_goOn_X0 6 rfl rfl 7 (by decide) (List.mem_of_getElem? (i := 7) rfl) rfl dX3_goOn_21 ?_
    refine ek_iln X 1 rfl dX3_goOn_24 ?_
    refine ek_aald X 13 2 rfl rfl (by omega) (by omega) (if_pos (by omega)) dX3_goOn_25 ?_
    refine ek_il X 6 rfl dX3_goOn_26 ?_
    refine ek_ald X (19 + c) 0 (wS_row c (by omega)) rfl (by omega) (by omega) dX3_goOn_28 ?_
    have b2_28 := bPb c d
    refine ek_is (lv' := [(7, .int (nI (cPb u c d))), (0, .ref (ad 32)), (1, .int (nI c)), (2, .int (nI r)), (3, .int w), (4, .int (nI t)), (5, .int (nI z)), (6, .int (nI d))]) X (by decide) rfl dX3_goOn_29 ?_
    refine ek_il X 0 rfl dX3_goOn_31 ?_
    refine ek_iln X 4 rfl dX3_goOn_33 ?_
    refine ek_icmp_eq X 61 (by decide) dX3_goOn_34 (fun c_34 => ?_) (fun c_34 => ?_)
    · skip
      refine ek_Ninc (j := 7) (d := 1) (lv' := [(6, .int (nI (d + 1))), (7, .int (nI (cPb u c d))), (0, .ref (ad 32)), (1, .int (nI c)), (2, .int (nI r)), (3, .int w), (4, .int (nI t)), (5, .int (nI z))]) X rfl (by decide) rfl dX3_goOn_61 ?_
      refine ek_goto X 3 (by decide) dX3_goOn_64 ?_
      refine ek_re [2, 3, 4, 5, 6, 7, 0] rfl ?_
      exact ih_3 (d + 1, g1, q1) (show (d + 1) ≤ cDrs u c ∧ (g1, q1) = gOn u c r w t z g q (d + 1) ∧ sOk g1 q1 ∧ sR g1 = sR g from (by obtain ⟨h1, h2, h3, h4⟩ := ha_3; refine ⟨by omega, ?_⟩; first | (have h5 := gOnS_ok (s := (g1, q1)) hB h3 (c := c) (r := r) (w := w) (t := t) (z := z) (d := d) (by show r < sR g1; omega) hz; rw [show gOnS u c r w t z d (g1, q1) = gGo u (cPb u c d) c r t z g1 q1 from (if_neg c_34).trans (if_pos c_43)] at h5; refine ⟨?_, h5.1, h5.2.trans h4⟩; show _ = gOnS u c r w t z d (gOn u c r w t z g q d); rw [← h2]; exact ((if_neg c_34).trans (if_pos c_43)).symm) | (refine ⟨?_, h3, h4⟩; show _ = gOnS u c r w t z d (gOn u c r w t z g q d); rw [← h2]; first | exact (if_pos c_34).symm | exact ((if_neg c_34).trans (if_neg c_43)).symm))) (by show cDrs u c - (d + 1) < cDrs u c - d; omega)
    · skip
      refine ek_aln X 1 rfl dX3_goOn_37 ?_
      refine ek_get X hin_X3_goOn_X3 0 rfl rfl 0 (by decide) (List.mem_of_getElem? (i := 1) rfl) rfl dX3_goOn_38 ?_
      refine ek_il X 0 rfl dX3_goOn_41 ?_
      refine ek_doRi (ek_runV (As := [.int (nI (cPb u c d))]) (rest := []) X (c_X0_isOpen l D cI cJ cR ad u hB (cPb u c d) (by omega)) gX3_goOn_X0_isOpen rfl hdV_X0_isOpen ⟨Nat.le_of_ble_eq_true rfl, Nat.le_of_ble_eq_true rfl⟩ ⟨Nat.le_of_ble_eq_true rfl, Nat.le_of_ble_eq_true rfl⟩ [6, 7, 8, 9, 10, 11, 12, 13, 14, 15, 16, 17, 18, 19, 20, 21, 22, 23, 24, 25, 26, 27, 28, 29, 30] rfl (by decide) 0 0 rfl rfl (Nat.le_of_ble_eq_true rfl) dX3_goOn_43) (fun v_43 hv_43 => ?_)
      subst hv_43
      by_cases c_43 : cOpen u (cPb u c d)
      · refine ek_top (v' := nI 1) (congrArg nI (if_pos c_43)) ?_
        refine ek_Zeq X (by omega) 61 (by decide) dX3_goOn_46 (fun h => absurd h (by omega)) (fun _ => ?_)
        refine ek_aln X 1 rfl dX3_goOn_49 ?_
        refine ek_il X 0 rfl dX3_goOn_50 ?_
        refine ek_iln X 2 rfl dX3_goOn_52 ?_
        refine ek_iln X 3 rfl dX3_goOn_53 ?_
        refine ek_il X 5 rfl dX3_goOn_54 ?_
        refine ek_il X 6 rfl dX3_goOn_56 ?_
        refine ek_doWv X (ek_runV (As := [.int (nI (cPb u c d)), .int (nI c), .int (nI r), .int (nI t), .int (nI z)]) (rest := []) X (c_X3_goInto l D cI cJ cR ad e u h g1 q1 hB hI1 (cPb u c d) c r t z (by omega) (by omega) (by omega) (by omega) (by omega)) gX3_goOn_X3_goInto rfl hdV_X3_goInto ⟨Nat.le_of_ble_eq_true rfl, Nat.le_of_ble_eq_true rfl⟩ ⟨Nat.le_of_ble_eq_true rfl, Nat.le_of_ble_eq_true rfl⟩ [0, 1, 2, 3, 4, 5, 6, 7, 8, 9, 10, 11, 12, 13, 14, 15, 16, 17, 18, 19, 20, 21, 22, 23, 24, 25, 26, 27, 28, 29, 30, 31, 32, 33] rfl (by decide) 0 3 rfl rfl (Nat.le_of_ble_eq_true rfl) dX3_goOn_58) [0, 1, 2, 3, 4, 5, 6, 7, 8, 9, 10, 11, 12, 13, 14, 15, 16, 17, 18, 19, 20, 21, 22, 23, 24, 25, 26, 27, 28, 29, 30, 31, 32, 33] [] rfl rfl (by decide) (by decide) (fun _ => wS ad e cI cJ cR (gGo u (cPb u c d) c r t z g1 q1).1 (gGo u (cPb u c d) c r t z g1 q1).2 u h) [0, 1, 2, 3, 4, 5, 6, 7, 8, 9, 10, 11, 12, 13, 14, 15, 16, 17, 18, 19, 20, 21, 22, 23, 24, 25, 26, 27, 28, 29, 30, 31, 32, 33] (by decide) (fun _ => rfl) (fun u_58 hv_58 => ?_)
        refine ek_Ninc (j := 7) (d := 1) (lv' := [(6, .int (nI (d + 1))), (7, .int (nI (cPb u c d))), (0, .ref (ad 32)), (1, .int (nI c)), (2, .int (nI r)), (3, .int w), (4, .int (nI t)), (5, .int (nI z))]) X rfl (by decide) rfl dX3_goOn_61 ?_
        refine ek_goto X 3 (by decide) dX3_goOn_64 ?_
        refine ek_re [2, 3, 4, 5, 6, 7, 0] rfl ?_
        exact ih_3 (d + 1, (gGo u (cPb u c d) c r t z g1 q1).1, (gGo u (cPb u c d) c r t z g1 q1).2) (show (d + 1) ≤ cDrs u c ∧ (((gGo u (cPb u c d) c r t z g1 q1).1), ((gGo u (cPb u c d) c r t z g1 q1).2)) = gOn u c r w t z g q (d + 1) ∧ sOk ((gGo u (cPb u c d) c r t z g1 q1).1) ((gGo u (cPb u c d) c r t z g1 q1).2) ∧ sR ((gGo u (cPb u c d) c r t z g1 q1).1) = sR g from (by obtain ⟨h1, h2, h3, h4⟩ := ha_3; refine ⟨by omega, ?_⟩; first | (have h5 := gOnS_ok (s := (g1, q1)) hB h3 (c := c) (r := r) (w := w) (t := t) (z := z) (d := d) (by show r < sR g1; omega) hz; rw [show gOnS u c r w t z d (g1, q1) = gGo u (cPb u c d) c r t z g1 q1 from (if_neg c_34).trans (if_pos c_43)] at h5; refine ⟨?_, h5.1, h5.2.trans h4⟩; show _ = gOnS u c r w t z d (gOn u c r w t z g q d); rw [← h2]; exact ((if_neg c_34).trans (if_pos c_43)).symm) | (refine ⟨?_, h3, h4⟩; show _ = gOnS u c r w t z d (gOn u c r w t z g q d); rw [← h2]; first | exact (if_pos c_34).symm | exact ((if_neg c_34).trans (if_neg c_43)).symm))) (by show cDrs u c - (d + 1) < cDrs u c - d; omega)
      · refine ek_top (v' := nI 0) (congrArg nI (if_neg c_43)) ?_
        refine ek_Zeq X (by omega) 61 (by decide) dX3_goOn_46 (fun _ => ?_) (fun h => absurd h (by omega))
        refine ek_Ninc (j := 7) (d := 1) (lv' := [(6, .int (nI (d + 1))), (7, .int (nI (cPb u c d))), (0, .ref (ad 32)), (1, .int (nI c)), (2, .int (nI r)), (3, .int w), (4, .int (nI t)), (5, .int (nI z))]) X rfl (by decide) rfl dX3_goOn_61 ?_
        refine ek_goto X 3 (by decide) dX3_goOn_64 ?_
        refine ek_re [2, 3, 4, 5, 6, 7, 0] rfl ?_
        exact ih_3 (d + 1, g1, q1) (show (d + 1) ≤ cDrs u c ∧ (g1, q1) = gOn u c r w t z g q (d + 1) ∧ sOk g1 q1 ∧ sR g1 = sR g from (by obtain ⟨h1, h2, h3, h4⟩ := ha_3; refine ⟨by omega, ?_⟩; first | (have h5 := gOnS_ok (s := (g1, q1)) hB h3 (c := c) (r := r) (w := w) (t := t) (z := z) (d := d) (by show r < sR g1; omega) hz; rw [show gOnS u c r w t z d (g1, q1) = gGo u (cPb u c d) c r t z g1 q1 from (if_neg c_34).trans (if_pos c_43)] at h5; refine ⟨?_, h5.1, h5.2.trans h4⟩; show _ = gOnS u c r w t z d (gOn u c r w t z g q d); rw [← h2]; exact ((if_neg c_34).trans (if_pos c_43)).symm) | (refine ⟨?_, h3, h4⟩; show _ = gOnS u c r w t z d (gOn u c r w t z g q d); rw [← h2]; first | exact (if_pos c_34).symm | exact ((if_neg c_34).trans (if_neg c_43)).symm))) (by show cDrs u c - (d + 1) < cDrs u c - d; omega)

theorem hin_X3_come_X0 : ∀ x ∈ wsX00, x ∈ wsX3_come := fun x h => List.mem_cons_of_mem _ (List.mem_append_left _ (List.mem_append_left _ (List.mem_append_right _ h)))
theorem hin_X3_come_X3 : ∀ x ∈ wsX30, x ∈ wsX3_come := fun x h => List.mem_cons_of_mem _ (List.mem_append_left _ (List.mem_append_left _ (List.mem_append_left _ (List.mem_append_right _ h))))
abbrev rm_X3_come : Room := { frames := 4, cells := 0, slots := 0, locals := 92 }
set_option maxHeartbeats 4000000 in
set_option maxRecDepth 100000 in
theorem c_X3_come (l : Launch) (D : va_G) (cI cJ cR : ClassId) (ad : Nat → Nat) (e : Nat) (u : CaveT) (h : EchT) (g : SndT) (q : QueT) (hB : cOk u) (hI : sOk g q) (hH : hOk h) (x : Nat) (hx : x < 2147483648) : ek_M (S := Unit) l yX3_come wsX3_come rm_X3_come D (tyW cI cJ cR) nestW [.ref (ad 32), .int (nI x), .ref (ad e)] (wS ad e cI cJ cR g q u h) (fun r9 _ => r9 = none ∧ True) (fun _ => wS ad e cI cJ cR (gCome u x g q h).1 (gCome u x g q h).2.1 u (gCome u x g q h).2.2) := by
  refine ek_M.of (cc := cX3_come) (maxL := 8) (ret := none) (by decide) rfl (Nat.le_of_ble_eq_true rfl) ?_
  intro p9 e9 s9 m9 args9 below9 meth9 c9 A X hin
  obtain ⟨⟨hC1, hC2⟩, hPs, hWt, bWal, bHgt, bBat, bSyl, bDel, bDrs, bFrm, bTo, bLen, bNar, bPb⟩ := id hB
  obtain ⟨hr17, hcl, hsy, hpl, hus, hq, hpo⟩ := id hI
  refine ek_castL (lv' := [(0, .ref (ad 32)), (1, .int (nI x)), (2, .ref (ad e))]) rfl ?_
  refine ek_iln X 1 rfl dX3_come_0 ?_
  refine ek_doRi (ek_runS (As := [.int (nI x)]) (rest := []) X (c_X1_timeOf l D cI cJ cR x (by omega)) gX3_come_X1_timeOf rfl hd_X1_timeOf ⟨Nat.le_of_ble_eq_true rfl, Nat.le_of_ble_eq_true rfl⟩ ⟨Nat.le_of_ble_eq_true rfl, Nat.le_of_ble_eq_true rfl⟩ [] rfl (by decide) (Nat.le_of_ble_eq_true rfl) dX3_come_1) (fun v_1 hv_1 => ?_)
  subst hv_1
  refine ek_isn (lv' := [(3, .int (nI (x / 2 ^ 21))), (0, .ref (ad 32)), (1, .int (nI x)), (2, .ref (ad e))]) X (by decide) rfl dX3_come_4 ?_
  refine ek_iln X 2 rfl dX3_come_5 ?_
  refine ek_doRi (ek_runS (As := [.int (nI x)]) (rest := []) X (c_X1_chamberOf l D cI cJ cR x (by omega)) gX3_come_X1_chamberOf rfl hd_X1_chamberOf ⟨Nat.le_of_ble_eq_true rfl, Nat.le_of_ble_eq_true rfl⟩ ⟨Nat.le_of_ble_eq_true rfl, Nat.le_of_ble_eq_true rfl⟩ [] rfl (by decide) (Nat.le_of_ble_eq_true rfl) dX3_come_6) (fun v_6 hv_6 => ?_)
  subst hv_6
  refine ek_is (lv' := [(4, .int (nI (x / 2 ^ 17 % 2 ^ 4))), (3, .int (nI (x / 2 ^ 21))), (0, .ref (ad 32)), (1, .int (nI x)), (2, .ref (ad e))]) X (by decide) rfl dX3_come_9 ?_
  refine ek_iln X 3 rfl dX3_come_11 ?_
  refine ek_doRi (ek_runS (As := [.int (nI x)]) (rest := []) X (c_X1_runOf l D cI cJ cR x (by omega)) gX3_come_X1_runOf rfl hd_X1_runOf ⟨Nat.le_of_ble_eq_true rfl, Nat.le_of_ble_eq_true rfl⟩ ⟨Nat.le_of_ble_eq_true rfl, Nat.le_of_ble_eq_true rfl⟩ [] rfl (by decide) (Nat.le_of_ble_eq_true rfl) dX3_come_12) (fun v_12 hv_12 => ?_)
  subst hv_12
  refine ek_is (lv' := [(5, .int (nI (x / 2 ^ 12 % 2 ^ 5))), (4, .int (nI (x / 2 ^ 17 % 2 ^ 4))), (3, .int (nI (x / 2 ^ 21))), (0, .ref (ad 32)), (1, .int (nI x)), (2, .ref (ad e))]) X (by decide) rfl dX3_come_15 ?_
  refine ek_iln X 4 rfl dX3_come_17 ?_
  refine ek_doRi (ek_runS (As := [.int (nI x)]) (rest := []) X (c_X1_passageOf l D cI cJ cR x (by omega)) gX3_come_X1_passageOf rfl hd_X1_passageOf ⟨Nat.le_of_ble_eq_true rfl, Nat.le_of_ble_eq_true rfl⟩ ⟨Nat.le_of_ble_eq_true rfl, Nat.le_of_ble_eq_true rfl⟩ [] rfl (by decide) (Nat.le_of_ble_eq_true rfl) dX3_come_18) (fun v_18 hv_18 => ?_)
  subst hv_18
  rcases Nat.eq_zero_or_pos (x / 2 ^ 7 % 2 ^ 5) with hb | hb
  · refine ek_top (v' := -1) (by rw [hb]; decide) ?_
    refine ek_is (lv' := [(6, .int (-1)), (5, .int (nI (x / 2 ^ 12 % 2 ^ 5))), (4, .int (nI (x / 2 ^ 17 % 2 ^ 4))), (3, .int (nI (x / 2 ^ 21))), (0, .ref (ad 32)), (1, .int (nI x)), (2, .ref (ad e))]) X (by decide) rfl dX3_come_21 ?_
    refine ek_iln X 5 rfl dX3_come_23 ?_
    refine ek_doRi (ek_runS (As := [.int (nI x)]) (rest := []) X (c_X1_strengthOf l D cI cJ cR x (by omega)) gX3_come_X1_strengthOf rfl hd_X1_strengthOf ⟨Nat.le_of_ble_eq_true rfl, Nat.le_of_ble_eq_true rfl⟩ ⟨Nat.le_of_ble_eq_true rfl, Nat.le_of_ble_eq_true rfl⟩ [] rfl (by decide) (Nat.le_of_ble_eq_true rfl) dX3_come_24) (fun v_24 hv_24 => ?_)
    subst hv_24
    refine ek_is (lv' := [(7, .int (nI (x % 2 ^ 7))), (6, .int (-1)), (5, .int (nI (x / 2 ^ 12 % 2 ^ 5))), (4, .int (nI (x / 2 ^ 17 % 2 ^ 4))), (3, .int (nI (x / 2 ^ 21))), (0, .ref (ad 32)), (1, .int (nI x)), (2, .ref (ad e))]) X (by decide) rfl dX3_come_27 ?_
    refine ek_il X 2 rfl dX3_come_29 ?_
    refine ek_aln X 5 rfl dX3_come_31 ?_
    refine ek_get X hin_X3_come_X3 0 rfl rfl 5 (by decide) (List.mem_of_getElem? (i := 1) rfl) rfl dX3_come_32 ?_
    refine ek_Nge X (by omega) (by omega) 62 (by decide) dX3_come_35 (fun c_35 => ?_) (fun c_35 => ?_)
    · skip
      exact ek_retv X () ⟨rfl, trivial⟩ (by first | (exfalso; omega; done) | (show _ = wS ad e cI cJ cR (gComeP u (x / 2 ^ 21) (x / 2 ^ 17 % 2 ^ 4) (x / 2 ^ 12 % 2 ^ 5) (x / 2 ^ 7 % 2 ^ 5) (x % 2 ^ 7) g q h).1 (gComeP u (x / 2 ^ 21) (x / 2 ^ 17 % 2 ^ 4) (x / 2 ^ 12 % 2 ^ 5) (x / 2 ^ 7 % 2 ^ 5) (x % 2 ^ 7) g q h).2.1 u (gComeP u (x / 2 ^ 21) (x / 2 ^ 17 % 2 ^ 4) (x / 2 ^ 12 % 2 ^ 5) (x / 2 ^ 7 % 2 ^ 5) (x % 2 ^ 7) g q h).2.2; rw [show gComeP u (x / 2 ^ 21) (x / 2 ^ 17 % 2 ^ 4) (x / 2 ^ 12 % 2 ^ 5) (x / 2 ^ 7 % 2 ^ 5) (x % 2 ^ 7) g q h = (g, q, h) from if_pos (by first | omega | exact Or.inr (Or.inl (Nat.not_lt.mp (fun h => c_44 ((hasC hC1 hC2 (by omega)).mpr h)))))])) dX3_come_62
    · skip
      refine ek_aln X 5 rfl dX3_come_38 ?_
      refine ek_get X hin_X3_come_X3 0 rfl rfl 0 (by decide) (List.mem_of_getElem? (i := 2) rfl) rfl dX3_come_39 ?_
      refine ek_il X 3 rfl dX3_come_42 ?_
      refine ek_doRi (ek_runV (As := [.int (nI (x / 2 ^ 17 % 2 ^ 4))]) (rest := []) X (c_X0_hasChamber l D cI cJ cR ad u hB (nI (x / 2 ^ 17 % 2 ^ 4))) gX3_come_X0_hasChamber rfl hdV_X0_hasChamber ⟨Nat.le_of_ble_eq_true rfl, Nat.le_of_ble_eq_true rfl⟩ ⟨Nat.le_of_ble_eq_true rfl, Nat.le_of_ble_eq_true rfl⟩ [6, 7, 8, 9, 10, 11, 12, 13, 14, 15, 16, 17, 18, 19, 20, 21, 22, 23, 24, 25, 26, 27, 28, 29, 30] rfl (by decide) 0 0 rfl rfl (Nat.le_of_ble_eq_true rfl) dX3_come_44) (fun v_44 hv_44 => ?_)
      subst hv_44
      by_cases c_44 : nI 0 ≤ (nI (x / 2 ^ 17 % 2 ^ 4)) ∧ (nI (x / 2 ^ 17 % 2 ^ 4)) ≤ nI (cC u - 1)
      · refine ek_top (v' := nI 1) (congrArg nI (if_pos c_44)) ?_
        refine ek_Zeq X (by omega) 62 (by decide) dX3_come_47 (fun h => absurd h (by omega)) (fun _ => ?_)
        have hcc : x / 2 ^ 17 % 2 ^ 4 < cC u := (hasC hC1 hC2 (by omega)).mp c_44
        refine ek_il X 1 rfl dX3_come_50 ?_
        refine ek_aln X 5 rfl dX3_come_52 ?_
        refine ek_get X hin_X3_come_X3 0 rfl rfl 0 (by decide) (List.mem_of_getElem? (i := 2) rfl) rfl dX3_come_53 ?_
        refine ek_getN X hin_X3_come_X0 6 rfl rfl 8 (by decide) (List.mem_of_getElem? (i := 9) rfl) rfl dX3_come_56 ?_
        refine ek_icmp_lt X 63 (by decide) dX3_come_59 (fun c_59 => ?_) (fun c_59 => ?_)
        · skip
          refine ek_il X 3 rfl dX3_come_63 ?_
          refine ek_Zne X (by omega) 94 (by decide) dX3_come_65 (fun c_65 => ?_) (fun c_65 => ?_)
          · skip
            refine ek_aln X 5 rfl dX3_come_94 ?_
            refine ek_get X hin_X3_come_X3 0 rfl rfl 0 (by decide) (List.mem_of_getElem? (i := 2) rfl) rfl dX3_come_95 ?_
            refine ek_il X 3 rfl dX3_come_98 ?_
            refine ek_il X 0 rfl dX3_come_100 ?_
            refine ek_doRi (ek_runV (As := [.int (nI (x / 2 ^ 17 % 2 ^ 4)), .int (nI (x % 2 ^ 7))]) (rest := []) X (c_X0_drowns l D cI cJ cR ad u hB (x / 2 ^ 17 % 2 ^ 4) (x % 2 ^ 7) (by omega) (by omega)) gX3_come_X0_drowns rfl hdV_X0_drowns ⟨Nat.le_of_ble_eq_true rfl, Nat.le_of_ble_eq_true rfl⟩ ⟨Nat.le_of_ble_eq_true rfl, Nat.le_of_ble_eq_true rfl⟩ [6, 7, 8, 9, 10, 11, 12, 13, 14, 15, 16, 17, 18, 19, 20, 21, 22, 23, 24, 25, 26, 27, 28, 29, 30] rfl (by decide) 0 0 rfl rfl (Nat.le_of_ble_eq_true rfl) dX3_come_102) (fun v_102 hv_102 => ?_)
            subst hv_102
            by_cases c_102 : (x % 2 ^ 7) < 2 * cBat u (x / 2 ^ 17 % 2 ^ 4) + 1
            · refine ek_top (v' := nI 1) (congrArg nI (if_pos c_102)) ?_
              refine ek_Zeq X (by omega) 109 (by decide) dX3_come_105 (fun h => absurd h (by omega)) (fun _ => ?_)
              exact ek_retv X () ⟨rfl, trivial⟩ (by first | (exfalso; omega; done) | (show _ = wS ad e cI cJ cR (gComeP u (x / 2 ^ 21) (x / 2 ^ 17 % 2 ^ 4) (x / 2 ^ 12 % 2 ^ 5) (x / 2 ^ 7 % 2 ^ 5) (x % 2 ^ 7) g q h).1 (gComeP u (x / 2 ^ 21) (x / 2 ^ 17 % 2 ^ 4) (x / 2 ^ 12 % 2 ^ 5) (x / 2 ^ 7 % 2 ^ 5) (x % 2 ^ 7) g q h).2.1 u (gComeP u (x / 2 ^ 21) (x / 2 ^ 17 % 2 ^ 4) (x / 2 ^ 12 % 2 ^ 5) (x / 2 ^ 7 % 2 ^ 5) (x % 2 ^ 7) g q h).2.2; rw [show gComeP u (x / 2 ^ 21) (x / 2 ^ 17 % 2 ^ 4) (x / 2 ^ 12 % 2 ^ 5) (x / 2 ^ 7 % 2 ^ 5) (x % 2 ^ 7) g q h = (g, q, hMay (x / 2 ^ 21) (x / 2 ^ 17 % 2 ^ 4) (x / 2 ^ 12 % 2 ^ 5) (x / 2 ^ 7 % 2 ^ 5) (x % 2 ^ 7) g h) from (if_neg (by omega)).trans (if_pos (by omega))]; unfold hMay; first | rw [if_pos (by omega)] | rw [if_neg (by omega)])) dX3_come_108
            · refine ek_top (v' := nI 0) (congrArg nI (if_neg c_102)) ?_
              refine ek_Zeq X (by omega) 109 (by decide) dX3_come_105 (fun _ => ?_) (fun h => absurd h (by omega))
              refine ek_aln X 5 rfl dX3_come_109 ?_
              refine ek_il X 3 rfl dX3_come_110 ?_
              refine ek_il X 2 rfl dX3_come_112 ?_
              refine ek_iln X 4 rfl dX3_come_114 ?_
              refine ek_doWv X (ek_runV (As := [.int (nI (x / 2 ^ 17 % 2 ^ 4)), .int (nI (x / 2 ^ 12 % 2 ^ 5)), .int (nI (x / 2 ^ 21))]) (rest := []) X (c_X3_setOffClapper l D cI cJ cR ad e u h g q hB hI (x / 2 ^ 17 % 2 ^ 4) (x / 2 ^ 12 % 2 ^ 5) (x / 2 ^ 21) (by omega) (by omega) (by omega)) gX3_come_X3_setOffClapper rfl hdV_X3_setOffClapper ⟨Nat.le_of_ble_eq_true rfl, Nat.le_of_ble_eq_true rfl⟩ ⟨Nat.le_of_ble_eq_true rfl, Nat.le_of_ble_eq_true rfl⟩ [0, 1, 2, 3, 4, 5, 6, 7, 8, 9, 10, 11, 12, 13, 14, 15, 16, 17, 18, 19, 20, 21, 22, 23, 24, 25, 26, 27, 28, 29, 30, 31, 32, 33] rfl (by decide) 0 3 rfl rfl (Nat.le_of_ble_eq_true rfl) dX3_come_115) [0, 1, 2, 3, 4, 5, 6, 7, 8, 9, 10, 11, 12, 13, 14, 15, 16, 17, 18, 19, 20, 21, 22, 23, 24, 25, 26, 27, 28, 29, 30, 31, 32, 33] [] rfl rfl (by decide) (by decide) (fun _ => wS ad e cI cJ cR (gClap u (x / 2 ^ 17 % 2 ^ 4) (x / 2 ^ 12 % 2 ^ 5) (x / 2 ^ 21) g q).1 (gClap u (x / 2 ^ 17 % 2 ^ 4) (x / 2 ^ 12 % 2 ^ 5) (x / 2 ^ 21) g q).2 u h) [0, 1, 2, 3, 4, 5, 6, 7, 8, 9, 10, 11, 12, 13, 14, 15, 16, 17, 18, 19, 20, 21, 22, 23, 24, 25, 26, 27, 28, 29, 30, 31, 32, 33] (by decide) (fun _ => rfl) (fun u_115 hv_115 => ?_)
              have hI1 := gClap_ok (u := u) hI (c := x / 2 ^ 17 % 2 ^ 4) (r := x / 2 ^ 12 % 2 ^ 5) (t := x / 2 ^ 21) (by omega)
              refine ek_aln X 5 rfl dX3_come_118 ?_
              refine ek_il X 3 rfl dX3_come_119 ?_
              refine ek_il X 2 rfl dX3_come_121 ?_
              refine ek_il X 1 rfl dX3_come_123 ?_
              refine ek_iln X 4 rfl dX3_come_125 ?_
              refine ek_il X 0 rfl dX3_come_126 ?_
              refine ek_doWv X (ek_runV (As := [.int (nI (x / 2 ^ 17 % 2 ^ 4)), .int (nI (x / 2 ^ 12 % 2 ^ 5)), .int (-1), .int (nI (x / 2 ^ 21)), .int (nI (x % 2 ^ 7))]) (rest := []) X (c_X3_goOn l D cI cJ cR ad e u h ((gClap u (x / 2 ^ 17 % 2 ^ 4) (x / 2 ^ 12 % 2 ^ 5) (x / 2 ^ 21) g q).1) ((gClap u (x / 2 ^ 17 % 2 ^ 4) (x / 2 ^ 12 % 2 ^ 5) (x / 2 ^ 21) g q).2) hB hI1.1 (x / 2 ^ 17 % 2 ^ 4) (x / 2 ^ 12 % 2 ^ 5) (-1) (x / 2 ^ 21) (x % 2 ^ 7) (by omega) (by omega) (by omega) (by omega)) gX3_come_X3_goOn rfl hdV_X3_goOn ⟨Nat.le_of_ble_eq_true rfl, Nat.le_of_ble_eq_true rfl⟩ ⟨Nat.le_of_ble_eq_true rfl, Nat.le_of_ble_eq_true rfl⟩ [0, 1, 2, 3, 4, 5, 6, 7, 8, 9, 10, 11, 12, 13, 14, 15, 16, 17, 18, 19, 20, 21, 22, 23, 24, 25, 26, 27, 28, 29, 30, 31, 32, 33] rfl (by decide) 0 3 rfl rfl (Nat.le_of_ble_eq_true rfl) dX3_come_128) [0, 1, 2, 3, 4, 5, 6, 7, 8, 9, 10, 11, 12, 13, 14, 15, 16, 17, 18, 19, 20, 21, 22, 23, 24, 25, 26, 27, 28, 29, 30, 31, 32, 33] [] rfl rfl (by decide) (by decide) (fun _ => wS ad e cI cJ cR (gOn u (x / 2 ^ 17 % 2 ^ 4) (x / 2 ^ 12 % 2 ^ 5) (-1) (x / 2 ^ 21) (x % 2 ^ 7) ((gClap u (x / 2 ^ 17 % 2 ^ 4) (x / 2 ^ 12 % 2 ^ 5) (x / 2 ^ 21) g q).1) ((gClap u (x / 2 ^ 17 % 2 ^ 4) (x / 2 ^ 12 % 2 ^ 5) (x / 2 ^ 21) g q).2) (cDrs u (x / 2 ^ 17 % 2 ^ 4))).1 (gOn u (x / 2 ^ 17 % 2 ^ 4) (x / 2 ^ 12 % 2 ^ 5) (-1) (x / 2 ^ 21) (x % 2 ^ 7) ((gClap u (x / 2 ^ 17 % 2 ^ 4) (x / 2 ^ 12 % 2 ^ 5) (x / 2 ^ 21) g q).1) ((gClap u (x / 2 ^ 17 % 2 ^ 4) (x / 2 ^ 12 % 2 ^ 5) (x / 2 ^ 21) g q).2) (cDrs u (x / 2 ^ 17 % 2 ^ 4))).2 u h) [0, 1, 2, 3, 4, 5, 6, 7, 8, 9, 10, 11, 12, 13, 14, 15, 16, 17, 18, 19, 20, 21, 22, 23, 24, 25, 26, 27, 28, 29, 30, 31, 32, 33] (by decide) (fun _ => rfl) (fun u_128 hv_128 => ?_)
              have hI2 := gOn_ok hB hI1.1 (c := x / 2 ^ 17 % 2 ^ 4) (r := x / 2 ^ 12 % 2 ^ 5) (t := x / 2 ^ 21) (z := x % 2 ^ 7) (w := -1) (by omega) (by omega) (cDrs u (x / 2 ^ 17 % 2 ^ 4))
              refine ek_il X 3 rfl dX3_come_131 ?_
              refine ek_Zeq X (by omega) 163 (by decide) dX3_come_133 (fun c_133 => ?_) (fun c_133 => ?_)
              · skip
                exact ek_retv X () ⟨rfl, trivial⟩ (by first | (exfalso; omega; done) | (show _ = wS ad e cI cJ cR (gComeP u (x / 2 ^ 21) (x / 2 ^ 17 % 2 ^ 4) (x / 2 ^ 12 % 2 ^ 5) (x / 2 ^ 7 % 2 ^ 5) (x % 2 ^ 7) g q h).1 (gComeP u (x / 2 ^ 21) (x / 2 ^ 17 % 2 ^ 4) (x / 2 ^ 12 % 2 ^ 5) (x / 2 ^ 7 % 2 ^ 5) (x % 2 ^ 7) g q h).2.1 u (gComeP u (x / 2 ^ 21) (x / 2 ^ 17 % 2 ^ 4) (x / 2 ^ 12 % 2 ^ 5) (x / 2 ^ 7 % 2 ^ 5) (x % 2 ^ 7) g q h).2.2; rw [show gComeP u (x / 2 ^ 21) (x / 2 ^ 17 % 2 ^ 4) (x / 2 ^ 12 % 2 ^ 5) (x / 2 ^ 7 % 2 ^ 5) (x % 2 ^ 7) g q h = ((gFar u (x / 2 ^ 21) (x / 2 ^ 17 % 2 ^ 4) (x / 2 ^ 12 % 2 ^ 5) (x / 2 ^ 7 % 2 ^ 5) (x % 2 ^ 7) g q).1, (gFar u (x / 2 ^ 21) (x / 2 ^ 17 % 2 ^ 4) (x / 2 ^ 12 % 2 ^ 5) (x / 2 ^ 7 % 2 ^ 5) (x % 2 ^ 7) g q).2, hMay (x / 2 ^ 21) (x / 2 ^ 17 % 2 ^ 4) (x / 2 ^ 12 % 2 ^ 5) (x / 2 ^ 7 % 2 ^ 5) (x % 2 ^ 7) g h) from (if_neg (by omega)).trans (if_neg (by omega))]; unfold gFar gRest; (first | rw [if_pos (by omega)] | rw [if_neg (by omega)]); unfold pW; (first | rw [if_pos (by omega)] | rw [if_neg (by omega)]); unfold hMay; first | rw [if_pos (by omega)] | rw [if_neg (by omega)])) dX3_come_163
              · skip
                refine ek_il X 1 rfl dX3_come_136 ?_
                refine ek_if_lt X 163 (by decide) dX3_come_138 (fun c_138 => ?_) (fun c_138 => ?_)
                · skip
                  exact ek_retv X () ⟨rfl, trivial⟩ (by first | (exfalso; omega; done) | (show _ = wS ad e cI cJ cR (gComeP u (x / 2 ^ 21) (x / 2 ^ 17 % 2 ^ 4) (x / 2 ^ 12 % 2 ^ 5) (x / 2 ^ 7 % 2 ^ 5) (x % 2 ^ 7) g q h).1 (gComeP u (x / 2 ^ 21) (x / 2 ^ 17 % 2 ^ 4) (x / 2 ^ 12 % 2 ^ 5) (x / 2 ^ 7 % 2 ^ 5) (x % 2 ^ 7) g q h).2.1 u (gComeP u (x / 2 ^ 21) (x / 2 ^ 17 % 2 ^ 4) (x / 2 ^ 12 % 2 ^ 5) (x / 2 ^ 7 % 2 ^ 5) (x % 2 ^ 7) g q h).2.2; rw [show gComeP u (x / 2 ^ 21) (x / 2 ^ 17 % 2 ^ 4) (x / 2 ^ 12 % 2 ^ 5) (x / 2 ^ 7 % 2 ^ 5) (x % 2 ^ 7) g q h = ((gFar u (x / 2 ^ 21) (x / 2 ^ 17 % 2 ^ 4) (x / 2 ^ 12 % 2 ^ 5) (x / 2 ^ 7 % 2 ^ 5) (x % 2 ^ 7) g q).1, (gFar u (x / 2 ^ 21) (x / 2 ^ 17 % 2 ^ 4) (x / 2 ^ 12 % 2 ^ 5) (x / 2 ^ 7 % 2 ^ 5) (x % 2 ^ 7) g q).2, hMay (x / 2 ^ 21) (x / 2 ^ 17 % 2 ^ 4) (x / 2 ^ 12 % 2 ^ 5) (x / 2 ^ 7 % 2 ^ 5) (x % 2 ^ 7) g h) from (if_neg (by omega)).trans (if_neg (by omega))]; unfold gFar gRest; (first | rw [if_pos (by omega)] | rw [if_neg (by omega)]); unfold pW; (first | rw [if_pos (by omega)] | rw [if_neg (by omega)]); unfold hMay; first | rw [if_pos (by omega)] | rw [if_neg (by omega)])) dX3_come_163
                · exact absurd (by decide) c_138
          · skip
            refine ek_il X 1 rfl dX3_come_68 ?_
            refine ek_if_lt X 94 (by decide) dX3_come_70 (fun c_70 => ?_) (fun c_70 => ?_)
            · skip
              refine ek_aln X 5 rfl dX3_come_94 ?_
              refine ek_get X hin_X3_come_X3 0 rfl rfl 0 (by decide) (List.mem_of_getElem? (i := 2) rfl) rfl dX3_come_95 ?_
              refine ek_il X 3 rfl dX3_come_98 ?_
              refine ek_il X 0 rfl dX3_come_100 ?_
              refine ek_doRi (ek_runV (As := [.int (nI (x / 2 ^ 17 % 2 ^ 4)), .int (nI (x % 2 ^ 7))]) (rest := []) X (c_X0_drowns l D cI cJ cR ad u hB (x / 2 ^ 17 % 2 ^ 4) (x % 2 ^ 7) (by omega) (by omega)) gX3_come_X0_drowns rfl hdV_X0_drowns ⟨Nat.le_of_ble_eq_true rfl, Nat.le_of_ble_eq_true rfl⟩ ⟨Nat.le_of_ble_eq_true rfl, Nat.le_of_ble_eq_true rfl⟩ [6, 7, 8, 9, 10, 11, 12, 13, 14, 15, 16, 17, 18, 19, 20, 21, 22, 23, 24, 25, 26, 27, 28, 29, 30] rfl (by decide) 0 0 rfl rfl (Nat.le_of_ble_eq_true rfl) dX3_come_102) (fun v_102 hv_102 => ?_)
              subst hv_102
              by_cases c_102 : (x % 2 ^ 7) < 2 * cBat u (x / 2 ^ 17 % 2 ^ 4) + 1
              · refine ek_top (v' := nI 1) (congrArg nI (if_pos c_102)) ?_
                refine ek_Zeq X (by omega) 109 (by decide) dX3_come_105 (fun h => absurd h (by omega)) (fun _ => ?_)
                exact ek_retv X () ⟨rfl, trivial⟩ (by first | (exfalso; omega; done) | (show _ = wS ad e cI cJ cR (gComeP u (x / 2 ^ 21) (x / 2 ^ 17 % 2 ^ 4) (x / 2 ^ 12 % 2 ^ 5) (x / 2 ^ 7 % 2 ^ 5) (x % 2 ^ 7) g q h).1 (gComeP u (x / 2 ^ 21) (x / 2 ^ 17 % 2 ^ 4) (x / 2 ^ 12 % 2 ^ 5) (x / 2 ^ 7 % 2 ^ 5) (x % 2 ^ 7) g q h).2.1 u (gComeP u (x / 2 ^ 21) (x / 2 ^ 17 % 2 ^ 4) (x / 2 ^ 12 % 2 ^ 5) (x / 2 ^ 7 % 2 ^ 5) (x % 2 ^ 7) g q h).2.2; rw [show gComeP u (x / 2 ^ 21) (x / 2 ^ 17 % 2 ^ 4) (x / 2 ^ 12 % 2 ^ 5) (x / 2 ^ 7 % 2 ^ 5) (x % 2 ^ 7) g q h = (g, q, hMay (x / 2 ^ 21) (x / 2 ^ 17 % 2 ^ 4) (x / 2 ^ 12 % 2 ^ 5) (x / 2 ^ 7 % 2 ^ 5) (x % 2 ^ 7) g h) from (if_neg (by omega)).trans (if_pos (by omega))]; unfold hMay; first | rw [if_pos (by omega)] | rw [if_neg (by omega)])) dX3_come_108
              · refine ek_top (v' := nI 0) (congrArg nI (if_neg c_102)) ?_
                refine ek_Zeq X (by omega) 109 (by decide) dX3_come_105 (fun _ => ?_) (fun h => absurd h (by omega))
                refine ek_aln X 5 rfl dX3_come_109 ?_
                refine ek_il X 3 rfl dX3_come_110 ?_
                refine ek_il X 2 rfl dX3_come_112 ?_
                refine ek_iln X 4 rfl dX3_come_114 ?_
                refine ek_doWv X (ek_runV (As := [.int (nI (x / 2 ^ 17 % 2 ^ 4)), .int (nI (x / 2 ^ 12 % 2 ^ 5)), .int (nI (x / 2 ^ 21))]) (rest := []) X (c_X3_setOffClapper l D cI cJ cR ad e u h g q hB hI (x / 2 ^ 17 % 2 ^ 4) (x / 2 ^ 12 % 2 ^ 5) (x / 2 ^ 21) (by omega) (by omega) (by omega)) gX3_come_X3_setOffClapper rfl hdV_X3_setOffClapper ⟨Nat.le_of_ble_eq_true rfl, Nat.le_of_ble_eq_true rfl⟩ ⟨Nat.le_of_ble_eq_true rfl, Nat.le_of_ble_eq_true rfl⟩ [0, 1, 2, 3, 4, 5, 6, 7, 8, 9, 10, 11, 12, 13, 14, 15, 16, 17, 18, 19, 20, 21, 22, 23, 24, 25, 26, 27, 28, 29, 30, 31, 32, 33] rfl (by decide) 0 3 rfl rfl (Nat.le_of_ble_eq_true rfl) dX3_come_115) [0, 1, 2, 3, 4, 5, 6, 7, 8, 9, 10, 11, 12, 13, 14, 15, 16, 17, 18, 19, 20, 21, 22, 23, 24, 25, 26, 27, 28, 29, 30, 31, 32, 33] [] rfl rfl (by decide) (by decide) (fun _ => wS ad e cI cJ cR (gClap u (x / 2 ^ 17 % 2 ^ 4) (x / 2 ^ 12 % 2 ^ 5) (x / 2 ^ 21) g q).1 (gClap u (x / 2 ^ 17 % 2 ^ 4) (x / 2 ^ 12 % 2 ^ 5) (x / 2 ^ 21) g q).2 u h) [0, 1, 2, 3, 4, 5, 6, 7, 8, 9, 10, 11, 12, 13, 14, 15, 16, 17, 18, 19, 20, 21, 22, 23, 24, 25, 26, 27, 28, 29, 30, 31, 32, 33] (by decide) (fun _ => rfl) (fun u_115 hv_115 => ?_)
                have hI1 := gClap_ok (u := u) hI (c := x / 2 ^ 17 % 2 ^ 4) (r := x / 2 ^ 12 % 2 ^ 5) (t := x / 2 ^ 21) (by omega)
                refine ek_aln X 5 rfl dX3_come_118 ?_
                refine ek_il X 3 rfl dX3_come_119 ?_
                refine ek_il X 2 rfl dX3_come_121 ?_
                refine ek_il X 1 rfl dX3_come_123 ?_
                refine ek_iln X 4 rfl dX3_come_125 ?_
                refine ek_il X 0 rfl dX3_come_126 ?_
                refine ek_doWv X (ek_runV (As := [.int (nI (x / 2 ^ 17 % 2 ^ 4)), .int (nI (x / 2 ^ 12 % 2 ^ 5)), .int (-1), .int (nI (x / 2 ^ 21)), .int (nI (x % 2 ^ 7))]) (rest := []) X (c_X3_goOn l D cI cJ cR ad e u h ((gClap u (x / 2 ^ 17 % 2 ^ 4) (x / 2 ^ 12 % 2 ^ 5) (x / 2 ^ 21) g q).1) ((gClap u (x / 2 ^ 17 % 2 ^ 4) (x / 2 ^ 12 % 2 ^ 5) (x / 2 ^ 21) g q).2) hB hI1.1 (x / 2 ^ 17 % 2 ^ 4) (x / 2 ^ 12 % 2 ^ 5) (-1) (x / 2 ^ 21) (x % 2 ^ 7) (by omega) (by omega) (by omega) (by omega)) gX3_come_X3_goOn rfl hdV_X3_goOn ⟨Nat.le_of_ble_eq_true rfl, Nat.le_of_ble_eq_true rfl⟩ ⟨Nat.le_of_ble_eq_true rfl, Nat.le_of_ble_eq_true rfl⟩ [0, 1, 2, 3, 4, 5, 6, 7, 8, 9, 10, 11, 12, 13, 14, 15, 16, 17, 18, 19, 20, 21, 22, 23, 24, 25, 26, 27, 28, 29, 30, 31, 32, 33] rfl (by decide) 0 3 rfl rfl (Nat.le_of_ble_eq_true rfl) dX3_come_128) [0, 1, 2, 3, 4, 5, 6, 7, 8, 9, 10, 11, 12, 13, 14, 15, 16, 17, 18, 19, 20, 21, 22, 23, 24, 25, 26, 27, 28, 29, 30, 31, 32, 33] [] rfl rfl (by decide) (by decide) (fun _ => wS ad e cI cJ cR (gOn u (x / 2 ^ 17 % 2 ^ 4) (x / 2 ^ 12 % 2 ^ 5) (-1) (x / 2 ^ 21) (x % 2 ^ 7) ((gClap u (x / 2 ^ 17 % 2 ^ 4) (x / 2 ^ 12 % 2 ^ 5) (x / 2 ^ 21) g q).1) ((gClap u (x / 2 ^ 17 % 2 ^ 4) (x / 2 ^ 12 % 2 ^ 5) (x / 2 ^ 21) g q).2) (cDrs u (x / 2 ^ 17 % 2 ^ 4))).1 (gOn u (x / 2 ^ 17 % 2 ^ 4) (x / 2 ^ 12 % 2 ^ 5) (-1) (x / 2 ^ 21) (x % 2 ^ 7) ((gClap u (x / 2 ^ 17 % 2 ^ 4) (x / 2 ^ 12 % 2 ^ 5) (x / 2 ^ 21) g q).1) ((gClap u (x / 2 ^ 17 % 2 ^ 4) (x / 2 ^ 12 % 2 ^ 5) (x / 2 ^ 21) g q).2) (cDrs u (x / 2 ^ 17 % 2 ^ 4))).2 u h) [0, 1, 2, 3, 4, 5, 6, 7, 8, 9, 10, 11, 12, 13, 14, 15, 16, 17, 18, 19, 20, 21, 22, 23, 24, 25, 26, 27, 28, 29, 30, 31, 32, 33] (by decide) (fun _ => rfl) (fun u_128 hv_128 => ?_)
                have hI2 := gOn_ok hB hI1.1 (c := x / 2 ^ 17 % 2 ^ 4) (r := x / 2 ^ 12 % 2 ^ 5) (t := x / 2 ^ 21) (z := x % 2 ^ 7) (w := -1) (by omega) (by omega) (cDrs u (x / 2 ^ 17 % 2 ^ 4))
                refine ek_il X 3 rfl dX3_come_131 ?_
                refine ek_Zeq X (by omega) 163 (by decide) dX3_come_133 (fun c_133 => ?_) (fun c_133 => ?_)
                · skip
                  exact ek_retv X () ⟨rfl, trivial⟩ (by first | (exfalso; omega; done) | (show _ = wS ad e cI cJ cR (gComeP u (x / 2 ^ 21) (x / 2 ^ 17 % 2 ^ 4) (x / 2 ^ 12 % 2 ^ 5) (x / 2 ^ 7 % 2 ^ 5) (x % 2 ^ 7) g q h).1 (gComeP u (x / 2 ^ 21) (x / 2 ^ 17 % 2 ^ 4) (x / 2 ^ 12 % 2 ^ 5) (x / 2 ^ 7 % 2 ^ 5) (x % 2 ^ 7) g q h).2.1 u (gComeP u (x / 2 ^ 21) (x / 2 ^ 17 % 2 ^ 4) (x / 2 ^ 12 % 2 ^ 5) (x / 2 ^ 7 % 2 ^ 5) (x % 2 ^ 7) g q h).2.2; rw [show gComeP u (x / 2 ^ 21) (x / 2 ^ 17 % 2 ^ 4) (x / 2 ^ 12 % 2 ^ 5) (x / 2 ^ 7 % 2 ^ 5) (x % 2 ^ 7) g q h = ((gFar u (x / 2 ^ 21) (x / 2 ^ 17 % 2 ^ 4) (x / 2 ^ 12 % 2 ^ 5) (x / 2 ^ 7 % 2 ^ 5) (x % 2 ^ 7) g q).1, (gFar u (x / 2 ^ 21) (x / 2 ^ 17 % 2 ^ 4) (x / 2 ^ 12 % 2 ^ 5) (x / 2 ^ 7 % 2 ^ 5) (x % 2 ^ 7) g q).2, hMay (x / 2 ^ 21) (x / 2 ^ 17 % 2 ^ 4) (x / 2 ^ 12 % 2 ^ 5) (x / 2 ^ 7 % 2 ^ 5) (x % 2 ^ 7) g h) from (if_neg (by omega)).trans (if_neg (by omega))]; unfold gFar gRest; (first | rw [if_pos (by omega)] | rw [if_neg (by omega)]); unfold pW; (first | rw [if_pos (by omega)] | rw [if_neg (by omega)]); unfold hMay; first | rw [if_pos (by omega)] | rw [if_neg (by omega)])) dX3_come_163
                · skip
                  refine ek_il X 1 rfl dX3_come_136 ?_
                  refine ek_if_lt X 163 (by decide) dX3_come_138 (fun c_138 => ?_) (fun c_138 => ?_)
                  · skip
                    exact ek_retv X () ⟨rfl, trivial⟩ (by first | (exfalso; omega; done) | (show _ = wS ad e cI cJ cR (gComeP u (x / 2 ^ 21) (x / 2 ^ 17 % 2 ^ 4) (x / 2 ^ 12 % 2 ^ 5) (x / 2 ^ 7 % 2 ^ 5) (x % 2 ^ 7) g q h).1 (gComeP u (x / 2 ^ 21) (x / 2 ^ 17 % 2 ^ 4) (x / 2 ^ 12 % 2 ^ 5) (x / 2 ^ 7 % 2 ^ 5) (x % 2 ^ 7) g q h).2.1 u (gComeP u (x / 2 ^ 21) (x / 2 ^ 17 % 2 ^ 4) (x / 2 ^ 12 % 2 ^ 5) (x / 2 ^ 7 % 2 ^ 5) (x % 2 ^ 7) g q h).2.2; rw [show gComeP u (x / 2 ^ 21) (x / 2 ^ 17 % 2 ^ 4) (x / 2 ^ 12 % 2 ^ 5) (x / 2 ^ 7 % 2 ^ 5) (x % 2 ^ 7) g q h = ((gFar u (x / 2 ^ 21) (x / 2 ^ 17 % 2 ^ 4) (x / 2 ^ 12 % 2 ^ 5) (x / 2 ^ 7 % 2 ^ 5) (x % 2 ^ 7) g q).1, (gFar u (x / 2 ^ 21) (x / 2 ^ 17 % 2 ^ 4) (x / 2 ^ 12 % 2 ^ 5) (x / 2 ^ 7 % 2 ^ 5) (x % 2 ^ 7) g q).2, hMay (x / 2 ^ 21) (x / 2 ^ 17 % 2 ^ 4) (x / 2 ^ 12 % 2 ^ 5) (x / 2 ^ 7 % 2 ^ 5) (x % 2 ^ 7) g h) from (if_neg (by omega)).trans (if_neg (by omega))]; unfold gFar gRest; (first | rw [if_pos (by omega)] | rw [if_neg (by omega)]); unfold pW; (first | rw [if_pos (by omega)] | rw [if_neg (by omega)]); unfold hMay; first | rw [if_pos (by omega)] | rw [if_neg (by omega)])) dX3_come_163
                  · exact absurd (by decide) c_138
            · exact absurd (by decide) c_70
        · exact absurd (m1_lt (by omega)) c_59
      · refine ek_top (v' := nI 0) (congrArg nI (if_neg c_44)) ?_
        refine ek_Zeq X (by omega) 62 (by decide) dX3_come_47 (fun _ => ?_) (fun h => absurd h (by omega))
        exact ek_retv X () ⟨rfl, trivial⟩ (by first | (exfalso; omega; done) | (show _ = wS ad e cI cJ cR (gComeP u (x / 2 ^ 21) (x / 2 ^ 17 % 2 ^ 4) (x / 2 ^ 12 % 2 ^ 5) (x / 2 ^ 7 % 2 ^ 5) (x % 2 ^ 7) g q h).1 (gComeP u (x / 2 ^ 21) (x / 2 ^ 17 % 2 ^ 4) (x / 2 ^ 12 % 2 ^ 5) (x / 2 ^ 7 % 2 ^ 5) (x % 2 ^ 7) g q h).2.1 u (gComeP u (x / 2 ^ 21) (x / 2 ^ 17 % 2 ^ 4) (x / 2 ^ 12 % 2 ^ 5) (x / 2 ^ 7 % 2 ^ 5) (x % 2 ^ 7) g q h).2.2; rw [show gComeP u (x / 2 ^ 21) (x / 2 ^ 17 % 2 ^ 4) (x / 2 ^ 12 % 2 ^ 5) (x / 2 ^ 7 % 2 ^ 5) (x % 2 ^ 7) g q h = (g, q, h) from if_pos (by first | omega | exact Or.inr (Or.inl (Nat.not_lt.mp (fun h => c_44 ((hasC hC1 hC2 (by omega)).mpr h)))))])) dX3_come_62
  · refine ek_top (v' := nI (x / 2 ^ 7 % 2 ^ 5 - 1)) (pk_sub hb) ?_
    refine ek_is (lv' := [(6, .int (nI (x / 2 ^ 7 % 2 ^ 5 - 1))), (5, .int (nI (x / 2 ^ 12 % 2 ^ 5))), (4, .int (nI (x / 2 ^ 17 % 2 ^ 4))), (3, .int (nI (x / 2 ^ 21))), (0, .ref (ad 32)), (1, .int (nI x)), (2, .ref (ad e))]) X (by decide) rfl dX3_come_21 ?_
    refine ek_iln X 5 rfl dX3_come_23 ?_
    refine ek_doRi (ek_runS (As := [.int (nI x)]) (rest := []) X (c_X1_strengthOf l D cI cJ cR x (by omega)) gX3_come_X1_strengthOf rfl hd_X1_strengthOf ⟨Nat.le_of_ble_eq_true rfl, Nat.le_of_ble_eq_true rfl⟩ ⟨Nat.le_of_ble_eq_true rfl, Nat.le_of_ble_eq_true rfl⟩ [] rfl (by decide) (Nat.le_of_ble_eq_true rfl) dX3_come_24) (fun v_24 hv_24 => ?_)
    subst hv_24
    refine ek_is (lv' := [(7, .int (nI (x % 2 ^ 7))), (6, .int (nI (x / 2 ^ 7 % 2 ^ 5 - 1))), (5, .int (nI (x / 2 ^ 12 % 2 ^ 5))), (4, .int (nI (x / 2 ^ 17 % 2 ^ 4))), (3, .int (nI (x / 2 ^ 21))), (0, .ref (ad 32)), (1, .int (nI x)), (2, .ref (ad e))]) X (by decide) rfl dX3_come_27 ?_
    refine ek_il X 2 rfl dX3_come_29 ?_
    refine ek_aln X 5 rfl dX3_come_31 ?_
    refine ek_get X hin_X3_come_X3 0 rfl rfl 5 (by decide) (List.mem_of_getElem? (i := 1) rfl) rfl dX3_come_32 ?_
    refine ek_Nge X (by omega) (by omega) 62 (by decide) dX3_come_35 (fun c_35 => ?_) (fun c_35 => ?_)
    · skip
      exact ek_retv X () ⟨rfl, trivial⟩ (by first | (exfalso; omega; done) | (show _ = wS ad e cI cJ cR (gComeP u (x / 2 ^ 21) (x / 2 ^ 17 % 2 ^ 4) (x / 2 ^ 12 % 2 ^ 5) (x / 2 ^ 7 % 2 ^ 5) (x % 2 ^ 7) g q h).1 (gComeP u (x / 2 ^ 21) (x / 2 ^ 17 % 2 ^ 4) (x / 2 ^ 12 % 2 ^ 5) (x / 2 ^ 7 % 2 ^ 5) (x % 2 ^ 7) g q h).2.1 u (gComeP u (x / 2 ^ 21) (x / 2 ^ 17 % 2 ^ 4) (x / 2 ^ 12 % 2 ^ 5) (x / 2 ^ 7 % 2 ^ 5) (x % 2 ^ 7) g q h).2.2; rw [show gComeP u (x / 2 ^ 21) (x / 2 ^ 17 % 2 ^ 4) (x / 2 ^ 12 % 2 ^ 5) (x / 2 ^ 7 % 2 ^ 5) (x % 2 ^ 7) g q h = (g, q, h) from if_pos (by first | omega | exact Or.inr (Or.inl (Nat.not_lt.mp (fun h => c_44 ((hasC hC1 hC2 (by omega)).mpr h)))))])) dX3_come_62
    · skip
      refine ek_aln X 5 rfl dX3_come_38 ?_
      refine ek_get X hin_X3_come_X3 0 rfl rfl 0 (by decide) (List.mem_of_getElem? (i := 2) rfl) rfl dX3_come_39 ?_
      refine ek_il X 3 rfl dX3_come_42 ?_
      refine ek_doRi (ek_runV (As := [.int (nI (x / 2 ^ 17 % 2 ^ 4))]) (rest := []) X (c_X0_hasChamber l D cI cJ cR ad u hB (nI (x / 2 ^ 17 % 2 ^ 4))) gX3_come_X0_hasChamber rfl hdV_X0_hasChamber ⟨Nat.le_of_ble_eq_true rfl, Nat.le_of_ble_eq_true rfl⟩ ⟨Nat.le_of_ble_eq_true rfl, Nat.le_of_ble_eq_true rfl⟩ [6, 7, 8, 9, 10, 11, 12, 13, 14, 15, 16, 17, 18, 19, 20, 21, 22, 23, 24, 25, 26, 27, 28, 29, 30] rfl (by decide) 0 0 rfl rfl (Nat.le_of_ble_eq_true rfl) dX3_come_44) (fun v_44 hv_44 => ?_)
      subst hv_44
      by_cases c_44 : nI 0 ≤ (nI (x / 2 ^ 17 % 2 ^ 4)) ∧ (nI (x / 2 ^ 17 % 2 ^ 4)) ≤ nI (cC u - 1)
      · refine ek_top (v' := nI 1) (congrArg nI (if_pos c_44)) ?_
        refine ek_Zeq X (by omega) 62 (by decide) dX3_come_47 (fun h => absurd h (by omega)) (fun _ => ?_)
        have hcc : x / 2 ^ 17 % 2 ^ 4 < cC u := (hasC hC1 hC2 (by omega)).mp c_44
        refine ek_il X 1 rfl dX3_come_50 ?_
        refine ek_aln X 5 rfl dX3_come_52 ?_
        refine ek_get X hin_X3_come_X3 0 rfl rfl 0 (by decide) (List.mem_of_getElem? (i := 2) rfl) rfl dX3_come_53 ?_
        refine ek_getN X hin_X3_come_X0 6 rfl rfl 8 (by decide) (List.mem_of_getElem? (i := 9) rfl) rfl dX3_come_56 ?_
        refine ek_Nlt X (by omega) (by omega) 63 (by decide) dX3_come_59 (fun c_59 => ?_) (fun c_59 => ?_)
        · skip
          refine ek_il X 3 rfl dX3_come_63 ?_
          refine ek_Zne X (by omega) 94 (by decide) dX3_come_65 (fun c_65 => ?_) (fun c_65 => ?_)
          · skip
            refine ek_aln X 5 rfl dX3_come_94 ?_
            refine ek_get X hin_X3_come_X3 0 rfl rfl 0 (by decide) (List.mem_of_getElem? (i := 2) rfl) rfl dX3_come_95 ?_
            refine ek_il X 3 rfl dX3_come_98 ?_
            refine ek_il X 0 rfl dX3_come_100 ?_
            refine ek_doRi (ek_runV (As := [.int (nI (x / 2 ^ 17 % 2 ^ 4)), .int (nI (x % 2 ^ 7))]) (rest := []) X (c_X0_drowns l D cI cJ cR ad u hB (x / 2 ^ 17 % 2 ^ 4) (x % 2 ^ 7) (by omega) (by omega)) gX3_come_X0_drowns rfl hdV_X0_drowns ⟨Nat.le_of_ble_eq_true rfl, Nat.le_of_ble_eq_true rfl⟩ ⟨Nat.le_of_ble_eq_true rfl, Nat.le_of_ble_eq_true rfl⟩ [6, 7, 8, 9, 10, 11, 12, 13, 14, 15, 16, 17, 18, 19, 20, 21, 22, 23, 24, 25, 26, 27, 28, 29, 30] rfl (by decide) 0 0 rfl rfl (Nat.le_of_ble_eq_true rfl) dX3_come_102) (fun v_102 hv_102 => ?_)
            subst hv_102
            by_cases c_102 : (x % 2 ^ 7) < 2 * cBat u (x / 2 ^ 17 % 2 ^ 4) + 1
            · refine ek_top (v' := nI 1) (congrArg nI (if_pos c_102)) ?_
              refine ek_Zeq X (by omega) 109 (by decide) dX3_come_105 (fun h => absurd h (by omega)) (fun _ => ?_)
              exact ek_retv X () ⟨rfl, trivial⟩ (by first | (exfalso; omega; done) | (show _ = wS ad e cI cJ cR (gComeP u (x / 2 ^ 21) (x / 2 ^ 17 % 2 ^ 4) (x / 2 ^ 12 % 2 ^ 5) (x / 2 ^ 7 % 2 ^ 5) (x % 2 ^ 7) g q h).1 (gComeP u (x / 2 ^ 21) (x / 2 ^ 17 % 2 ^ 4) (x / 2 ^ 12 % 2 ^ 5) (x / 2 ^ 7 % 2 ^ 5) (x % 2 ^ 7) g q h).2.1 u (gComeP u (x / 2 ^ 21) (x / 2 ^ 17 % 2 ^ 4) (x / 2 ^ 12 % 2 ^ 5) (x / 2 ^ 7 % 2 ^ 5) (x % 2 ^ 7) g q h).2.2; rw [show gComeP u (x / 2 ^ 21) (x / 2 ^ 17 % 2 ^ 4) (x / 2 ^ 12 % 2 ^ 5) (x / 2 ^ 7 % 2 ^ 5) (x % 2 ^ 7) g q h = (g, q, hMay (x / 2 ^ 21) (x / 2 ^ 17 % 2 ^ 4) (x / 2 ^ 12 % 2 ^ 5) (x / 2 ^ 7 % 2 ^ 5) (x % 2 ^ 7) g h) from (if_neg (by omega)).trans (if_pos (by omega))]; unfold hMay; first | rw [if_pos (by omega)] | rw [if_neg (by omega)])) dX3_come_108
            · refine ek_top (v' := nI 0) (congrArg nI (if_neg c_102)) ?_
              refine ek_Zeq X (by omega) 109 (by decide) dX3_come_105 (fun _ => ?_) (fun h => absurd h (by omega))
              refine ek_aln X 5 rfl dX3_come_109 ?_
              refine ek_il X 3 rfl dX3_come_110 ?_
              refine ek_il X 2 rfl dX3_come_112 ?_
              refine ek_iln X 4 rfl dX3_come_114 ?_
              refine ek_doWv X (ek_runV (As := [.int (nI (x / 2 ^ 17 % 2 ^ 4)), .int (nI (x / 2 ^ 12 % 2 ^ 5)), .int (nI (x / 2 ^ 21))]) (rest := []) X (c_X3_setOffClapper l D cI cJ cR ad e u h g q hB hI (x / 2 ^ 17 % 2 ^ 4) (x / 2 ^ 12 % 2 ^ 5) (x / 2 ^ 21) (by omega) (by omega) (by omega)) gX3_come_X3_setOffClapper rfl hdV_X3_setOffClapper ⟨Nat.le_of_ble_eq_true rfl, Nat.le_of_ble_eq_true rfl⟩ ⟨Nat.le_of_ble_eq_true rfl, Nat.le_of_ble_eq_true rfl⟩ [0, 1, 2, 3, 4, 5, 6, 7, 8, 9, 10, 11, 12, 13, 14, 15, 16, 17, 18, 19, 20, 21, 22, 23, 24, 25, 26, 27, 28, 29, 30, 31, 32, 33] rfl (by decide) 0 3 rfl rfl (Nat.le_of_ble_eq_true rfl) dX3_come_115) [0, 1, 2, 3, 4, 5, 6, 7, 8, 9, 10, 11, 12, 13, 14, 15, 16, 17, 18, 19, 20, 21, 22, 23, 24, 25, 26, 27, 28, 29, 30, 31, 32, 33] [] rfl rfl (by decide) (by decide) (fun _ => wS ad e cI cJ cR (gClap u (x / 2 ^ 17 % 2 ^ 4) (x / 2 ^ 12 % 2 ^ 5) (x / 2 ^ 21) g q).1 (gClap u (x / 2 ^ 17 % 2 ^ 4) (x / 2 ^ 12 % 2 ^ 5) (x / 2 ^ 21) g q).2 u h) [0, 1, 2, 3, 4, 5, 6, 7, 8, 9, 10, 11, 12, 13, 14, 15, 16, 17, 18, 19, 20, 21, 22, 23, 24, 25, 26, 27, 28, 29, 30, 31, 32, 33] (by decide) (fun _ => rfl) (fun u_115 hv_115 => ?_)
              have hI1 := gClap_ok (u := u) hI (c := x / 2 ^ 17 % 2 ^ 4) (r := x / 2 ^ 12 % 2 ^ 5) (t := x / 2 ^ 21) (by omega)
              refine ek_aln X 5 rfl dX3_come_118 ?_
              refine ek_il X 3 rfl dX3_come_119 ?_
              refine ek_il X 2 rfl dX3_come_121 ?_
              refine ek_il X 1 rfl dX3_come_123 ?_
              refine ek_iln X 4 rfl dX3_come_125 ?_
              refine ek_il X 0 rfl dX3_come_126 ?_
              refine ek_doWv X (ek_runV (As := [.int (nI (x / 2 ^ 17 % 2 ^ 4)), .int (nI (x / 2 ^ 12 % 2 ^ 5)), .int (nI (x / 2 ^ 7 % 2 ^ 5 - 1)), .int (nI (x / 2 ^ 21)), .int (nI (x % 2 ^ 7))]) (rest := []) X (c_X3_goOn l D cI cJ cR ad e u h ((gClap u (x / 2 ^ 17 % 2 ^ 4) (x / 2 ^ 12 % 2 ^ 5) (x / 2 ^ 21) g q).1) ((gClap u (x / 2 ^ 17 % 2 ^ 4) (x / 2 ^ 12 % 2 ^ 5) (x / 2 ^ 21) g q).2) hB hI1.1 (x / 2 ^ 17 % 2 ^ 4) (x / 2 ^ 12 % 2 ^ 5) (nI (x / 2 ^ 7 % 2 ^ 5 - 1)) (x / 2 ^ 21) (x % 2 ^ 7) (by omega) (by omega) (by omega) (by omega)) gX3_come_X3_goOn rfl hdV_X3_goOn ⟨Nat.le_of_ble_eq_true rfl, Nat.le_of_ble_eq_true rfl⟩ ⟨Nat.le_of_ble_eq_true rfl, Nat.le_of_ble_eq_true rfl⟩ [0, 1, 2, 3, 4, 5, 6, 7, 8, 9, 10, 11, 12, 13, 14, 15, 16, 17, 18, 19, 20, 21, 22, 23, 24, 25, 26, 27, 28, 29, 30, 31, 32, 33] rfl (by decide) 0 3 rfl rfl (Nat.le_of_ble_eq_true rfl) dX3_come_128) [0, 1, 2, 3, 4, 5, 6, 7, 8, 9, 10, 11, 12, 13, 14, 15, 16, 17, 18, 19, 20, 21, 22, 23, 24, 25, 26, 27, 28, 29, 30, 31, 32, 33] [] rfl rfl (by decide) (by decide) (fun _ => wS ad e cI cJ cR (gOn u (x / 2 ^ 17 % 2 ^ 4) (x / 2 ^ 12 % 2 ^ 5) (nI (x / 2 ^ 7 % 2 ^ 5 - 1)) (x / 2 ^ 21) (x % 2 ^ 7) ((gClap u (x / 2 ^ 17 % 2 ^ 4) (x / 2 ^ 12 % 2 ^ 5) (x / 2 ^ 21) g q).1) ((gClap u (x / 2 ^ 17 % 2 ^ 4) (x / 2 ^ 12 % 2 ^ 5) (x / 2 ^ 21) g q).2) (cDrs u (x / 2 ^ 17 % 2 ^ 4))).1 (gOn u (x / 2 ^ 17 % 2 ^ 4) (x / 2 ^ 12 % 2 ^ 5) (nI (x / 2 ^ 7 % 2 ^ 5 - 1)) (x / 2 ^ 21) (x % 2 ^ 7) ((gClap u (x / 2 ^ 17 % 2 ^ 4) (x / 2 ^ 12 % 2 ^ 5) (x / 2 ^ 21) g q).1) ((gClap u (x / 2 ^ 17 % 2 ^ 4) (x / 2 ^ 12 % 2 ^ 5) (x / 2 ^ 21) g q).2) (cDrs u (x / 2 ^ 17 % 2 ^ 4))).2 u h) [0, 1, 2, 3, 4, 5, 6, 7, 8, 9, 10, 11, 12, 13, 14, 15, 16, 17, 18, 19, 20, 21, 22, 23, 24, 25, 26, 27, 28, 29, 30, 31, 32, 33] (by decide) (fun _ => rfl) (fun u_128 hv_128 => ?_)
              have hI2 := gOn_ok hB hI1.1 (c := x / 2 ^ 17 % 2 ^ 4) (r := x / 2 ^ 12 % 2 ^ 5) (t := x / 2 ^ 21) (z := x % 2 ^ 7) (w := nI (x / 2 ^ 7 % 2 ^ 5 - 1)) (by omega) (by omega) (cDrs u (x / 2 ^ 17 % 2 ^ 4))
              refine ek_il X 3 rfl dX3_come_131 ?_
              refine ek_Zeq X (by omega) 163 (by decide) dX3_come_133 (fun c_133 => ?_) (fun c_133 => ?_)
              · skip
                exact ek_retv X () ⟨rfl, trivial⟩ (by first | (exfalso; omega; done) | (show _ = wS ad e cI cJ cR (gComeP u (x / 2 ^ 21) (x / 2 ^ 17 % 2 ^ 4) (x / 2 ^ 12 % 2 ^ 5) (x / 2 ^ 7 % 2 ^ 5) (x % 2 ^ 7) g q h).1 (gComeP u (x / 2 ^ 21) (x / 2 ^ 17 % 2 ^ 4) (x / 2 ^ 12 % 2 ^ 5) (x / 2 ^ 7 % 2 ^ 5) (x % 2 ^ 7) g q h).2.1 u (gComeP u (x / 2 ^ 21) (x / 2 ^ 17 % 2 ^ 4) (x / 2 ^ 12 % 2 ^ 5) (x / 2 ^ 7 % 2 ^ 5) (x % 2 ^ 7) g q h).2.2; rw [show gComeP u (x / 2 ^ 21) (x / 2 ^ 17 % 2 ^ 4) (x / 2 ^ 12 % 2 ^ 5) (x / 2 ^ 7 % 2 ^ 5) (x % 2 ^ 7) g q h = ((gFar u (x / 2 ^ 21) (x / 2 ^ 17 % 2 ^ 4) (x / 2 ^ 12 % 2 ^ 5) (x / 2 ^ 7 % 2 ^ 5) (x % 2 ^ 7) g q).1, (gFar u (x / 2 ^ 21) (x / 2 ^ 17 % 2 ^ 4) (x / 2 ^ 12 % 2 ^ 5) (x / 2 ^ 7 % 2 ^ 5) (x % 2 ^ 7) g q).2, hMay (x / 2 ^ 21) (x / 2 ^ 17 % 2 ^ 4) (x / 2 ^ 12 % 2 ^ 5) (x / 2 ^ 7 % 2 ^ 5) (x % 2 ^ 7) g h) from (if_neg (by omega)).trans (if_neg (by omega))]; unfold gFar gRest; (first | rw [if_pos (by omega)] | rw [if_neg (by omega)]); unfold pW; (first | rw [if_pos (by omega)] | rw [if_neg (by omega)]); unfold hMay; first | rw [if_pos (by omega)] | rw [if_neg (by omega)])) dX3_come_163
              · skip
                refine ek_il X 1 rfl dX3_come_136 ?_
                refine ek_Zlt X (by omega) 163 (by decide) dX3_come_138 (fun c_138 => ?_) (fun c_138 => ?_)
                · exact c_138.elim
                · skip
                  refine ek_aln X 5 rfl dX3_come_141 ?_
                  refine ek_il X 1 rfl dX3_come_142 ?_
                  refine ek_il X 3 rfl dX3_come_144 ?_
                  refine ek_il X 2 rfl dX3_come_146 ?_
                  refine ek_iln X 4 rfl dX3_come_148 ?_
                  refine ek_aln X 5 rfl dX3_come_149 ?_
                  refine ek_get X hin_X3_come_X3 0 rfl rfl 0 (by decide) (List.mem_of_getElem? (i := 2) rfl) rfl dX3_come_150 ?_
                  refine ek_il X 3 rfl dX3_come_153 ?_
                  refine ek_il X 0 rfl dX3_come_155 ?_
                  refine ek_doRi (ek_runV (As := [.int (nI (x / 2 ^ 17 % 2 ^ 4)), .int (nI (x % 2 ^ 7))]) (rest := [.int (nI (x / 2 ^ 21)), .int (nI (x / 2 ^ 12 % 2 ^ 5)), .int (nI (x / 2 ^ 17 % 2 ^ 4)), .int (nI (x / 2 ^ 7 % 2 ^ 5 - 1)), .ref (ad 32)]) X (c_X0_strengthFromWall l D cI cJ cR ad u hB (x / 2 ^ 17 % 2 ^ 4) (x % 2 ^ 7) (by omega) (by omega)) gX3_come_X0_strengthFromWall rfl hdV_X0_strengthFromWall ⟨Nat.le_of_ble_eq_true rfl, Nat.le_of_ble_eq_true rfl⟩ ⟨Nat.le_of_ble_eq_true rfl, Nat.le_of_ble_eq_true rfl⟩ [6, 7, 8, 9, 10, 11, 12, 13, 14, 15, 16, 17, 18, 19, 20, 21, 22, 23, 24, 25, 26, 27, 28, 29, 30] rfl (by decide) 0 0 rfl rfl (Nat.le_of_ble_eq_true rfl) dX3_come_157) (fun v_157 hv_157 => ?_)
                  subst hv_157
                  refine ek_doWv X (ek_runV (As := [.int (nI (x / 2 ^ 7 % 2 ^ 5 - 1)), .int (nI (x / 2 ^ 17 % 2 ^ 4)), .int (nI (x / 2 ^ 12 % 2 ^ 5)), .int (nI (x / 2 ^ 21)), .int (nI ((x % 2 ^ 7) * cWal u (x / 2 ^ 17 % 2 ^ 4) / 100))]) (rest := []) X (c_X3_goInto l D cI cJ cR ad e u h ((gOn u (x / 2 ^ 17 % 2 ^ 4) (x / 2 ^ 12 % 2 ^ 5) (nI (x / 2 ^ 7 % 2 ^ 5 - 1)) (x / 2 ^ 21) (x % 2 ^ 7) ((gClap u (x / 2 ^ 17 % 2 ^ 4) (x / 2 ^ 12 % 2 ^ 5) (x / 2 ^ 21) g q).1) ((gClap u (x / 2 ^ 17 % 2 ^ 4) (x / 2 ^ 12 % 2 ^ 5) (x / 2 ^ 21) g q).2) (cDrs u (x / 2 ^ 17 % 2 ^ 4))).1) ((gOn u (x / 2 ^ 17 % 2 ^ 4) (x / 2 ^ 12 % 2 ^ 5) (nI (x / 2 ^ 7 % 2 ^ 5 - 1)) (x / 2 ^ 21) (x % 2 ^ 7) ((gClap u (x / 2 ^ 17 % 2 ^ 4) (x / 2 ^ 12 % 2 ^ 5) (x / 2 ^ 21) g q).1) ((gClap u (x / 2 ^ 17 % 2 ^ 4) (x / 2 ^ 12 % 2 ^ 5) (x / 2 ^ 21) g q).2) (cDrs u (x / 2 ^ 17 % 2 ^ 4))).2) hB hI2.1 (x / 2 ^ 7 % 2 ^ 5 - 1) (x / 2 ^ 17 % 2 ^ 4) (x / 2 ^ 12 % 2 ^ 5) (x / 2 ^ 21) ((x % 2 ^ 7) * cWal u (x / 2 ^ 17 % 2 ^ 4) / 100) (by omega) (by omega) (by omega) (by omega) (by have := Nat.mul_le_mul (show x % 2 ^ 7 ≤ 127 by omega) (bWal (x / 2 ^ 17 % 2 ^ 4)); omega)) gX3_come_X3_goInto rfl hdV_X3_goInto ⟨Nat.le_of_ble_eq_true rfl, Nat.le_of_ble_eq_true rfl⟩ ⟨Nat.le_of_ble_eq_true rfl, Nat.le_of_ble_eq_true rfl⟩ [0, 1, 2, 3, 4, 5, 6, 7, 8, 9, 10, 11, 12, 13, 14, 15, 16, 17, 18, 19, 20, 21, 22, 23, 24, 25, 26, 27, 28, 29, 30, 31, 32, 33] rfl (by decide) 0 3 rfl rfl (Nat.le_of_ble_eq_true rfl) dX3_come_160) [0, 1, 2, 3, 4, 5, 6, 7, 8, 9, 10, 11, 12, 13, 14, 15, 16, 17, 18, 19, 20, 21, 22, 23, 24, 25, 26, 27, 28, 29, 30, 31, 32, 33] [] rfl rfl (by decide) (by decide) (fun _ => wS ad e cI cJ cR (gGo u (x / 2 ^ 7 % 2 ^ 5 - 1) (x / 2 ^ 17 % 2 ^ 4) (x / 2 ^ 12 % 2 ^ 5) (x / 2 ^ 21) ((x % 2 ^ 7) * cWal u (x / 2 ^ 17 % 2 ^ 4) / 100) ((gOn u (x / 2 ^ 17 % 2 ^ 4) (x / 2 ^ 12 % 2 ^ 5) (nI (x / 2 ^ 7 % 2 ^ 5 - 1)) (x / 2 ^ 21) (x % 2 ^ 7) ((gClap u (x / 2 ^ 17 % 2 ^ 4) (x / 2 ^ 12 % 2 ^ 5) (x / 2 ^ 21) g q).1) ((gClap u (x / 2 ^ 17 % 2 ^ 4) (x / 2 ^ 12 % 2 ^ 5) (x / 2 ^ 21) g q).2) (cDrs u (x / 2 ^ 17 % 2 ^ 4))).1) ((gOn u (x / 2 ^ 17 % 2 ^ 4) (x / 2 ^ 12 % 2 ^ 5) (nI (x / 2 ^ 7 % 2 ^ 5 - 1)) (x / 2 ^ 21) (x % 2 ^ 7) ((gClap u (x / 2 ^ 17 % 2 ^ 4) (x / 2 ^ 12 % 2 ^ 5) (x / 2 ^ 21) g q).1) ((gClap u (x / 2 ^ 17 % 2 ^ 4) (x / 2 ^ 12 % 2 ^ 5) (x / 2 ^ 21) g q).2) (cDrs u (x / 2 ^ 17 % 2 ^ 4))).2)).1 (gGo u (x / 2 ^ 7 % 2 ^ 5 - 1) (x / 2 ^ 17 % 2 ^ 4) (x / 2 ^ 12 % 2 ^ 5) (x / 2 ^ 21) ((x % 2 ^ 7) * cWal u (x / 2 ^ 17 % 2 ^ 4) / 100) ((gOn u (x / 2 ^ 17 % 2 ^ 4) (x / 2 ^ 12 % 2 ^ 5) (nI (x / 2 ^ 7 % 2 ^ 5 - 1)) (x / 2 ^ 21) (x % 2 ^ 7) ((gClap u (x / 2 ^ 17 % 2 ^ 4) (x / 2 ^ 12 % 2 ^ 5) (x / 2 ^ 21) g q).1) ((gClap u (x / 2 ^ 17 % 2 ^ 4) (x / 2 ^ 12 % 2 ^ 5) (x / 2 ^ 21) g q).2) (cDrs u (x / 2 ^ 17 % 2 ^ 4))).1) ((gOn u (x / 2 ^ 17 % 2 ^ 4) (x / 2 ^ 12 % 2 ^ 5) (nI (x / 2 ^ 7 % 2 ^ 5 - 1)) (x / 2 ^ 21) (x % 2 ^ 7) ((gClap u (x / 2 ^ 17 % 2 ^ 4) (x / 2 ^ 12 % 2 ^ 5) (x / 2 ^ 21) g q).1) ((gClap u (x / 2 ^ 17 % 2 ^ 4) (x / 2 ^ 12 % 2 ^ 5) (x / 2 ^ 21) g q).2) (cDrs u (x / 2 ^ 17 % 2 ^ 4))).2)).2 u h) [0, 1, 2, 3, 4, 5, 6, 7, 8, 9, 10, 11, 12, 13, 14, 15, 16, 17, 18, 19, 20, 21, 22, 23, 24, 25, 26, 27, 28, 29, 30, 31, 32, 33] (by decide) (fun _ => rfl) (fun u_160 hv_160 => ?_)
                  exact ek_retv X () ⟨rfl, trivial⟩ (by first | (exfalso; omega; done) | (show _ = wS ad e cI cJ cR (gComeP u (x / 2 ^ 21) (x / 2 ^ 17 % 2 ^ 4) (x / 2 ^ 12 % 2 ^ 5) (x / 2 ^ 7 % 2 ^ 5) (x % 2 ^ 7) g q h).1 (gComeP u (x / 2 ^ 21) (x / 2 ^ 17 % 2 ^ 4) (x / 2 ^ 12 % 2 ^ 5) (x / 2 ^ 7 % 2 ^ 5) (x % 2 ^ 7) g q h).2.1 u (gComeP u (x / 2 ^ 21) (x / 2 ^ 17 % 2 ^ 4) (x / 2 ^ 12 % 2 ^ 5) (x / 2 ^ 7 % 2 ^ 5) (x % 2 ^ 7) g q h).2.2; rw [show gComeP u (x / 2 ^ 21) (x / 2 ^ 17 % 2 ^ 4) (x / 2 ^ 12 % 2 ^ 5) (x / 2 ^ 7 % 2 ^ 5) (x % 2 ^ 7) g q h = ((gFar u (x / 2 ^ 21) (x / 2 ^ 17 % 2 ^ 4) (x / 2 ^ 12 % 2 ^ 5) (x / 2 ^ 7 % 2 ^ 5) (x % 2 ^ 7) g q).1, (gFar u (x / 2 ^ 21) (x / 2 ^ 17 % 2 ^ 4) (x / 2 ^ 12 % 2 ^ 5) (x / 2 ^ 7 % 2 ^ 5) (x % 2 ^ 7) g q).2, hMay (x / 2 ^ 21) (x / 2 ^ 17 % 2 ^ 4) (x / 2 ^ 12 % 2 ^ 5) (x / 2 ^ 7 % 2 ^ 5) (x % 2 ^ 7) g h) from (if_neg (by omega)).trans (if_neg (by omega))]; unfold gFar gRest; (first | rw [if_pos (by omega)] | rw [if_neg (by omega)]); unfold pW; (first | rw [if_pos (by omega)] | rw [if_neg (by omega)]); unfold hMay; first | rw [if_pos (by omega)] | rw [if_neg (by omega)])) dX3_come_163
          · skip
            refine ek_il X 1 rfl dX3_come_68 ?_
            refine ek_Zlt X (by omega) 94 (by decide) dX3_come_70 (fun c_70 => ?_) (fun c_70 => ?_)
            · exact c_70.elim
            · skip
              refine ek_aln X 7 rfl dX3_come_73 ?_
              refine ek_iln X 4 rfl dX3_come_74 ?_
              refine ek_aln X 5 rfl dX3_come_75 ?_
              refine ek_get X hin_X3_come_X3 0 rfl rfl 3 (by decide) (List.mem_of_getElem? (i := 3) rfl) rfl dX3_come_76 ?_
              refine ek_il X 2 rfl dX3_come_79 ?_
              refine ek_ald X 2 0 rfl rfl (by omega) (by omega) dX3_come_81 ?_
              refine ek_aln X 5 rfl dX3_come_82 ?_
              refine ek_get X hin_X3_come_X3 0 rfl rfl 2 (by decide) (List.mem_of_getElem? (i := 4) rfl) rfl dX3_come_83 ?_
              refine ek_il X 2 rfl dX3_come_86 ?_
              refine ek_ald X 1 0 rfl rfl (by omega) (by omega) dX3_come_88 ?_
              have b1_88 := bSyl (x / 2 ^ 12 % 2 ^ 5)
              refine ek_il X 0 rfl dX3_come_89 ?_
              refine ek_doWv X (ek_runV (As := [.int (nI (x / 2 ^ 21)), .int (nI ((sPl g) (x / 2 ^ 12 % 2 ^ 5))), .int (nI ((sSy g) (x / 2 ^ 12 % 2 ^ 5))), .int (nI (x % 2 ^ 7))]) (rest := []) X (c_X2_hear l D cI cJ cR ad e h (x / 2 ^ 21) ((sPl g) (x / 2 ^ 12 % 2 ^ 5)) ((sSy g) (x / 2 ^ 12 % 2 ^ 5)) (x % 2 ^ 7) hH (hpl _) (by omega)) gX3_come_X2_hear rfl hdV_X2_hear ⟨Nat.le_of_ble_eq_true rfl, Nat.le_of_ble_eq_true rfl⟩ ⟨Nat.le_of_ble_eq_true rfl, Nat.le_of_ble_eq_true rfl⟩ [31, 32, 33] rfl (by decide) 0 2 rfl rfl (Nat.le_of_ble_eq_true rfl) dX3_come_91) [31, 32, 33] [0, 1, 2, 3, 4, 5, 6, 7, 8, 9, 10, 11, 12, 13, 14, 15, 16, 17, 18, 19, 20, 21, 22, 23, 24, 25, 26, 27, 28, 29, 30] rfl rfl (by decide) (by decide) (fun _ => wS ad e cI cJ cR g q u (hHear h (x / 2 ^ 21) ((sPl g) (x / 2 ^ 12 % 2 ^ 5)) ((sSy g) (x / 2 ^ 12 % 2 ^ 5)) (x % 2 ^ 7))) [0, 1, 2, 3, 4, 5, 6, 7, 8, 9, 10, 11, 12, 13, 14, 15, 16, 17, 18, 19, 20, 21, 22, 23, 24, 25, 26, 27, 28, 29, 30, 31, 32, 33] (by decide) (fun _ => rfl) (fun u_91 hv_91 => ?_)
              refine ek_aln X 5 rfl dX3_come_94 ?_
              refine ek_get X hin_X3_come_X3 0 rfl rfl 0 (by decide) (List.mem_of_getElem? (i := 2) rfl) rfl dX3_come_95 ?_
              refine ek_il X 3 rfl dX3_come_98 ?_
              refine ek_il X 0 rfl dX3_come_100 ?_
              refine ek_doRi (ek_runV (As := [.int (nI (x / 2 ^ 17 % 2 ^ 4)), .int (nI (x % 2 ^ 7))]) (rest := []) X (c_X0_drowns l D cI cJ cR ad u hB (x / 2 ^ 17 % 2 ^ 4) (x % 2 ^ 7) (by omega) (by omega)) gX3_come_X0_drowns rfl hdV_X0_drowns ⟨Nat.le_of_ble_eq_true rfl, Nat.le_of_ble_eq_true rfl⟩ ⟨Nat.le_of_ble_eq_true rfl, Nat.le_of_ble_eq_true rfl⟩ [6, 7, 8, 9, 10, 11, 12, 13, 14, 15, 16, 17, 18, 19, 20, 21, 22, 23, 24, 25, 26, 27, 28, 29, 30] rfl (by decide) 0 0 rfl rfl (Nat.le_of_ble_eq_true rfl) dX3_come_102) (fun v_102 hv_102 => ?_)
              subst hv_102
              by_cases c_102 : (x % 2 ^ 7) < 2 * cBat u (x / 2 ^ 17 % 2 ^ 4) + 1
              · refine ek_top (v' := nI 1) (congrArg nI (if_pos c_102)) ?_
                refine ek_Zeq X (by omega) 109 (by decide) dX3_come_105 (fun h => absurd h (by omega)) (fun _ => ?_)
                exact ek_retv X () ⟨rfl, trivial⟩ (by first | (exfalso; omega; done) | (show _ = wS ad e cI cJ cR (gComeP u (x / 2 ^ 21) (x / 2 ^ 17 % 2 ^ 4) (x / 2 ^ 12 % 2 ^ 5) (x / 2 ^ 7 % 2 ^ 5) (x % 2 ^ 7) g q h).1 (gComeP u (x / 2 ^ 21) (x / 2 ^ 17 % 2 ^ 4) (x / 2 ^ 12 % 2 ^ 5) (x / 2 ^ 7 % 2 ^ 5) (x % 2 ^ 7) g q h).2.1 u (gComeP u (x / 2 ^ 21) (x / 2 ^ 17 % 2 ^ 4) (x / 2 ^ 12 % 2 ^ 5) (x / 2 ^ 7 % 2 ^ 5) (x % 2 ^ 7) g q h).2.2; rw [show gComeP u (x / 2 ^ 21) (x / 2 ^ 17 % 2 ^ 4) (x / 2 ^ 12 % 2 ^ 5) (x / 2 ^ 7 % 2 ^ 5) (x % 2 ^ 7) g q h = (g, q, hMay (x / 2 ^ 21) (x / 2 ^ 17 % 2 ^ 4) (x / 2 ^ 12 % 2 ^ 5) (x / 2 ^ 7 % 2 ^ 5) (x % 2 ^ 7) g h) from (if_neg (by omega)).trans (if_pos (by omega))]; unfold hMay; first | rw [if_pos (by omega)] | rw [if_neg (by omega)])) dX3_come_108
              · refine ek_top (v' := nI 0) (congrArg nI (if_neg c_102)) ?_
                refine ek_Zeq X (by omega) 109 (by decide) dX3_come_105 (fun _ => ?_) (fun h => absurd h (by omega))
                refine ek_aln X 5 rfl dX3_come_109 ?_
                refine ek_il X 3 rfl dX3_come_110 ?_
                refine ek_il X 2 rfl dX3_come_112 ?_
                refine ek_iln X 4 rfl dX3_come_114 ?_
                refine ek_doWv X (ek_runV (As := [.int (nI (x / 2 ^ 17 % 2 ^ 4)), .int (nI (x / 2 ^ 12 % 2 ^ 5)), .int (nI (x / 2 ^ 21))]) (rest := []) X (c_X3_setOffClapper l D cI cJ cR ad e u ((hHear h (x / 2 ^ 21) ((sPl g) (x / 2 ^ 12 % 2 ^ 5)) ((sSy g) (x / 2 ^ 12 % 2 ^ 5)) (x % 2 ^ 7))) g q hB hI (x / 2 ^ 17 % 2 ^ 4) (x / 2 ^ 12 % 2 ^ 5) (x / 2 ^ 21) (by omega) (by omega) (by omega)) gX3_come_X3_setOffClapper rfl hdV_X3_setOffClapper ⟨Nat.le_of_ble_eq_true rfl, Nat.le_of_ble_eq_true rfl⟩ ⟨Nat.le_of_ble_eq_true rfl, Nat.le_of_ble_eq_true rfl⟩ [0, 1, 2, 3, 4, 5, 6, 7, 8, 9, 10, 11, 12, 13, 14, 15, 16, 17, 18, 19, 20, 21, 22, 23, 24, 25, 26, 27, 28, 29, 30, 31, 32, 33] rfl (by decide) 0 3 rfl rfl (Nat.le_of_ble_eq_true rfl) dX3_come_115) [0, 1, 2, 3, 4, 5, 6, 7, 8, 9, 10, 11, 12, 13, 14, 15, 16, 17, 18, 19, 20, 21, 22, 23, 24, 25, 26, 27, 28, 29, 30, 31, 32, 33] [] rfl rfl (by decide) (by decide) (fun _ => wS ad e cI cJ cR (gClap u (x / 2 ^ 17 % 2 ^ 4) (x / 2 ^ 12 % 2 ^ 5) (x / 2 ^ 21) g q).1 (gClap u (x / 2 ^ 17 % 2 ^ 4) (x / 2 ^ 12 % 2 ^ 5) (x / 2 ^ 21) g q).2 u (hHear h (x / 2 ^ 21) ((sPl g) (x / 2 ^ 12 % 2 ^ 5)) ((sSy g) (x / 2 ^ 12 % 2 ^ 5)) (x % 2 ^ 7))) [0, 1, 2, 3, 4, 5, 6, 7, 8, 9, 10, 11, 12, 13, 14, 15, 16, 17, 18, 19, 20, 21, 22, 23, 24, 25, 26, 27, 28, 29, 30, 31, 32, 33] (by decide) (fun _ => rfl) (fun u_115 hv_115 => ?_)
                have hI1 := gClap_ok (u := u) hI (c := x / 2 ^ 17 % 2 ^ 4) (r := x / 2 ^ 12 % 2 ^ 5) (t := x / 2 ^ 21) (by omega)
                refine ek_aln X 5 rfl dX3_come_118 ?_
                refine ek_il X 3 rfl dX3_come_119 ?_
                refine ek_il X 2 rfl dX3_come_121 ?_
                refine ek_il X 1 rfl dX3_come_123 ?_
                refine ek_iln X 4 rfl dX3_come_125 ?_
                refine ek_il X 0 rfl dX3_come_126 ?_
                refine ek_doWv X (ek_runV (As := [.int (nI (x / 2 ^ 17 % 2 ^ 4)), .int (nI (x / 2 ^ 12 % 2 ^ 5)), .int (nI (x / 2 ^ 7 % 2 ^ 5 - 1)), .int (nI (x / 2 ^ 21)), .int (nI (x % 2 ^ 7))]) (rest := []) X (c_X3_goOn l D cI cJ cR ad e u ((hHear h (x / 2 ^ 21) ((sPl g) (x / 2 ^ 12 % 2 ^ 5)) ((sSy g) (x / 2 ^ 12 % 2 ^ 5)) (x % 2 ^ 7))) ((gClap u (x / 2 ^ 17 % 2 ^ 4) (x / 2 ^ 12 % 2 ^ 5) (x / 2 ^ 21) g q).1) ((gClap u (x / 2 ^ 17 % 2 ^ 4) (x / 2 ^ 12 % 2 ^ 5) (x / 2 ^ 21) g q).2) hB hI1.1 (x / 2 ^ 17 % 2 ^ 4) (x / 2 ^ 12 % 2 ^ 5) (nI (x / 2 ^ 7 % 2 ^ 5 - 1)) (x / 2 ^ 21) (x % 2 ^ 7) (by omega) (by omega) (by omega) (by omega)) gX3_come_X3_goOn rfl hdV_X3_goOn ⟨Nat.le_of_ble_eq_true rfl, Nat.le_of_ble_eq_true rfl⟩ ⟨Nat.le_of_ble_eq_true rfl, Nat.le_of_ble_eq_true rfl⟩ [0, 1, 2, 3, 4, 5, 6, 7, 8, 9, 10, 11, 12, 13, 14, 15, 16, 17, 18, 19, 20, 21, 22, 23, 24, 25, 26, 27, 28, 29, 30, 31, 32, 33] rfl (by decide) 0 3 rfl rfl (Nat.le_of_ble_eq_true rfl) dX3_come_128) [0, 1, 2, 3, 4, 5, 6, 7, 8, 9, 10, 11, 12, 13, 14, 15, 16, 17, 18, 19, 20, 21, 22, 23, 24, 25, 26, 27, 28, 29, 30, 31, 32, 33] [] rfl rfl (by decide) (by decide) (fun _ => wS ad e cI cJ cR (gOn u (x / 2 ^ 17 % 2 ^ 4) (x / 2 ^ 12 % 2 ^ 5) (nI (x / 2 ^ 7 % 2 ^ 5 - 1)) (x / 2 ^ 21) (x % 2 ^ 7) ((gClap u (x / 2 ^ 17 % 2 ^ 4) (x / 2 ^ 12 % 2 ^ 5) (x / 2 ^ 21) g q).1) ((gClap u (x / 2 ^ 17 % 2 ^ 4) (x / 2 ^ 12 % 2 ^ 5) (x / 2 ^ 21) g q).2) (cDrs u (x / 2 ^ 17 % 2 ^ 4))).1 (gOn u (x / 2 ^ 17 % 2 ^ 4) (x / 2 ^ 12 % 2 ^ 5) (nI (x / 2 ^ 7 % 2 ^ 5 - 1)) (x / 2 ^ 21) (x % 2 ^ 7) ((gClap u (x / 2 ^ 17 % 2 ^ 4) (x / 2 ^ 12 % 2 ^ 5) (x / 2 ^ 21) g q).1) ((gClap u (x / 2 ^ 17 % 2 ^ 4) (x / 2 ^ 12 % 2 ^ 5) (x / 2 ^ 21) g q).2) (cDrs u (x / 2 ^ 17 % 2 ^ 4))).2 u (hHear h (x / 2 ^ 21) ((sPl g) (x / 2 ^ 12 % 2 ^ 5)) ((sSy g) (x / 2 ^ 12 % 2 ^ 5)) (x % 2 ^ 7))) [0, 1, 2, 3, 4, 5, 6, 7, 8, 9, 10, 11, 12, 13, 14, 15, 16, 17, 18, 19, 20, 21, 22, 23, 24, 25, 26, 27, 28, 29, 30, 31, 32, 33] (by decide) (fun _ => rfl) (fun u_128 hv_128 => ?_)
                have hI2 := gOn_ok hB hI1.1 (c := x / 2 ^ 17 % 2 ^ 4) (r := x / 2 ^ 12 % 2 ^ 5) (t := x / 2 ^ 21) (z := x % 2 ^ 7) (w := nI (x / 2 ^ 7 % 2 ^ 5 - 1)) (by omega) (by omega) (cDrs u (x / 2 ^ 17 % 2 ^ 4))
                refine ek_il X 3 rfl dX3_come_131 ?_
                refine ek_Zeq X (by omega) 163 (by decide) dX3_come_133 (fun c_133 => ?_) (fun c_133 => ?_)
                · skip
                  exact ek_retv X () ⟨rfl, trivial⟩ (by first | (exfalso; omega; done) | (show _ = wS ad e cI cJ cR (gComeP u (x / 2 ^ 21) (x / 2 ^ 17 % 2 ^ 4) (x / 2 ^ 12 % 2 ^ 5) (x / 2 ^ 7 % 2 ^ 5) (x % 2 ^ 7) g q h).1 (gComeP u (x / 2 ^ 21) (x / 2 ^ 17 % 2 ^ 4) (x / 2 ^ 12 % 2 ^ 5) (x / 2 ^ 7 % 2 ^ 5) (x % 2 ^ 7) g q h).2.1 u (gComeP u (x / 2 ^ 21) (x / 2 ^ 17 % 2 ^ 4) (x / 2 ^ 12 % 2 ^ 5) (x / 2 ^ 7 % 2 ^ 5) (x % 2 ^ 7) g q h).2.2; rw [show gComeP u (x / 2 ^ 21) (x / 2 ^ 17 % 2 ^ 4) (x / 2 ^ 12 % 2 ^ 5) (x / 2 ^ 7 % 2 ^ 5) (x % 2 ^ 7) g q h = ((gFar u (x / 2 ^ 21) (x / 2 ^ 17 % 2 ^ 4) (x / 2 ^ 12 % 2 ^ 5) (x / 2 ^ 7 % 2 ^ 5) (x % 2 ^ 7) g q).1, (gFar u (x / 2 ^ 21) (x / 2 ^ 17 % 2 ^ 4) (x / 2 ^ 12 % 2 ^ 5) (x / 2 ^ 7 % 2 ^ 5) (x % 2 ^ 7) g q).2, hMay (x / 2 ^ 21) (x / 2 ^ 17 % 2 ^ 4) (x / 2 ^ 12 % 2 ^ 5) (x / 2 ^ 7 % 2 ^ 5) (x % 2 ^ 7) g h) from (if_neg (by omega)).trans (if_neg (by omega))]; unfold gFar gRest; (first | rw [if_pos (by omega)] | rw [if_neg (by omega)]); unfold pW; (first | rw [if_pos (by omega)] | rw [if_neg (by omega)]); unfold hMay; first | rw [if_pos (by omega)] | rw [if_neg (by omega)])) dX3_come_163
                · skip
                  refine ek_il X 1 rfl dX3_come_136 ?_
                  refine ek_Zlt X (by omega) 163 (by decide) dX3_come_138 (fun c_138 => ?_) (fun c_138 => ?_)
                  · exact c_138.elim
                  · skip
                    refine ek_aln X 5 rfl dX3_come_141 ?_
                    refine ek_il X 1 rfl dX3_come_142 ?_
                    refine ek_il X 3 rfl dX3_come_144 ?_
                    refine ek_il X 2 rfl dX3_come_146 ?_
                    refine ek_iln X 4 rfl dX3_come_148 ?_
                    refine ek_aln X 5 rfl dX3_come_149 ?_
                    refine ek_get X hin_X3_come_X3 0 rfl rfl 0 (by decide) (List.mem_of_getElem? (i := 2) rfl) rfl dX3_come_150 ?_
                    refine ek_il X 3 rfl dX3_come_153 ?_
                    refine ek_il X 0 rfl dX3_come_155 ?_
                    refine ek_doRi (ek_runV (As := [.int (nI (x / 2 ^ 17 % 2 ^ 4)), .int (nI (x % 2 ^ 7))]) (rest := [.int (nI (x / 2 ^ 21)), .int (nI (x / 2 ^ 12 % 2 ^ 5)), .int (nI (x / 2 ^ 17 % 2 ^ 4)), .int (nI (x / 2 ^ 7 % 2 ^ 5 - 1)), .ref (ad 32)]) X (c_X0_strengthFromWall l D cI cJ cR ad u hB (x / 2 ^ 17 % 2 ^ 4) (x % 2 ^ 7) (by omega) (by omega)) gX3_come_X0_strengthFromWall rfl hdV_X0_strengthFromWall ⟨Nat.le_of_ble_eq_true rfl, Nat.le_of_ble_eq_true rfl⟩ ⟨Nat.le_of_ble_eq_true rfl, Nat.le_of_ble_eq_true rfl⟩ [6, 7, 8, 9, 10, 11, 12, 13, 14, 15, 16, 17, 18, 19, 20, 21, 22, 23, 24, 25, 26, 27, 28, 29, 30] rfl (by decide) 0 0 rfl rfl (Nat.le_of_ble_eq_true rfl) dX3_come_157) (fun v_157 hv_157 => ?_)
                    subst hv_157
                    refine ek_doWv X (ek_runV (As := [.int (nI (x / 2 ^ 7 % 2 ^ 5 - 1)), .int (nI (x / 2 ^ 17 % 2 ^ 4)), .int (nI (x / 2 ^ 12 % 2 ^ 5)), .int (nI (x / 2 ^ 21)), .int (nI ((x % 2 ^ 7) * cWal u (x / 2 ^ 17 % 2 ^ 4) / 100))]) (rest := []) X (c_X3_goInto l D cI cJ cR ad e u ((hHear h (x / 2 ^ 21) ((sPl g) (x / 2 ^ 12 % 2 ^ 5)) ((sSy g) (x / 2 ^ 12 % 2 ^ 5)) (x % 2 ^ 7))) ((gOn u (x / 2 ^ 17 % 2 ^ 4) (x / 2 ^ 12 % 2 ^ 5) (nI (x / 2 ^ 7 % 2 ^ 5 - 1)) (x / 2 ^ 21) (x % 2 ^ 7) ((gClap u (x / 2 ^ 17 % 2 ^ 4) (x / 2 ^ 12 % 2 ^ 5) (x / 2 ^ 21) g q).1) ((gClap u (x / 2 ^ 17 % 2 ^ 4) (x / 2 ^ 12 % 2 ^ 5) (x / 2 ^ 21) g q).2) (cDrs u (x / 2 ^ 17 % 2 ^ 4))).1) ((gOn u (x / 2 ^ 17 % 2 ^ 4) (x / 2 ^ 12 % 2 ^ 5) (nI (x / 2 ^ 7 % 2 ^ 5 - 1)) (x / 2 ^ 21) (x % 2 ^ 7) ((gClap u (x / 2 ^ 17 % 2 ^ 4) (x / 2 ^ 12 % 2 ^ 5) (x / 2 ^ 21) g q).1) ((gClap u (x / 2 ^ 17 % 2 ^ 4) (x / 2 ^ 12 % 2 ^ 5) (x / 2 ^ 21) g q).2) (cDrs u (x / 2 ^ 17 % 2 ^ 4))).2) hB hI2.1 (x / 2 ^ 7 % 2 ^ 5 - 1) (x / 2 ^ 17 % 2 ^ 4) (x / 2 ^ 12 % 2 ^ 5) (x / 2 ^ 21) ((x % 2 ^ 7) * cWal u (x / 2 ^ 17 % 2 ^ 4) / 100) (by omega) (by omega) (by omega) (by omega) (by have := Nat.mul_le_mul (show x % 2 ^ 7 ≤ 127 by omega) (bWal (x / 2 ^ 17 % 2 ^ 4)); omega)) gX3_come_X3_goInto rfl hdV_X3_goInto ⟨Nat.le_of_ble_eq_true rfl, Nat.le_of_ble_eq_true rfl⟩ ⟨Nat.le_of_ble_eq_true rfl, Nat.le_of_ble_eq_true rfl⟩ [0, 1, 2, 3, 4, 5, 6, 7, 8, 9, 10, 11, 12, 13, 14, 15, 16, 17, 18, 19, 20, 21, 22, 23, 24, 25, 26, 27, 28, 29, 30, 31, 32, 33] rfl (by decide) 0 3 rfl rfl (Nat.le_of_ble_eq_true rfl) dX3_come_160) [0, 1, 2, 3, 4, 5, 6, 7, 8, 9, 10, 11, 12, 13, 14, 15, 16, 17, 18, 19, 20, 21, 22, 23, 24, 25, 26, 27, 28, 29, 30, 31, 32, 33] [] rfl rfl (by decide) (by decide) (fun _ => wS ad e cI cJ cR (gGo u (x / 2 ^ 7 % 2 ^ 5 - 1) (x / 2 ^ 17 % 2 ^ 4) (x / 2 ^ 12 % 2 ^ 5) (x / 2 ^ 21) ((x % 2 ^ 7) * cWal u (x / 2 ^ 17 % 2 ^ 4) / 100) ((gOn u (x / 2 ^ 17 % 2 ^ 4) (x / 2 ^ 12 % 2 ^ 5) (nI (x / 2 ^ 7 % 2 ^ 5 - 1)) (x / 2 ^ 21) (x % 2 ^ 7) ((gClap u (x / 2 ^ 17 % 2 ^ 4) (x / 2 ^ 12 % 2 ^ 5) (x / 2 ^ 21) g q).1) ((gClap u (x / 2 ^ 17 % 2 ^ 4) (x / 2 ^ 12 % 2 ^ 5) (x / 2 ^ 21) g q).2) (cDrs u (x / 2 ^ 17 % 2 ^ 4))).1) ((gOn u (x / 2 ^ 17 % 2 ^ 4) (x / 2 ^ 12 % 2 ^ 5) (nI (x / 2 ^ 7 % 2 ^ 5 - 1)) (x / 2 ^ 21) (x % 2 ^ 7) ((gClap u (x / 2 ^ 17 % 2 ^ 4) (x / 2 ^ 12 % 2 ^ 5) (x / 2 ^ 21) g q).1) ((gClap u (x / 2 ^ 17 % 2 ^ 4) (x / 2 ^ 12 % 2 ^ 5) (x / 2 ^ 21) g q).2) (cDrs u (x / 2 ^ 17 % 2 ^ 4))).2)).1 (gGo u (x / 2 ^ 7 % 2 ^ 5 - 1) (x / 2 ^ 17 % 2 ^ 4) (x / 2 ^ 12 % 2 ^ 5) (x / 2 ^ 21) ((x % 2 ^ 7) * cWal u (x / 2 ^ 17 % 2 ^ 4) / 100) ((gOn u (x / 2 ^ 17 % 2 ^ 4) (x / 2 ^ 12 % 2 ^ 5) (nI (x / 2 ^ 7 % 2 ^ 5 - 1)) (x / 2 ^ 21) (x % 2 ^ 7) ((gClap u (x / 2 ^ 17 % 2 ^ 4) (x / 2 ^ 12 % 2 ^ 5) (x / 2 ^ 21) g q).1) ((gClap u (x / 2 ^ 17 % 2 ^ 4) (x / 2 ^ 12 % 2 ^ 5) (x / 2 ^ 21) g q).2) (cDrs u (x / 2 ^ 17 % 2 ^ 4))).1) ((gOn u (x / 2 ^ 17 % 2 ^ 4) (x / 2 ^ 12 % 2 ^ 5) (nI (x / 2 ^ 7 % 2 ^ 5 - 1)) (x / 2 ^ 21) (x % 2 ^ 7) ((gClap u (x / 2 ^ 17 % 2 ^ 4) (x / 2 ^ 12 % 2 ^ 5) (x / 2 ^ 21) g q).1) ((gClap u (x / 2 ^ 17 % 2 ^ 4) (x / 2 ^ 12 % 2 ^ 5) (x / 2 ^ 21) g q).2) (cDrs u (x / 2 ^ 17 % 2 ^ 4))).2)).2 u (hHear h (x / 2 ^ 21) ((sPl g) (x / 2 ^ 12 % 2 ^ 5)) ((sSy g) (x / 2 ^ 12 % 2 ^ 5)) (x % 2 ^ 7))) [0, 1, 2, 3, 4, 5, 6, 7, 8, 9, 10, 11, 12, 13, 14, 15, 16, 17, 18, 19, 20, 21, 22, 23, 24, 25, 26, 27, 28, 29, 30, 31, 32, 33] (by decide) (fun _ => rfl) (fun u_160 hv_160 => ?_)
                    exact ek_retv X () ⟨rfl, trivial⟩ (by first | (exfalso; omega; done) | (show _ = wS ad e cI cJ cR (gComeP u (x / 2 ^ 21) (x / 2 ^ 17 % 2 ^ 4) (x / 2 ^ 12 % 2 ^ 5) (x / 2 ^ 7 % 2 ^ 5) (x % 2 ^ 7) g q h).1 (gComeP u (x / 2 ^ 21) (x / 2 ^ 17 % 2 ^ 4) (x / 2 ^ 12 % 2 ^ 5) (x / 2 ^ 7 % 2 ^ 5) (x % 2 ^ 7) g q h).2.1 u (gComeP u (x / 2 ^ 21) (x / 2 ^ 17 % 2 ^ 4) (x / 2 ^ 12 % 2 ^ 5) (x / 2 ^ 7 % 2 ^ 5) (x % 2 ^ 7) g q h).2.2; rw [show gComeP u (x / 2 ^ 21) (x / 2 ^ 17 % 2 ^ 4) (x / 2 ^ 12 % 2 ^ 5) (x / 2 ^ 7 % 2 ^ 5) (x % 2 ^ 7) g q h = ((gFar u (x / 2 ^ 21) (x / 2 ^ 17 % 2 ^ 4) (x / 2 ^ 12 % 2 ^ 5) (x / 2 ^ 7 % 2 ^ 5) (x % 2 ^ 7) g q).1, (gFar u (x / 2 ^ 21) (x / 2 ^ 17 % 2 ^ 4) (x / 2 ^ 12 % 2 ^ 5) (x / 2 ^ 7 % 2 ^ 5) (x % 2 ^ 7) g q).2, hMay (x / 2 ^ 21) (x / 2 ^ 17 % 2 ^ 4) (x / 2 ^ 12 % 2 ^ 5) (x / 2 ^ 7 % 2 ^ 5) (x % 2 ^ 7) g h) from (if_neg (by omega)).trans (if_neg (by omega))]; unfold gFar gRest; (first | rw [if_pos (by omega)] | rw [if_neg (by omega)]); unfold pW; (first | rw [if_pos (by omega)] | rw [if_neg (by omega)]); unfold hMay; first | rw [if_pos (by omega)] | rw [if_neg (by omega)])) dX3_come_163
        · skip
          exact ek_retv X () ⟨rfl, trivial⟩ (by first | (exfalso; omega; done) | (show _ = wS ad e cI cJ cR (gComeP u (x / 2 ^ 21) (x / 2 ^ 17 % 2 ^ 4) (x / 2 ^ 12 % 2 ^ 5) (x / 2 ^ 7 % 2 ^ 5) (x % 2 ^ 7) g q h).1 (gComeP u (x / 2 ^ 21) (x / 2 ^ 17 % 2 ^ 4) (x / 2 ^ 12 % 2 ^ 5) (x / 2 ^ 7 % 2 ^ 5) (x % 2 ^ 7) g q h).2.1 u (gComeP u (x / 2 ^ 21) (x / 2 ^ 17 % 2 ^ 4) (x / 2 ^ 12 % 2 ^ 5) (x / 2 ^ 7 % 2 ^ 5) (x % 2 ^ 7) g q h).2.2; rw [show gComeP u (x / 2 ^ 21) (x / 2 ^ 17 % 2 ^ 4) (x / 2 ^ 12 % 2 ^ 5) (x / 2 ^ 7 % 2 ^ 5) (x % 2 ^ 7) g q h = (g, q, h) from if_pos (by first | omega | exact Or.inr (Or.inl (Nat.not_lt.mp (fun h => c_44 ((hasC hC1 hC2 (by omega)).mpr h)))))])) dX3_come_62
      · refine ek_top (v' := nI 0) (congrArg nI (if_neg c_44)) ?_
        refine ek_Zeq X (by omega) 62 (by decide) dX3_come_47 (fun _ => ?_) (fun h => absurd h (by omega))
        exact ek_retv X () ⟨rfl, trivial⟩ (by first | (exfalso; omega; done) | (show _ = wS ad e cI cJ cR (gComeP u (x / 2 ^ 21) (x / 2 ^ 17 % 2 ^ 4) (x / 2 ^ 12 % 2 ^ 5) (x / 2 ^ 7 % 2 ^ 5) (x % 2 ^ 7) g q h).1 (gComeP u (x / 2 ^ 21) (x / 2 ^ 17 % 2 ^ 4) (x / 2 ^ 12 % 2 ^ 5) (x / 2 ^ 7 % 2 ^ 5) (x % 2 ^ 7) g q h).2.1 u (gComeP u (x / 2 ^ 21) (x / 2 ^ 17 % 2 ^ 4) (x / 2 ^ 12 % 2 ^ 5) (x / 2 ^ 7 % 2 ^ 5) (x % 2 ^ 7) g q h).2.2; rw [show gComeP u (x / 2 ^ 21) (x / 2 ^ 17 % 2 ^ 4) (x / 2 ^ 12 % 2 ^ 5) (x / 2 ^ 7 % 2 ^ 5) (x % 2 ^ 7) g q h = (g, q, h) from if_pos (by first | omega | exact Or.inr (Or.inl (Nat.not_lt.mp (fun h => c_44 ((hasC hC1 hC2 (by omega)).mpr h)))))])) dX3_come_62
