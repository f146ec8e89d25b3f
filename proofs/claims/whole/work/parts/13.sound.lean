/-! ===== EchoCave.Sound ===== -/
abbrev bitK (u : CaveT) (i c : Nat) : Nat := 2 * i + (if cFrm u i = c then 0 else 1)
abbrev sUse (g : SndT) (r k : Nat) : SndT := (sR g, sCl g, sSy g, sPl g, eN (sU g) r (sU g r ||| 2 ^ k))
def gGo (u : CaveT) (i c r t z : Nat) (g : SndT) (q : QueT) : SndT × QueT := if 200 < t + cLen u i then (g, q) else if sU g r &&& 2 ^ bitK u i c = 0 then (sUse g r (bitK u i c), qPut q (pkC (t + cLen u i) (cOth u i c) r (i + 1) (cBeh u i z))) else (g, q)
def sRun (y p c t z : Nat) (g : SndT) (q : QueT) : SndT × QueT := ((sR g + 1, sCl g, eN (sSy g) (sR g) y, eN (sPl g) (sR g) p, eN (sU g) (sR g) 0), qPut q (pkC t c (sR g) 0 z))
abbrev sBits (n : Nat) : Nat := fb_ct (fun k => n.testBit k) 36
def sPot (g : SndT) : Nat := fb_sm (fun r => 1 + sBits (sU g r)) (sR g)
def sOk (g : SndT) (q : QueT) : Prop := sR g ≤ 17 ∧ sCl g < 4096 ∧ (∀ j, sSy g j ≤ 9) ∧ (∀ j, sPl g j < 6) ∧ (∀ j, sU g j < 68719476736) ∧ qOk q ∧ qN q ≤ sPot g
theorem qUp_lt {M : Nat} : ∀ (f : Nat) (h : Nat → Nat) (t x : Nat), (∀ j, h j < M) → x < M → ∀ j, qUp f h t x j < M
  | 0, h, t, x, h1, h2, j => eN_lt h1 h2 j
  | f + 1, h, t, x, h1, h2, j => by
    unfold qUp
    split
    · exact qUp_lt f _ _ x (eN_lt h1 (h1 _)) h2 j
    · exact eN_lt h1 h2 j
theorem qSink_lt {M n : Nat} : ∀ (f : Nat) (h : Nat → Nat) (t x : Nat), (∀ j, h j < M) → x < M → ∀ j, qSink n f h t x j < M
  | 0, h, t, x, h1, h2, j => eN_lt h1 h2 j
  | f + 1, h, t, x, h1, h2, j => by
    rw [qSink_s]
    split
    · split
      · exact eN_lt h1 h2 j
      · exact qSink_lt f _ _ x (eN_lt h1 (h1 _)) h2 j
    · exact eN_lt h1 h2 j
theorem qPut_ok {q : QueT} {x : Nat} (h : qOk q) (hs : qN q < 629) (hx : x < 2147483648) : qOk (qPut q x) := ⟨by show qN q + 1 ≤ 629; omega, qUp_lt _ _ _ _ h.2 hx⟩
theorem qTake_ok {q : QueT} (h : qOk q) : qOk (qTake q) := ⟨by have := h.1; show qN q - 1 ≤ 629; omega, qSink_lt _ _ _ _ h.2 (h.2 _)⟩
theorem sPot_le (g : SndT) : sPot g ≤ sR g * 37 := fb_sm_bound (fun k _ => by have := fb_ct_le (fun j => (sU g k).testBit j) 36; show 1 + fb_ct (fun j => (sU g k).testBit j) 36 ≤ 37; omega)
theorem or_lt36 {a k : Nat} (h : a < 68719476736) (hk : k < 36) : a ||| 2 ^ k < 68719476736 := by
  have h2 : 2 ^ k < 2 ^ 36 := Nat.pow_lt_pow_right (by omega) hk
  exact Nat.or_lt_two_pow (n := 36) h h2
theorem sBits_or {a k : Nat} (hk : k < 36) (h : a &&& 2 ^ k = 0) : sBits (a ||| 2 ^ k) = sBits a + 1 := by
  have hb : a.testBit k = false := (fb_bit_nat a k).mp h
  have h1 := fb_ct_upd (fun j => a.testBit j) true (i := k) (n := 36) hk
  have h2 : fb_ct (fun j => (a ||| 2 ^ k).testBit j) 36 = fb_ct (fun j => if j = k then true else a.testBit j) 36 := fb_ct_cong (fun j _ => by
    rw [fb_bit_set]
    by_cases e : j = k <;> simp [e])
  simp only [hb, if_true] at h1
  show fb_ct _ 36 = fb_ct _ 36 + 1
  rw [h2]
  simpa using h1
theorem sPot_use {g : SndT} {r k : Nat} (hr : r < sR g) (hk : k < 36) (h : sU g r &&& 2 ^ k = 0) : sPot (sUse g r k) = sPot g + 1 := by
  have h1 := fb_sm_upd (fun j => 1 + sBits (sU g j)) (1 + sBits (sU g r ||| 2 ^ k)) (i := r) (n := sR g) hr
  have h2 : fb_sm (fun j => 1 + sBits (eN (sU g) r (sU g r ||| 2 ^ k) j)) (sR g) = fb_sm (fun j => if j = r then 1 + sBits (sU g r ||| 2 ^ k) else 1 + sBits (sU g j)) (sR g) := fb_sm_cong (fun j _ => by
    by_cases e : j = r <;> simp [eN, e])
  have h3 := sBits_or hk h
  show fb_sm (fun j => 1 + sBits (eN (sU g) r (sU g r ||| 2 ^ k) j)) (sR g) = fb_sm (fun j => 1 + sBits (sU g j)) (sR g) + 1
  rw [h2]
  omega
theorem sPot_run {g : SndT} (y p : Nat) : sPot (sR g + 1, sCl g, eN (sSy g) (sR g) y, eN (sPl g) (sR g) p, eN (sU g) (sR g) 0) = sPot g + 1 := by
  show fb_sm (fun j => 1 + sBits (eN (sU g) (sR g) 0 j)) (sR g + 1) = fb_sm (fun j => 1 + sBits (sU g j)) (sR g) + 1
  rw [fb_sm_succ]
  have h2 : fb_sm (fun j => 1 + sBits (eN (sU g) (sR g) 0 j)) (sR g) = fb_sm (fun j => 1 + sBits (sU g j)) (sR g) := fb_sm_cong (fun j hj => by rw [eN_ne _ _ (by omega)])
  rw [h2, eN_self]
  have h3 : sBits 0 = 0 := by decide
  omega
theorem bitK_lt (u : CaveT) {i c : Nat} (hi : i < 18) : bitK u i c < 36 := by
  unfold bitK
  split <;> omega
theorem cBeh_lt (u : CaveT) (i : Nat) {z : Nat} (hz : z < 128) : cBeh u i z < 128 := by
  have h1 : z * (90 - 5 * cNar u i) ≤ z * 90 := Nat.mul_le_mul (Nat.le_refl _) (Nat.sub_le _ _)
  show z * (90 - 5 * cNar u i) / 100 < 128
  omega
theorem cOth_lt {u : CaveT} (hB : cOk u) (i c : Nat) : cOth u i c < 12 := by
  obtain ⟨-, -, -, -, -, -, -, -, -, bFrm, bTo, -⟩ := hB
  have := bFrm i
  have := bTo i
  unfold cOth
  split <;> omega
theorem use_room {g : SndT} {q : QueT} {r k : Nat} (h : sOk g q) (hr : r < sR g) (hk : k < 36) (hb : sU g r &&& 2 ^ k = 0) : qN q < 629 := by
  obtain ⟨h1, h2, h3, h4, h5, h6, h7⟩ := h
  have e1 := sPot_use hr hk hb
  have e2 : sPot (sUse g r k) ≤ sR g * 37 := sPot_le (sUse g r k)
  omega
theorem gGo_ok {u : CaveT} {g : SndT} {q : QueT} (hB : cOk u) (h : sOk g q) {i c r t z : Nat} (hi : i < 18) (hr : r < sR g) (hz : z < 128) : sOk (gGo u i c r t z g q).1 (gGo u i c r t z g q).2 ∧ sR (gGo u i c r t z g q).1 = sR g := by
  unfold gGo
  split
  · exact ⟨h, rfl⟩
  · rename_i ht
    split
    · rename_i hb
      have hk := bitK_lt u (c := c) hi
      have hq := use_room h hr hk hb
      have e1 := sPot_use hr hk hb
      have hz2 := cBeh_lt u i hz
      have ho := cOth_lt hB i c
      obtain ⟨h1, h2, h3, h4, h5, h6, h7⟩ := h
      refine ⟨⟨h1, h2, h3, h4, fun j => ?_, qPut_ok h6 hq ?_, ?_⟩, rfl⟩
      · exact eN_lt h5 (or_lt36 (h5 _) hk) j
      · show (t + cLen u i) * 2097152 + cOth u i c * 131072 + r * 4096 + (i + 1) * 128 + cBeh u i z < 2147483648
        omega
      · rw [e1]
        show qN q + 1 ≤ _
        omega
    · exact ⟨h, rfl⟩
theorem sRun_ok {g : SndT} {q : QueT} (h : sOk g q) {y p c t z : Nat} (hr : sR g < 17) (hy : y ≤ 9) (hp : p < 6) (hc : c < 12) (ht : t ≤ 200) (hz : z < 128) : sOk (sRun y p c t z g q).1 (sRun y p c t z g q).2 ∧ qN q < 629 := by
  obtain ⟨h1, h2, h3, h4, h5, h6, h7⟩ := h
  have e1 := sPot_le g
  have e2 := sPot_run (g := g) y p
  have hq : qN q < 629 := by omega
  refine ⟨⟨by show sR g + 1 ≤ 17; omega, h2, fun j => ?_, fun j => eN_lt h4 hp j, fun j => eN_lt h5 (by omega) j, qPut_ok h6 hq ?_, ?_⟩, hq⟩
  · have := eN_lt (M := 10) (h := sSy g) (t := sR g) (v := y) (fun j => by have := h3 j; omega) (by omega) j
    show eN (sSy g) (sR g) y j ≤ 9
    omega
  · show t * 2097152 + c * 131072 + sR g * 4096 + 0 * 128 + z < 2147483648
    omega
  · show qN q + 1 ≤ sPot (sR g + 1, sCl g, eN (sSy g) (sR g) y, eN (sPl g) (sR g) p, eN (sU g) (sR g) 0)
    omega
theorem lcmp0 {a k : Nat} (ha : a < 68719476736) (hk : k < 36) : lg_cmp (lN a &&& lN (1 * 2 ^ k)) (lN 0) = 0 ↔ a &&& 2 ^ k = 0 := by
  have hp : 2 ^ k < 2 ^ 36 := Nat.pow_lt_pow_right (by omega) hk
  have h1 : a &&& 2 ^ k < 2 ^ 36 := Nat.and_lt_two_pow _ hp
  rw [Nat.one_mul, fb_andL]
  have h2 := @fb_lN_inj (a &&& 2 ^ k) 0 (by omega) (by omega)
  have h3 := @pk_lLT 0 (a &&& 2 ^ k) (by omega) (by omega)
  unfold lg_cmp
  by_cases e : a &&& 2 ^ k = 0
  · simp [e]
  · have h4 : lN (a &&& 2 ^ k) > lN 0 := h3.mpr (by omega)
    rw [if_pos h4]
    simp [e]
theorem m1_lt {n : Nat} (h : n < 2147483648) : (-1 : Int32) < nI n := by
  rw [fa_lt, nI_toInt h]
  have : (-1 : Int32).toInt = -1 := by decide
  omega

theorem hin_X3_goInto_X0 : ∀ x ∈ wsX00, x ∈ wsX3_goInto := fun x h => List.mem_cons_of_mem _ (List.mem_append_left _ (List.mem_append_right _ h))
theorem hin_X3_goInto_X3 : ∀ x ∈ wsX30, x ∈ wsX3_goInto := fun x h => List.mem_cons_of_mem _ (List.mem_append_left _ (List.mem_append_left _ (List.mem_append_right _ h)))
abbrev rm_X3_goInto : Room := { frames := 2, cells := 0, slots := 0, locals := 36 }
set_option maxHeartbeats 4000000 in
set_option maxRecDepth 100000 in
theorem c_X3_goInto (l : Launch) (D : va_G) (cI cJ cR : ClassId) (ad : Nat → Nat) (e : Nat) (u : CaveT) (h : EchT) (g : SndT) (q : QueT) (hB : cOk u) (hI : sOk g q) (i c r t z : Nat) (hi : i < 18) (hc : c < 12) (hr : r < sR g) (ht : t < 1024) (hz : z < 128) : ek_M (S := Unit) l yX3_goInto wsX3_goInto rm_X3_goInto D (tyW cI cJ cR) nestW [.ref (ad 32), .int (nI i), .int (nI c), .int (nI r), .int (nI t), .int (nI z)] (wS ad e cI cJ cR g q u h) (fun r9 _ => r9 = none ∧ True) (fun _ => wS ad e cI cJ cR (gGo u i c r t z g q).1 (gGo u i c r t z g q).2 u h) := by
  refine ek_M.of (cc := cX3_goInto) (maxL := 10) (ret := none) (by decide) rfl (Nat.le_of_ble_eq_true rfl) ?_
  intro p9 e9 s9 m9 args9 below9 meth9 c9 A X hin
  obtain ⟨⟨hC1, hC2⟩, hPs, hWt, bWal, bHgt, bBat, bSyl, bDel, bDrs, bFrm, bTo, bLen, bNar, bPb⟩ := id hB
  obtain ⟨hr17, hcl, hsy, hpl, hus, hq, hpo⟩ := id hI
  have hbk := bitK_lt u (c := c) hi
  have husr := hus r
  have hoth := cOth_lt hB i c
  have hbeh := cBeh_lt u i hz
  refine ek_castL (lv' := [(0, .ref (ad 32)), (1, .int (nI i)), (2, .int (nI c)), (3, .int (nI r)), (4, .int (nI t)), (5, .int (nI z))]) rfl ?_
  refine ek_il X 4 rfl dX3_goInto_0 ?_
  refine ek_aln X 0 rfl dX3_goInto_2 ?_
  refine ek_get X hin_X3_goInto_X3 0 rfl rfl 0 (by decide) (List.mem_of_getElem? (i := 1) rfl) rfl dX3_goInto_3 ?_
  refine ek_getN X hin_X3_goInto_X0 6 rfl rfl 11 (by decide) (List.mem_of_getElem? (i := 11) rfl) rfl dX3_goInto_6 ?_
  refine ek_iln X 1 rfl dX3_goInto_9 ?_
  refine ek_ald X 16 0 rfl rfl (by omega) (by omega) dX3_goInto_10 ?_
  have b1_10 := bLen i
  refine ek_Nadd X dX3_goInto_11 ?_
  refine ek_is (lv' := [(6, .int (nI (t + ((cLen u) i)))), (0, .ref (ad 32)), (1, .int (nI i)), (2, .int (nI c)), (3, .int (nI r)), (4, .int (nI t)), (5, .int (nI z))]) X (by decide) rfl dX3_goInto_12 ?_
  refine ek_lc (v := lN 1) X (by decide) dX3_goInto_14 ?_
  refine ek_ic (v := nI 2) X (by decide) dX3_goInto_15 ?_
  refine ek_iln X 2 rfl dX3_goInto_16 ?_
  refine ek_Nmul X dX3_goInto_17 ?_
  refine ek_aln X 1 rfl dX3_goInto_18 ?_
  refine ek_get X hin_X3_goInto_X3 0 rfl rfl 0 (by decide) (List.mem_of_getElem? (i := 1) rfl) rfl dX3_goInto_19 ?_
  refine ek_getN X hin_X3_goInto_X0 6 rfl rfl 9 (by decide) (List.mem_of_getElem? (i := 10) rfl) rfl dX3_goInto_22 ?_
  refine ek_iln X 2 rfl dX3_goInto_25 ?_
  refine ek_ald X 14 0 rfl rfl (by omega) (by omega) dX3_goInto_26 ?_
  have b2_26 := bFrm i
  refine ek_iln X 3 rfl dX3_goInto_27 ?_
  refine ek_Nne X (by omega) (by omega) 35 (by decide) dX3_goInto_28 (fun c_28 => ?_) (fun c_28 => ?_)
  · skip
    refine ek_ic (v := nI 1) X (by decide) dX3_goInto_35 ?_
    refine ek_Nadd X dX3_goInto_36 ?_
    refine ek_lshl X rfl dX3_goInto_37 ?_
    refine ek_topL (v' := lN (1 * 2 ^ bitK u i c)) (by rw [wb_shl 1 (by omega)]; exact congrArg (fun k => lN (1 * 2 ^ k)) (by show _ = 2 * i + (if cFrm u i = c then 0 else 1); first | rw [if_pos (by assumption)] | rw [if_neg (by assumption)])) ?_
    refine ek_ls (lv' := [(7, .long (lN (1 * 2 ^ bitK u i c))), (6, .int (nI (t + ((cLen u) i)))), (0, .ref (ad 32)), (1, .int (nI i)), (2, .int (nI c)), (3, .int (nI r)), (4, .int (nI t)), (5, .int (nI z))]) X (by decide) rfl dX3_goInto_38 ?_
    refine ek_il X 1 rfl dX3_goInto_40 ?_
    refine ek_sp (v := nI 200) X (by decide) dX3_goInto_42 ?_
    refine ek_Ngt X (by omega) (by omega) 62 (by decide) dX3_goInto_45 (fun c_45 => ?_) (fun c_45 => ?_)
    · skip
      exact ek_retv X () ⟨rfl, trivial⟩ (by unfold gGo; first | rw [if_pos (by omega)] | rw [if_neg (by omega), if_neg (fun h => c_59 ((lcmp0 husr hbk).mpr h))]) dX3_goInto_62
    · skip
      refine ek_aln X 2 rfl dX3_goInto_48 ?_
      refine ek_get X hin_X3_goInto_X3 0 rfl rfl 4 (by decide) (List.mem_of_getElem? (i := 2) rfl) rfl dX3_goInto_49 ?_
      refine ek_iln X 5 rfl dX3_goInto_52 ?_
      refine ek_lald X 3 1 rfl rfl (by omega) (by omega) dX3_goInto_53 ?_
      refine ek_ll X 0 rfl dX3_goInto_54 ?_
      refine ek_land X dX3_goInto_56 ?_
      refine ek_lc (v := lN 0) X (by decide) dX3_goInto_57 ?_
      refine ek_lcmp X dX3_goInto_58 ?_
      refine ek_if_eq X 63 (by decide) dX3_goInto_59 (fun c_59 => ?_) (fun c_59 => ?_)
      · skip
        refine ek_aln X 2 rfl dX3_goInto_63 ?_
        refine ek_get X hin_X3_goInto_X3 0 rfl rfl 4 (by decide) (List.mem_of_getElem? (i := 2) rfl) rfl dX3_goInto_64 ?_
        refine ek_iln X 5 rfl dX3_goInto_67 ?_
        refine ek_dup2 X rfl rfl dX3_goInto_68 ?_
        refine ek_lald X 3 1 rfl rfl (by omega) (by omega) dX3_goInto_69 ?_
        refine ek_ll X 0 rfl dX3_goInto_70 ?_
        refine ek_lor X dX3_goInto_72 ?_
        refine ek_topL (v' := lN (sU g r ||| 2 ^ bitK u i c)) (by rw [Nat.one_mul, fb_orL]) ?_
        refine ek_last (w' := wS ad e cI cJ cR (sR g, sCl g, sSy g, sPl g, eN (sU g) r ((sU g r ||| 2 ^ bitK u i c))) q u h) X 3 1 rfl rfl (by omega) (by omega) (by rw [← eN_comp lN]; rfl) dX3_goInto_73 ?_
        refine ek_aln X 2 rfl dX3_goInto_74 ?_
        refine ek_get X hin_X3_goInto_X3 0 rfl rfl 0 (by decide) (List.mem_of_getElem? (i := 1) rfl) rfl dX3_goInto_75 ?_
        refine ek_iln X 3 rfl dX3_goInto_78 ?_
        refine ek_iln X 4 rfl dX3_goInto_79 ?_
        refine ek_doRi (ek_runV (As := [.int (nI i), .int (nI c)]) (rest := []) X (c_X0_otherEnd l D cI cJ cR ad u hB i c (by omega) (by omega)) gX3_goInto_X0_otherEnd rfl hdV_X0_otherEnd ⟨Nat.le_of_ble_eq_true rfl, Nat.le_of_ble_eq_true rfl⟩ ⟨Nat.le_of_ble_eq_true rfl, Nat.le_of_ble_eq_true rfl⟩ [6, 7, 8, 9, 10, 11, 12, 13, 14, 15, 16, 17, 18, 19, 20, 21, 22, 23, 24, 25, 26, 27, 28, 29, 30] rfl (by decide) 0 0 rfl rfl (Nat.le_of_ble_eq_true rfl) dX3_goInto_80) (fun v_80 hv_80 => ?_)
        subst hv_80
        refine ek_is (lv' := [(9, .int (nI (cOth u i c))), (7, .long (lN (1 * 2 ^ bitK u i c))), (6, .int (nI (t + ((cLen u) i)))), (0, .ref (ad 32)), (1, .int (nI i)), (2, .int (nI c)), (3, .int (nI r)), (4, .int (nI t)), (5, .int (nI z))]) X (by decide) rfl dX3_goInto_83 ?_
        refine ek_aln X 3 rfl dX3_goInto_85 ?_
        refine ek_get X hin_X3_goInto_X3 0 rfl rfl 1 (by decide) (List.mem_of_getElem? (i := 3) rfl) rfl dX3_goInto_86 ?_
        refine ek_il X 2 rfl dX3_goInto_89 ?_
        refine ek_il X 0 rfl dX3_goInto_91 ?_
        refine ek_iln X 6 rfl dX3_goInto_93 ?_
        refine ek_iln X 4 rfl dX3_goInto_94 ?_
        refine ek_aln X 3 rfl dX3_goInto_95 ?_
        refine ek_get X hin_X3_goInto_X3 0 rfl rfl 0 (by decide) (List.mem_of_getElem? (i := 1) rfl) rfl dX3_goInto_96 ?_
        refine ek_iln X 4 rfl dX3_goInto_99 ?_
        refine ek_il X 8 rfl dX3_goInto_100 ?_
        refine ek_doRi (ek_runV (As := [.int (nI i), .int (nI z)]) (rest := [.int (nI i), .int (nI r), .int (nI (cOth u i c)), .int (nI (t + ((cLen u) i))), .ref (ad 30)]) X (c_X0_strengthBehind l D cI cJ cR ad u hB i z (by omega) (by omega)) gX3_goInto_X0_strengthBehind rfl hdV_X0_strengthBehind ⟨Nat.le_of_ble_eq_true rfl, Nat.le_of_ble_eq_true rfl⟩ ⟨Nat.le_of_ble_eq_true rfl, Nat.le_of_ble_eq_true rfl⟩ [6, 7, 8, 9, 10, 11, 12, 13, 14, 15, 16, 17, 18, 19, 20, 21, 22, 23, 24, 25, 26, 27, 28, 29, 30] rfl (by decide) 0 0 rfl rfl (Nat.le_of_ble_eq_true rfl) dX3_goInto_102) (fun v_102 hv_102 => ?_)
        subst hv_102
        refine ek_doRi (ek_runS (As := [.int (nI (t + ((cLen u) i))), .int (nI (cOth u i c)), .int (nI r), .int (nI i), .int (nI (cBeh u i z))]) (rest := [.ref (ad 30)]) X (c_X1_pack l D cI cJ cR (t + ((cLen u) i)) (cOth u i c) r (i + 1) (cBeh u i z) (nI i) (by omega) (by omega) (by omega) (by omega) (by omega) (nI_1 i)) gX3_goInto_X1_pack rfl hd_X1_pack ⟨Nat.le_of_ble_eq_true rfl, Nat.le_of_ble_eq_true rfl⟩ ⟨Nat.le_of_ble_eq_true rfl, Nat.le_of_ble_eq_true rfl⟩ [] rfl (by decide) (Nat.le_of_ble_eq_true rfl) dX3_goInto_105) (fun v_105 hv_105 => ?_)
        subst hv_105
        refine ek_doWv X (ek_runV (As := [.int (nI (pkC (t + ((cLen u) i)) (cOth u i c) r (i + 1) (cBeh u i z)))]) (rest := []) X (c_X1_put l D cI cJ cR ad q (pkC (t + ((cLen u) i)) (cOth u i c) r (i + 1) (cBeh u i z)) hq (use_room hI hr hbk ((lcmp0 husr hbk).mp c_59)) (by show (t + cLen u i) * 2097152 + cOth u i c * 131072 + r * 4096 + (i + 1) * 128 + cBeh u i z < 2147483648; omega)) gX3_goInto_X1_put rfl hdV_X1_put ⟨Nat.le_of_ble_eq_true rfl, Nat.le_of_ble_eq_true rfl⟩ ⟨Nat.le_of_ble_eq_true rfl, Nat.le_of_ble_eq_true rfl⟩ [4, 5] rfl (by decide) 0 1 rfl rfl (Nat.le_of_ble_eq_true rfl) dX3_goInto_108) [4, 5] [0, 1, 2, 3, 6, 7, 8, 9, 10, 11, 12, 13, 14, 15, 16, 17, 18, 19, 20, 21, 22, 23, 24, 25, 26, 27, 28, 29, 30, 31, 32, 33] rfl rfl (by decide) (by decide) (fun _ => wS ad e cI cJ cR (sR g, sCl g, sSy g, sPl g, eN (sU g) r ((sU g r ||| 2 ^ bitK u i c))) (qPut q (pkC (t + ((cLen u) i)) (cOth u i c) r (i + 1) (cBeh u i z))) u h) [0, 1, 2, 3, 32, 33, 4, 5, 6, 7, 8, 9, 10, 11, 12, 13, 14, 15, 16, 17, 18, 19, 20, 21, 22, 23, 24, 25, 26, 27, 28, 29, 30, 31] (by decide) (fun _ => rfl) (fun u_108 hv_108 => ?_)
        exact ek_retv X () ⟨rfl, trivial⟩ (by unfold gGo; rw [if_neg (by omega), if_pos ((lcmp0 husr hbk).mp c_59)]) dX3_goInto_111
      · skip
        exact ek_retv X () ⟨rfl, trivial⟩ (by unfold gGo; first | rw [if_pos (by omega)] | rw [if_neg (by omega), if_neg (fun h => c_59 ((lcmp0 husr hbk).mpr h))]) dX3_goInto_62
  · skip
    refine ek_ic (v := nI 0) X (by decide) dX3_goInto_31 ?_
    refine ek_goto X 36 (by decide) dX3_goInto_32 ?_
    refine ek_Nadd X dX3_goInto_36 ?_
    refine ek_lshl X rfl dX3_goInto_37 ?_
    refine ek_topL (v' := lN (1 * 2 ^ bitK u i c)) (by rw [wb_shl 1 (by omega)]; exact congrArg (fun k => lN (1 * 2 ^ k)) (by show _ = 2 * i + (if cFrm u i = c then 0 else 1); first | rw [if_pos (by assumption)] | rw [if_neg (by assumption)])) ?_
    refine ek_ls (lv' := [(7, .long (lN (1 * 2 ^ bitK u i c))), (6, .int (nI (t + ((cLen u) i)))), (0, .ref (ad 32)), (1, .int (nI i)), (2, .int (nI c)), (3, .int (nI r)), (4, .int (nI t)), (5, .int (nI z))]) X (by decide) rfl dX3_goInto_38 ?_
    refine ek_il X 1 rfl dX3_goInto_40 ?_
    refine ek_sp (v := nI 200) X (by decide) dX3_goInto_42 ?_
    refine ek_Ngt X (by omega) (by omega) 62 (by decide) dX3_goInto_45 (fun c_45 => ?_) (fun c_45 => ?_)
    · skip
      exact ek_retv X () ⟨rfl, trivial⟩ (by unfold gGo; first | rw [if_pos (by omega)] | rw [if_neg (by omega), if_neg (fun h => c_59 ((lcmp0 husr hbk).mpr h))]) dX3_goInto_62
    · skip
      refine ek_aln X 2 rfl dX3_goInto_48 ?_
      refine ek_get X hin_X3_goInto_X3 0 rfl rfl 4 (by decide) (List.mem_of_getElem? (i := 2) rfl) rfl dX3_goInto_49 ?_
      refine ek_iln X 5 rfl dX3_goInto_52 ?_
      refine ek_lald X 3 1 rfl rfl (by omega) (by omega) dX3_goInto_53 ?_
      refine ek_ll X 0 rfl dX3_goInto_54 ?_
      refine ek_land X dX3_goInto_56 ?_
      refine ek_lc (v := lN 0) X (by decide) dX3_goInto_57 ?_
      refine ek_lcmp X dX3_goInto_58 ?_
      refine ek_if_eq X 63 (by decide) dX3_goInto_59 (fun c_59 => ?_) (fun c_59 => ?_)
      · skip
        refine ek_aln X 2 rfl dX3_goInto_63 ?_
        refine ek_get X hin_X3_goInto_X3 0 rfl rfl 4 (by decide) (List.mem_of_getElem? (i := 2) rfl) rfl dX3_goInto_64 ?_
        refine ek_iln X 5 rfl dX3_goInto_67 ?_
        refine ek_dup2 X rfl rfl dX3_goInto_68 ?_
        refine ek_lald X 3 1 rfl rfl (by omega) (by omega) dX3_goInto_69 ?_
        refine ek_ll X 0 rfl dX3_goInto_70 ?_
        refine ek_lor X dX3_goInto_72 ?_
        refine ek_topL (v' := lN (sU g r ||| 2 ^ bitK u i c)) (by rw [Nat.one_mul, fb_orL]) ?_
        refine ek_last (w' := wS ad e cI cJ cR (sR g, sCl g, sSy g, sPl g, eN (sU g) r ((sU g r ||| 2 ^ bitK u i c))) q u h) X 3 1 rfl rfl (by omega) (by omega) (by rw [← eN_comp lN]; rfl) dX3_goInto_73 ?_
        refine ek_aln X 2 rfl dX3_goInto_74 ?_
        refine ek_get X hin_X3_goInto_X3 0 rfl rfl 0 (by decide) (List.mem_of_getElem? (i := 1) rfl) rfl dX3_goInto_75 ?_
        refine ek_iln X 3 rfl dX3_goInto_78 ?_
        refine ek_iln X 4 rfl dX3_goInto_79 ?_
        refine ek_doRi (ek_runV (As := [.int (nI i), .int (nI c)]) (rest := []) X (c_X0_otherEnd l D cI cJ cR ad u hB i c (by omega) (by omega)) gX3_goInto_X0_otherEnd rfl hdV_X0_otherEnd ⟨Nat.le_of_ble_eq_true rfl, Nat.le_of_ble_eq_true rfl⟩ ⟨Nat.le_of_ble_eq_true rfl, Nat.le_of_ble_eq_true rfl⟩ [6, 7, 8, 9, 10, 11, 12, 13, 14, 15, 16, 17, 18, 19, 20, 21, 22, 23, 24, 25, 26, 27, 28, 29, 30] rfl (by decide) 0 0 rfl rfl (Nat.le_of_ble_eq_true rfl) dX3_goInto_80) (fun v_80 hv_80 => ?_)
        subst hv_80
        refine ek_is (lv' := [(9, .int (nI (cOth u i c))), (7, .long (lN (1 * 2 ^ bitK u i c))), (6, .int (nI (t + ((cLen u) i)))), (0, .ref (ad 32)), (1, .int (nI i)), (2, .int (nI c)), (3, .int (nI r)), (4, .int (nI t)), (5, .int (nI z))]) X (by decide) rfl dX3_goInto_83 ?_
        refine ek_aln X 3 rfl dX3_goInto_85 ?_
        refine ek_get X hin_X3_goInto_X3 0 rfl rfl 1 (by decide) (List.mem_of_getElem? (i := 3) rfl) rfl dX3_goInto_86 ?_
        refine ek_il X 2 rfl dX3_goInto_89 ?_
        refine ek_il X 0 rfl dX3_goInto_91 ?_
        refine ek_iln X 6 rfl dX3_goInto_93 ?_
        refine ek_iln X 4 rfl dX3_goInto_94 ?_
        refine ek_aln X 3 rfl dX3_goInto_95 ?_
        refine ek_get X hin_X3_goInto_X3 0 rfl rfl 0 (by decide) (List.mem_of_getElem? (i := 1) rfl) rfl dX3_goInto_96 ?_
        refine ek_iln X 4 rfl dX3_goInto_99 ?_
        refine ek_il X 8 rfl dX3_goInto_100 ?_
        refine ek_doRi (ek_runV (As := [.int (nI i), .int (nI z)]) (rest := [.int (nI i), .int (nI r), .int (nI (cOth u i c)), .int (nI (t + ((cLen u) i))), .ref (ad 30)]) X (c_X0_strengthBehind l D cI cJ cR ad u hB i z (by omega) (by omega)) gX3_goInto_X0_strengthBehind rfl hdV_X0_strengthBehind ⟨Nat.le_of_ble_eq_true rfl, Nat.le_of_ble_eq_true rfl⟩ ⟨Nat.le_of_ble_eq_true rfl, Nat.le_of_ble_eq_true rfl⟩ [6, 7, 8, 9, 10, 11, 12, 13, 14, 15, 16, 17, 18, 19, 20, 21, 22, 23, 24, 25, 26, 27, 28, 29, 30] rfl (by decide) 0 0 rfl rfl (Nat.le_of_ble_eq_true rfl) dX3_goInto_102) (fun v_102 hv_102 => ?_)
        subst hv_102
        refine ek_doRi (ek_runS (As := [.int (nI (t + ((cLen u) i))), .int (nI (cOth u i c)), .int (nI r), .int (nI i), .int (nI (cBeh u i z))]) (rest := [.ref (ad 30)]) X (c_X1_pack l D cI cJ cR (t + ((cLen u) i)) (cOth u i c) r (i + 1) (cBeh u i z) (nI i) (by omega) (by omega) (by omega) (by omega) (by omega) (nI_1 i)) gX3_goInto_X1_pack rfl hd_X1_pack ⟨Nat.le_of_ble_eq_true rfl, Nat.le_of_ble_eq_true rfl⟩ ⟨Nat.le_of_ble_eq_true rfl, Nat.le_of_ble_eq_true rfl⟩ [] rfl (by decide) (Nat.le_of_ble_eq_true rfl) dX3_goInto_105) (fun v_105 hv_105 => ?_)
        subst hv_105
        refine ek_doWv X (ek_runV (As := [.int (nI (pkC (t + ((cLen u) i)) (cOth u i c) r (i + 1) (cBeh u i z)))]) (rest := []) X (c_X1_put l D cI cJ cR ad q (pkC (t + ((cLen u) i)) (cOth u i c) r (i + 1) (cBeh u i z)) hq (use_room hI hr hbk ((lcmp0 husr hbk).mp c_59)) (by show (t + cLen u i) * 2097152 + cOth u i c * 131072 + r * 4096 + (i + 1) * 128 + cBeh u i z < 2147483648; omega)) gX3_goInto_X1_put rfl hdV_X1_put ⟨Nat.le_of_ble_eq_true rfl, Nat.le_of_ble_eq_true rfl⟩ ⟨Nat.le_of_ble_eq_true rfl, Nat.le_of_ble_eq_true rfl⟩ [4, 5] rfl (by decide) 0 1 rfl rfl (Nat.le_of_ble_eq_true rfl) dX3_goInto_108) [4, 5] [0, 1, 2, 3, 6, 7, 8, 9, 10, 11, 12, 13, 14, 15, 16, 17, 18, 19, 20, 21, 22, 23, 24, 25, 26, 27, 28, 29, 30, 31, 32, 33] rfl rfl (by decide) (by decide) (fun _ => wS ad e cI cJ cR (sR g, sCl g, sSy g, sPl g, eN (sU g) r ((sU g r ||| 2 ^ bitK u i c))) (qPut q (pkC (t + ((cLen u) i)) (cOth u i c) r (i + 1) (cBeh u i z))) u h) [0, 1, 2, 3, 32, 33, 4, 5, 6, 7, 8, 9, 10, 11, 12, 13, 14, 15, 16, 17, 18, 19, 20, 21, 22, 23, 24, 25, 26, 27, 28, 29, 30, 31] (by decide) (fun _ => rfl) (fun u_108 hv_108 => ?_)
        exact ek_retv X () ⟨rfl, trivial⟩ (by unfold gGo; rw [if_neg (by omega), if_pos ((lcmp0 husr hbk).mp c_59)]) dX3_goInto_111
      · skip
        exact ek_retv X () ⟨rfl, trivial⟩ (by unfold gGo; first | rw [if_pos (by omega)] | rw [if_neg (by omega), if_neg (fun h => c_59 ((lcmp0 husr hbk).mpr h))]) dX3_goInto_62

theorem hin_X3_startRun_X3 : ∀ x ∈ wsX30, x ∈ wsX3_startRun := fun x h => List.mem_cons_of_mem _ (List.mem_append_left _ (List.mem_append_right _ h))
abbrev rm_X3_startRun : Room := { frames := 2, cells := 0, slots := 0, locals := 36 }
set_option maxHeartbeats 4000000 in
set_option maxRecDepth 100000 in
theorem c_X3_startRun (l : Launch) (D : va_G) (cI cJ cR : ClassId) (ad : Nat → Nat) (e : Nat) (u : CaveT) (h : EchT) (g : SndT) (q : QueT) (hB : cOk u) (hI : sOk g q) (y p c t z : Nat) (hy : y ≤ 9) (hp : p < 6) (hc : c < 12) (hr : sR g < 17) (ht : t ≤ 200) (hz : z < 128) : ek_M (S := Unit) l yX3_startRun wsX3_startRun rm_X3_startRun D (tyW cI cJ cR) nestW [.ref (ad 32), .int (nI y), .int (nI p), .int (nI c), .int (nI t), .int (nI z)] (wS ad e cI cJ cR g q u h) (fun r9 _ => r9 = none ∧ True) (fun _ => wS ad e cI cJ cR (sRun y p c t z g q).1 (sRun y p c t z g q).2 u h) := by
  refine ek_M.of (cc := cX3_startRun) (maxL := 6) (ret := none) (by decide) rfl (Nat.le_of_ble_eq_true rfl) ?_
  intro p9 e9 s9 m9 args9 below9 meth9 c9 A X hin
  obtain ⟨⟨hC1, hC2⟩, hPs, hWt, bWal, bHgt, bBat, bSyl, bDel, bDrs, bFrm, bTo, bLen, bNar, bPb⟩ := id hB
  obtain ⟨hr17, hcl, hsy, hpl, hus, hq, hpo⟩ := id hI
  have hrm := (sRun_ok hI (y := y) (p := p) (c := c) (t := t) (z := z) hr hy hp hc ht hz).2
  refine ek_castL (lv' := [(0, .ref (ad 32)), (1, .int (nI y)), (2, .int (nI p)), (3, .int (nI c)), (4, .int (nI t)), (5, .int (nI z))]) rfl ?_
  refine ek_aln X 0 rfl dX3_startRun_0 ?_
  refine ek_get X hin_X3_startRun_X3 0 rfl rfl 5 (by decide) (List.mem_of_getElem? (i := 1) rfl) rfl dX3_startRun_1 ?_
  refine ek_bp (v := nI 17) X (by decide) dX3_startRun_4 ?_
  refine ek_Nlt X (by omega) (by omega) 10 (by decide) dX3_startRun_6 (fun c_6 => ?_) (fun c_6 => ?_)
  · skip
    refine ek_aln X 0 rfl dX3_startRun_10 ?_
    refine ek_get X hin_X3_startRun_X3 0 rfl rfl 2 (by decide) (List.mem_of_getElem? (i := 2) rfl) rfl dX3_startRun_11 ?_
    refine ek_aln X 0 rfl dX3_startRun_14 ?_
    refine ek_get X hin_X3_startRun_X3 0 rfl rfl 5 (by decide) (List.mem_of_getElem? (i := 1) rfl) rfl dX3_startRun_15 ?_
    refine ek_iln X 1 rfl dX3_startRun_18 ?_
    refine ek_Nast (w' := wS ad e cI cJ cR (sR g, sCl g, eN (sSy g) (sR g) y, sPl g, sU g) q u h) X 1 0 rfl rfl (by omega) (by omega) rfl dX3_startRun_19 ?_
    refine ek_aln X 0 rfl dX3_startRun_20 ?_
    refine ek_get X hin_X3_startRun_X3 0 rfl rfl 3 (by decide) (List.mem_of_getElem? (i := 3) rfl) rfl dX3_startRun_21 ?_
    refine ek_aln X 0 rfl dX3_startRun_24 ?_
    refine ek_get X hin_X3_startRun_X3 0 rfl rfl 5 (by decide) (List.mem_of_getElem? (i := 1) rfl) rfl dX3_startRun_25 ?_
    refine ek_top (v' := nI (sR g)) rfl ?_
    refine ek_iln X 2 rfl dX3_startRun_28 ?_
    refine ek_Nast (w' := wS ad e cI cJ cR (sR g, sCl g, eN (sSy g) (sR g) y, eN (sPl g) (sR g) p, sU g) q u h) X 2 0 rfl rfl (by omega) (by omega) rfl dX3_startRun_29 ?_
    refine ek_aln X 0 rfl dX3_startRun_30 ?_
    refine ek_get X hin_X3_startRun_X3 0 rfl rfl 4 (by decide) (List.mem_of_getElem? (i := 4) rfl) rfl dX3_startRun_31 ?_
    refine ek_aln X 0 rfl dX3_startRun_34 ?_
    refine ek_get X hin_X3_startRun_X3 0 rfl rfl 5 (by decide) (List.mem_of_getElem? (i := 1) rfl) rfl dX3_startRun_35 ?_
    refine ek_top (v' := nI (sR g)) rfl ?_
    refine ek_lc (v := lN 0) X (by decide) dX3_startRun_38 ?_
    refine ek_last (w' := wS ad e cI cJ cR (sR g, sCl g, eN (sSy g) (sR g) y, eN (sPl g) (sR g) p, eN (sU g) (sR g) (0)) q u h) X 3 1 rfl rfl (by omega) (by omega) (by rw [← eN_comp lN]; rfl) dX3_startRun_39 ?_
    refine ek_aln X 0 rfl dX3_startRun_40 ?_
    refine ek_get X hin_X3_startRun_X3 0 rfl rfl 1 (by decide) (List.mem_of_getElem? (i := 5) rfl) rfl dX3_startRun_41 ?_
    refine ek_il X 4 rfl dX3_startRun_44 ?_
    refine ek_iln X 3 rfl dX3_startRun_46 ?_
    refine ek_aln X 0 rfl dX3_startRun_47 ?_
    refine ek_get X hin_X3_startRun_X3 0 rfl rfl 5 (by decide) (List.mem_of_getElem? (i := 1) rfl) rfl dX3_startRun_48 ?_
    refine ek_top (v' := nI (sR g)) rfl ?_
    refine ek_ic (v := -1) X (by decide) dX3_startRun_51 ?_
    refine ek_il X 5 rfl dX3_startRun_52 ?_
    refine ek_doRi (ek_runS (As := [.int (nI t), .int (nI c), .int (nI (sR g)), .int (-1), .int (nI z)]) (rest := [.ref (ad 30)]) X (c_X1_pack l D cI cJ cR t c (sR g) 0 z (-1) (by omega) (by omega) (by omega) (by omega) (by omega) (by decide)) gX3_startRun_X1_pack rfl hd_X1_pack ⟨Nat.le_of_ble_eq_true rfl, Nat.le_of_ble_eq_true rfl⟩ ⟨Nat.le_of_ble_eq_true rfl, Nat.le_of_ble_eq_true rfl⟩ [] rfl (by decide) (Nat.le_of_ble_eq_true rfl) dX3_startRun_54) (fun v_54 hv_54 => ?_)
    subst hv_54
    refine ek_doWv X (ek_runV (As := [.int (nI (pkC t c (sR g) 0 z))]) (rest := []) X (c_X1_put l D cI cJ cR ad q (pkC t c (sR g) 0 z) hq hrm (by show t * 2097152 + c * 131072 + sR g * 4096 + 0 * 128 + z < 2147483648; omega)) gX3_startRun_X1_put rfl hdV_X1_put ⟨Nat.le_of_ble_eq_true rfl, Nat.le_of_ble_eq_true rfl⟩ ⟨Nat.le_of_ble_eq_true rfl, Nat.le_of_ble_eq_true rfl⟩ [4, 5] rfl (by decide) 0 1 rfl rfl (Nat.le_of_ble_eq_true rfl) dX3_startRun_57) [4, 5] [0, 1, 2, 3, 6, 7, 8, 9, 10, 11, 12, 13, 14, 15, 16, 17, 18, 19, 20, 21, 22, 23, 24, 25, 26, 27, 28, 29, 30, 31, 32, 33] rfl rfl (by decide) (by decide) (fun _ => wS ad e cI cJ cR (sR g, sCl g, eN (sSy g) (sR g) y, eN (sPl g) (sR g) p, eN (sU g) (sR g) (0)) (qPut q (pkC t c (sR g) 0 z)) u h) [0, 1, 2, 3, 32, 33, 4, 5, 6, 7, 8, 9, 10, 11, 12, 13, 14, 15, 16, 17, 18, 19, 20, 21, 22, 23, 24, 25, 26, 27, 28, 29, 30, 31] (by decide) (fun _ => rfl) (fun u_57 hv_57 => ?_)
    refine ek_aln X 0 rfl dX3_startRun_60 ?_
    refine ek_dup X rfl dX3_startRun_61 ?_
    refine ek_get X hin_X3_startRun_X3 0 rfl rfl 5 (by decide) (List.mem_of_getElem? (i := 1) rfl) rfl dX3_startRun_62 ?_
    refine ek_top (v' := nI (sR g)) rfl ?_
    refine ek_ic (v := nI 1) X (by decide) dX3_startRun_65 ?_
    refine ek_Nadd X dX3_startRun_66 ?_
    refine ek_put (w' := wS ad e cI cJ cR ((sR g) + 1, sCl g, eN (sSy g) (sR g) y, eN (sPl g) (sR g) p, eN (sU g) (sR g) (0)) (qPut q (pkC t c (sR g) 0 z)) u h) X hin_X3_startRun_X3 tyX3 tyX3_ok nmX3 0 rfl rfl 5 (by decide) (List.mem_of_getElem? (i := 1) rfl) rfl rfl rfl rfl (Nat.le_of_ble_eq_true rfl) rfl dX3_startRun_67 ?_
    exact ek_retv X () ⟨rfl, trivial⟩ rfl dX3_startRun_70
  · exact absurd hr (by omega)
