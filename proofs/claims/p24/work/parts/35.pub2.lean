/-! ===== EchoCave: say, would, advise, longest, quickest, way, highest ===== -/
def vWould (g : SndT) (k : EchT) (x : Nat) : Int32 := if x = 0 then nI (hCt k) else if x = 1 then nI (if hIn k then 1 else 0) else if x = 2 then hLa k else nI (sR g)
def vQuick (u : CaveT) (x w : Nat) : Nat → Nat → SndT × QueT × EchT → Int32 × SndT × QueT × EchT
  | 0, _, s => (-1, s)
  | f + 1, b, s => if hIn (gThrough u w b x s.1 s.2.1 s.2.2).2.2 then (nI b, gThrough u w b x s.1 s.2.1 s.2.2) else vQuick u x w f (b + 1) (gThrough u w b x s.1 s.2.1 s.2.2)
def vLong (u : CaveT) (x y b : Nat) : Nat → Nat → Nat → SndT × QueT × EchT → Nat × SndT × QueT × EchT
  | 0, _, best, s => (best, s)
  | f + 1, t, best, s => vLong u x y b f (t + 1) (if hIn (gThrough u (rep y t) b x s.1 s.2.1 s.2.2).2.2 then t else best) (gThrough u (rep y t) b x s.1 s.2.1 s.2.2)
def cBack (u : CaveT) (c y d : Nat) : CaveT := cClap (cClap u c y d) c (cSyl u c) (cDel u c)
def vAdv (x w b y d : Nat) : Nat → Nat → CaveT × SndT × QueT × EchT → Int32 × CaveT × SndT × QueT × EchT
  | 0, _, s => (-1, s)
  | f + 1, c, s => if hIn (gThrough (cClap s.1 c y d) w b x s.2.1 s.2.2.1 s.2.2.2).2.2 then (nI c, cBack s.1 c y d, gThrough (cClap s.1 c y d) w b x s.2.1 s.2.2.1 s.2.2.2) else vAdv x w b y d f (c + 1) (cBack s.1 c y d, gThrough (cClap s.1 c y d) w b x s.2.1 s.2.2.1 s.2.2.2)
theorem eN_bd {f : Nat → Nat} {t v M : Nat} (h : ∀ j, f j ≤ M) (hv : v ≤ M) (j : Nat) : eN f t v j ≤ M := by
  by_cases e : j = t
  · rw [e, eN_self]; exact hv
  · rw [eN_ne _ _ e]; exact h j
theorem cClap_ok {u : CaveT} (h : cOk u) {c y d : Nat} (hy : y ≤ 9) (hd : d ≤ 20) : cOk (cClap u c y d) := by
  obtain ⟨h1, h2, h3, h4, h5, h6, h7, h8, h9⟩ := h
  exact ⟨h1, h2, h3, h4, h5, h6, eN_bd h7 hy, eN_bd h8 (by split <;> omega), h9⟩
theorem cBack_ok {u : CaveT} (h : cOk u) {c y d : Nat} (hy : y ≤ 9) (hd : d ≤ 20) : cOk (cBack u c y d) := cClap_ok (cClap_ok h hy hd) (h.2.2.2.2.2.2.1 c) (h.2.2.2.2.2.2.2.1 c)

theorem hin_X4_say_X2 : ∀ x ∈ wsX20, x ∈ wsX4_say := fun x h => List.mem_cons_of_mem _ (List.mem_append_left _ (List.mem_append_left _ (List.mem_append_left _ (List.mem_append_left _ (List.mem_append_right _ h)))))
theorem hin_X4_say_X4 : ∀ x ∈ wsX40, x ∈ wsX4_say := fun x h => List.mem_cons_of_mem _ (List.mem_append_left _ (List.mem_append_left _ (List.mem_append_left _ (List.mem_append_left _ (List.mem_append_left _ (List.mem_append_right _ h))))))
abbrev rm_X4_say : Room := { frames := 8, cells := 2, slots := 12, locals := 145 }
set_option maxHeartbeats 4000000 in
set_option maxRecDepth 100000 in
theorem c_X4_say (l : Launch) (hl : l.stackTraces = false) (D : va_G) (cI cJ cR : ClassId) (ad : Nat → Nat) (cv : CavT) (g : SndT) (q : QueT) (u : CaveT) (h k : EchT) (hB : cOk u) (hI : sOk g q) (hH : hOk h) (he : vEar cv ≤ 50) (w : Nat) (b : Nat) (hw : w < 4294967296) (hb : b < 4294967296) : ek_MX (S := Unit) l yX4_say wsX4_say rm_X4_say D (tyW cI cJ cR) nestW [.ref (ad 46), .int (nI w), .int (nI b)] (wV ad cI cJ cR cv g q u h k) (fun r9 _ => ∃ v : Int32, r9 = some (.int v) ∧ xSay w b = 0 ∧ v = nI (hCt (gThrough u w b (vEar cv) g q h).2.2)) (fun _ => wV ad cI cJ cR (vEar cv, vSaid cv + 1, w) (gThrough u w b (vEar cv) g q h).1 (gThrough u w b (vEar cv) g q h).2.1 u (gThrough u w b (vEar cv) g q h).2.2 k) (fun E9 => (xSay w b = 1 ∧ E9 = eIA)) := by
  refine ek_MX.of (cc := cX4_say) (maxL := 3) (ret := (some .int)) (by decide) rfl (Nat.le_of_ble_eq_true rfl) ?_
  intro p9 e9 s9 m9 args9 below9 meth9 c9 A X hZ hT
  obtain ⟨⟨hC1, hC2⟩, hPs, hWt, bWal, bHgt, bBat, bSyl, bDel, bDrs, bFrm, bTo, bLen, bNar, bPb⟩ := id hB
  refine ek_castL (lv' := [(0, .ref (ad 46)), (1, .int (nI w)), (2, .int (nI b))]) rfl ?_
  refine ek_iln X 1 rfl dX4_say_0 ?_
  refine ek_iln X 2 rfl dX4_say_1 ?_
  refine ek_doXv X (ek_runSX (As := [.int (nI w), .int (nI b)]) (rest := []) X hZ (c_X4_requireWordAndBeat l hl D cI cJ cR w b (by omega) (by omega)) gX4_say_X4_requireWordAndBeat rfl hd_X4_requireWordAndBeat ⟨Nat.le_of_ble_eq_true rfl, Nat.le_of_ble_eq_true rfl⟩ ⟨Nat.le_of_ble_eq_true rfl, Nat.le_of_ble_eq_true rfl⟩ [] rfl (by decide) (Nat.le_of_ble_eq_true rfl) dX4_say_2) [0, 1, 2, 3, 4, 5, 6, 7, 8, 9, 10, 11, 12, 13, 14, 15, 16, 17, 18, 19, 20, 21, 22, 23, 24, 25, 26, 27, 28, 29, 30, 31, 32, 33, 34, 35, 36, 37] rfl (by decide) (fun E hE => ek_xout X hT ⟨if_neg hE.1, hE.2⟩ ⟨Nat.le_of_ble_eq_true rfl, Nat.le_of_ble_eq_true rfl⟩) (fun hv_2 => ?_)
  obtain ⟨⟨⟨hw1, hw2⟩, hw3⟩, hb1, hb2⟩ := id hv_2
  refine ek_aln X 0 rfl dX4_say_5 ?_
  refine ek_get X hin_X4_say_X4 0 rfl rfl 1 (by decide) (List.mem_of_getElem? (i := 1) rfl) rfl dX4_say_6 ?_
  refine ek_iln X 1 rfl dX4_say_9 ?_
  refine ek_iln X 2 rfl dX4_say_10 ?_
  refine ek_aln X 0 rfl dX4_say_11 ?_
  refine ek_get X hin_X4_say_X4 0 rfl rfl 4 (by decide) (List.mem_of_getElem? (i := 2) rfl) rfl dX4_say_12 ?_
  refine ek_aln X 0 rfl dX4_say_15 ?_
  refine ek_get X hin_X4_say_X4 0 rfl rfl 2 (by decide) (List.mem_of_getElem? (i := 3) rfl) rfl dX4_say_16 ?_
  refine ek_doWv X (ek_runV (As := [.int (nI w), .int (nI b), .int (nI (vEar cv)), .ref (ad 40)]) (rest := []) X (c_X3_runThrough l D cI cJ cR ad 40 u h g q hB hI hH w b (vEar cv) (by omega) hw1 hb2 he) gX4_say_X3_runThrough rfl hdV_X3_runThrough ⟨Nat.le_of_ble_eq_true rfl, Nat.le_of_ble_eq_true rfl⟩ ⟨Nat.le_of_ble_eq_true rfl, Nat.le_of_ble_eq_true rfl⟩ [1, 2, 3, 4, 5, 6, 7, 8, 9, 10, 11, 12, 13, 14, 15, 16, 17, 18, 19, 20, 21, 22, 23, 24, 25, 26, 27, 28, 29, 30, 31, 32, 33, 34] rfl (by decide) 0 3 rfl rfl (Nat.le_of_ble_eq_true rfl) dX4_say_19) [1, 2, 3, 4, 5, 6, 7, 8, 9, 10, 11, 12, 13, 14, 15, 16, 17, 18, 19, 20, 21, 22, 23, 24, 25, 26, 27, 28, 29, 30, 31, 32, 33, 34] [0, 35, 36, 37] rfl rfl (by decide) (by decide) (fun _ => wV ad cI cJ cR cv (gThrough u w b (vEar cv) g q h).1 (gThrough u w b (vEar cv) g q h).2.1 u (gThrough u w b (vEar cv) g q h).2.2 k) [0, 4, 5, 6, 7, 8, 9, 10, 11, 12, 13, 14, 15, 16, 17, 18, 19, 20, 21, 22, 23, 24, 25, 26, 27, 28, 29, 30, 31, 32, 33, 34, 35, 36, 37, 1, 2, 3] (by decide) (fun _ => rfl) (fun u_19 hv_19 => ?_)
  refine ek_aln X 0 rfl dX4_say_22 ?_
  refine ek_dup X rfl dX4_say_23 ?_
  refine ek_get X hin_X4_say_X4 0 rfl rfl 5 (by decide) (List.mem_of_getElem? (i := 4) rfl) rfl dX4_say_24 ?_
  refine ek_ic (v := nI 1) X (by decide) dX4_say_27 ?_
  refine ek_Nadd X dX4_say_28 ?_
  refine ek_put (w' := wV ad cI cJ cR (vEar cv, (vSaid cv) + 1, vWord cv) (gThrough u w b (vEar cv) g q h).1 (gThrough u w b (vEar cv) g q h).2.1 u (gThrough u w b (vEar cv) g q h).2.2 k) X hin_X4_say_X4 tyX4 tyX4_ok nmX4 0 rfl rfl 5 (by decide) (List.mem_of_getElem? (i := 4) rfl) rfl rfl rfl rfl (Nat.le_of_ble_eq_true rfl) rfl dX4_say_29 ?_
  refine ek_aln X 0 rfl dX4_say_32 ?_
  refine ek_iln X 1 rfl dX4_say_33 ?_
  refine ek_put (w' := wV ad cI cJ cR (vEar cv, (vSaid cv) + 1, w) (gThrough u w b (vEar cv) g q h).1 (gThrough u w b (vEar cv) g q h).2.1 u (gThrough u w b (vEar cv) g q h).2.2 k) X hin_X4_say_X4 tyX4 tyX4_ok nmX4 0 rfl rfl 6 (by decide) (List.mem_of_getElem? (i := 5) rfl) rfl rfl rfl rfl (Nat.le_of_ble_eq_true rfl) rfl dX4_say_34 ?_
  refine ek_aln X 0 rfl dX4_say_37 ?_
  refine ek_get X hin_X4_say_X4 0 rfl rfl 2 (by decide) (List.mem_of_getElem? (i := 3) rfl) rfl dX4_say_38 ?_
  refine ek_getN X hin_X4_say_X2 32 rfl rfl 5 (by decide) (List.mem_of_getElem? (i := 17) rfl) rfl dX4_say_41 ?_
  refine ek_ret ?_
  refine ek_widen (k' := 2) (n' := 12) (Nat.le_of_ble_eq_true rfl) (Nat.le_of_ble_eq_true rfl) ?_
  exact ek_reti X () ⟨_, rfl, ⟨if_pos hv_2, rfl⟩⟩ rfl dX4_say_44

theorem hin_X4_would_X2 : ∀ x ∈ wsX20, x ∈ wsX4_would := fun x h => List.mem_cons_of_mem _ (List.mem_append_left _ (List.mem_append_left _ (List.mem_append_left _ (List.mem_append_left _ (List.mem_append_left _ (List.mem_append_right _ h))))))
theorem hin_X4_would_X3 : ∀ x ∈ wsX30, x ∈ wsX4_would := fun x h => List.mem_cons_of_mem _ (List.mem_append_left _ (List.mem_append_left _ (List.mem_append_left _ (List.mem_append_left _ (List.mem_append_right _ h)))))
theorem hin_X4_would_X4 : ∀ x ∈ wsX40, x ∈ wsX4_would := fun x h => List.mem_cons_of_mem _ (List.mem_append_left _ (List.mem_append_left _ (List.mem_append_left _ (List.mem_append_left _ (List.mem_append_left _ (List.mem_append_left _ (List.mem_append_right _ h)))))))
abbrev rm_X4_would : Room := { frames := 8, cells := 3, slots := 18, locals := 145 }
set_option maxHeartbeats 4000000 in
set_option maxRecDepth 100000 in
theorem c_X4_would (l : Launch) (hl : l.stackTraces = false) (D : va_G) (cI cJ cR : ClassId) (ad : Nat → Nat) (cv : CavT) (g : SndT) (q : QueT) (u : CaveT) (h k : EchT) (hB : cOk u) (hI : sOk g q) (hK : hOk k) (he : vEar cv ≤ 50) (w : Nat) (b : Nat) (x : Nat) (hw : w < 4294967296) (hb : b < 4294967296) (hx : x < 4294967296) : ek_MX (S := Unit) l yX4_would wsX4_would rm_X4_would D (tyW cI cJ cR) nestW [.ref (ad 46), .int (nI w), .int (nI b), .int (nI x)] (wV ad cI cJ cR cv g q u h k) (fun r9 _ => ∃ v : Int32, r9 = some (.int v) ∧ xWould w b x = 0 ∧ v = vWould (gThrough u w b (vEar cv) g q k).1 (gThrough u w b (vEar cv) g q k).2.2 x) (fun _ => wV ad cI cJ cR cv (gThrough u w b (vEar cv) g q k).1 (gThrough u w b (vEar cv) g q k).2.1 u h (gThrough u w b (vEar cv) g q k).2.2) (fun E9 => (xWould w b x = 1 ∧ E9 = eIA) ∨ (xWould w b x = 2 ∧ E9 = eIX)) := by
  refine ek_MX.of (cc := cX4_would) (maxL := 4) (ret := (some .int)) (by decide) rfl (Nat.le_of_ble_eq_true rfl) ?_
  intro p9 e9 s9 m9 args9 below9 meth9 c9 A X hZ hT
  obtain ⟨⟨hC1, hC2⟩, hPs, hWt, bWal, bHgt, bBat, bSyl, bDel, bDrs, bFrm, bTo, bLen, bNar, bPb⟩ := id hB
  refine ek_castL (lv' := [(0, .ref (ad 46)), (1, .int (nI w)), (2, .int (nI b)), (3, .int (nI x))]) rfl ?_
  refine ek_iln X 1 rfl dX4_would_0 ?_
  refine ek_iln X 2 rfl dX4_would_1 ?_
  refine ek_doXv X (ek_runSX (As := [.int (nI w), .int (nI b)]) (rest := []) X hZ (c_X4_requireWordAndBeat l hl D cI cJ cR w b (by omega) (by omega)) gX4_would_X4_requireWordAndBeat rfl hd_X4_requireWordAndBeat ⟨Nat.le_of_ble_eq_true rfl, Nat.le_of_ble_eq_true rfl⟩ ⟨Nat.le_of_ble_eq_true rfl, Nat.le_of_ble_eq_true rfl⟩ [] rfl (by decide) (Nat.le_of_ble_eq_true rfl) dX4_would_2) [0, 1, 2, 3, 4, 5, 6, 7, 8, 9, 10, 11, 12, 13, 14, 15, 16, 17, 18, 19, 20, 21, 22, 23, 24, 25, 26, 27, 28, 29, 30, 31, 32, 33, 34, 35, 36, 37] rfl (by decide) (fun E hE => ek_xout X hT (Or.inl ⟨if_neg hE.1, hE.2⟩) ⟨Nat.le_of_ble_eq_true rfl, Nat.le_of_ble_eq_true rfl⟩) (fun hv_2 => ?_)
  obtain ⟨⟨⟨hw1, hw2⟩, hw3⟩, hb1, hb2⟩ := id hv_2
  refine ek_iln X 3 rfl dX4_would_5 ?_
  refine ek_ic (v := nI 0) X (by decide) dX4_would_6 ?_
  refine ek_ic (v := nI 3) X (by decide) dX4_would_7 ?_
  refine ek_doRi (ek_runS (As := [.int (nI x), .int (nI 0), .int (nI 3)]) (rest := []) X (c_X4_isWithinN l D cI cJ cR x 0 3 (by omega) (by omega) (by omega)) gX4_would_X4_isWithin rfl hd_X4_isWithin ⟨Nat.le_of_ble_eq_true rfl, Nat.le_of_ble_eq_true rfl⟩ ⟨Nat.le_of_ble_eq_true rfl, Nat.le_of_ble_eq_true rfl⟩ [] rfl (by decide) (Nat.le_of_ble_eq_true rfl) dX4_would_8) (fun v_8 hv_8 => ?_)
  subst hv_8
  by_cases c_8 : 0 ≤ x ∧ x ≤ 3
  · refine ek_top (v' := nI 1) (congrArg nI (if_pos c_8)) ?_
    refine ek_doXv X (ek_runSX (As := [.int (nI 1)]) (rest := []) X hZ (c_X4_requireIndex l hl D cI cJ cR 1 (by omega)) gX4_would_X4_requireIndex rfl hd_X4_requireIndex ⟨Nat.le_of_ble_eq_true rfl, Nat.le_of_ble_eq_true rfl⟩ ⟨Nat.le_of_ble_eq_true rfl, Nat.le_of_ble_eq_true rfl⟩ [] rfl (by decide) (Nat.le_of_ble_eq_true rfl) dX4_would_11) [0, 1, 2, 3, 4, 5, 6, 7, 8, 9, 10, 11, 12, 13, 14, 15, 16, 17, 18, 19, 20, 21, 22, 23, 24, 25, 26, 27, 28, 29, 30, 31, 32, 33, 34, 35, 36, 37] rfl (by decide) (fun E hE => absurd hE.1 (by decide)) (fun _ => ?_)
    refine ek_aln X 0 rfl dX4_would_14 ?_
    refine ek_get X hin_X4_would_X4 0 rfl rfl 1 (by decide) (List.mem_of_getElem? (i := 1) rfl) rfl dX4_would_15 ?_
    refine ek_iln X 1 rfl dX4_would_18 ?_
    refine ek_iln X 2 rfl dX4_would_19 ?_
    refine ek_aln X 0 rfl dX4_would_20 ?_
    refine ek_get X hin_X4_would_X4 0 rfl rfl 4 (by decide) (List.mem_of_getElem? (i := 2) rfl) rfl dX4_would_21 ?_
    refine ek_aln X 0 rfl dX4_would_24 ?_
    refine ek_get X hin_X4_would_X4 0 rfl rfl 3 (by decide) (List.mem_of_getElem? (i := 3) rfl) rfl dX4_would_25 ?_
    refine ek_doWv X (ek_runV (As := [.int (nI w), .int (nI b), .int (nI (vEar cv)), .ref (ad 43)]) (rest := []) X (c_X3_runThrough l D cI cJ cR ad 43 u k g q hB hI hK w b (vEar cv) (by omega) hw1 hb2 he) gX4_would_X3_runThrough rfl hdV_X3_runThrough ⟨Nat.le_of_ble_eq_true rfl, Nat.le_of_ble_eq_true rfl⟩ ⟨Nat.le_of_ble_eq_true rfl, Nat.le_of_ble_eq_true rfl⟩ [1, 2, 3, 4, 5, 6, 7, 8, 9, 10, 11, 12, 13, 14, 15, 16, 17, 18, 19, 20, 21, 22, 23, 24, 25, 26, 27, 28, 29, 30, 31, 35, 36, 37] rfl (by decide) 0 3 rfl rfl (Nat.le_of_ble_eq_true rfl) dX4_would_28) [1, 2, 3, 4, 5, 6, 7, 8, 9, 10, 11, 12, 13, 14, 15, 16, 17, 18, 19, 20, 21, 22, 23, 24, 25, 26, 27, 28, 29, 30, 31, 35, 36, 37] [0, 32, 33, 34] rfl rfl (by decide) (by decide) (fun _ => wV ad cI cJ cR cv (gThrough u w b (vEar cv) g q k).1 (gThrough u w b (vEar cv) g q k).2.1 u h (gThrough u w b (vEar cv) g q k).2.2) [0, 4, 5, 6, 7, 8, 9, 10, 11, 12, 13, 14, 15, 16, 17, 18, 19, 20, 21, 22, 23, 24, 25, 26, 27, 28, 29, 30, 31, 32, 33, 34, 1, 2, 3, 35, 36, 37] (by decide) (fun _ => rfl) (fun u_28 hv_28 => ?_)
    refine ek_iln X 3 rfl dX4_would_31 ?_
    rcases (show x = 0 ∨ x = 1 ∨ x = 2 ∨ 2 < x by omega) with rfl | rfl | rfl | c_32
    · refine ek_tsN X 60 (by decide) (by decide) rfl (by decide) dX4_would_32 ?_
      refine ek_aln X 0 rfl dX4_would_60 ?_
      refine ek_get X hin_X4_would_X4 0 rfl rfl 3 (by decide) (List.mem_of_getElem? (i := 3) rfl) rfl dX4_would_61 ?_
      refine ek_getN X hin_X4_would_X2 35 rfl rfl 5 (by decide) (List.mem_of_getElem? (i := 17) rfl) rfl dX4_would_64 ?_
      refine ek_ret ?_
      refine ek_widen (k' := 3) (n' := 18) (Nat.le_of_ble_eq_true rfl) (Nat.le_of_ble_eq_true rfl) ?_
      exact ek_reti X () ⟨_, rfl, ⟨(by unfold xWould; first | rw [if_pos hv_2, if_pos (by omega)] | rw [if_pos hv_2, if_neg (by omega)]), (by first | rfl | exact (congrArg nI (if_pos (by assumption))).symm | exact (congrArg nI (if_neg (by assumption))).symm | (unfold vWould; rw [if_neg (by omega), if_neg (by omega), if_neg (by omega)]))⟩⟩ rfl dX4_would_67
    · refine ek_tsN X 68 (by decide) (by decide) rfl (by decide) dX4_would_32 ?_
      refine ek_aln X 0 rfl dX4_would_68 ?_
      refine ek_get X hin_X4_would_X4 0 rfl rfl 3 (by decide) (List.mem_of_getElem? (i := 3) rfl) rfl dX4_would_69 ?_
      refine ek_doRi (ek_runV (As := []) (rest := []) X (c_X2_cameInOrder l D cI cJ cR ad 43 ((gThrough u w b (vEar cv) g q k).2.2) (gThrough_ok hB hI hK hb2 he).2) gX4_would_X2_cameInOrder rfl hdV_X2_cameInOrder ⟨Nat.le_of_ble_eq_true rfl, Nat.le_of_ble_eq_true rfl⟩ ⟨Nat.le_of_ble_eq_true rfl, Nat.le_of_ble_eq_true rfl⟩ [35, 36, 37] rfl (by decide) 0 2 rfl rfl (Nat.le_of_ble_eq_true rfl) dX4_would_72) (fun v_72 hv_72 => ?_)
      subst hv_72
      by_cases c_72 : hIn ((gThrough u w b (vEar cv) g q k).2.2)
      · refine ek_top (v' := nI 1) (congrArg nI (if_pos c_72)) ?_
        refine ek_Zeq X (by omega) 82 (by decide) dX4_would_75 (fun h => absurd h (by omega)) (fun _ => ?_)
        refine ek_ic (v := nI 1) X (by decide) dX4_would_78 ?_
        refine ek_goto X 83 (by decide) dX4_would_79 ?_
        refine ek_ret ?_
        refine ek_widen (k' := 3) (n' := 18) (Nat.le_of_ble_eq_true rfl) (Nat.le_of_ble_eq_true rfl) ?_
        exact ek_reti X () ⟨_, rfl, ⟨(by unfold xWould; first | rw [if_pos hv_2, if_pos (by omega)] | rw [if_pos hv_2, if_neg (by omega)]), (by first | rfl | exact (congrArg nI (if_pos (by assumption))).symm | exact (congrArg nI (if_neg (by assumption))).symm | (unfold vWould; rw [if_neg (by omega), if_neg (by omega), if_neg (by omega)]))⟩⟩ rfl dX4_would_83
      · refine ek_top (v' := nI 0) (congrArg nI (if_neg c_72)) ?_
        refine ek_Zeq X (by omega) 82 (by decide) dX4_would_75 (fun _ => ?_) (fun h => absurd h (by omega))
        refine ek_ic (v := nI 0) X (by decide) dX4_would_82 ?_
        refine ek_ret ?_
        refine ek_widen (k' := 3) (n' := 18) (Nat.le_of_ble_eq_true rfl) (Nat.le_of_ble_eq_true rfl) ?_
        exact ek_reti X () ⟨_, rfl, ⟨(by unfold xWould; first | rw [if_pos hv_2, if_pos (by omega)] | rw [if_pos hv_2, if_neg (by omega)]), (by first | rfl | exact (congrArg nI (if_pos (by assumption))).symm | exact (congrArg nI (if_neg (by assumption))).symm | (unfold vWould; rw [if_neg (by omega), if_neg (by omega), if_neg (by omega)]))⟩⟩ rfl dX4_would_83
    · refine ek_tsN X 84 (by decide) (by decide) rfl (by decide) dX4_would_32 ?_
      refine ek_aln X 0 rfl dX4_would_84 ?_
      refine ek_get X hin_X4_would_X4 0 rfl rfl 3 (by decide) (List.mem_of_getElem? (i := 3) rfl) rfl dX4_would_85 ?_
      refine ek_getN X hin_X4_would_X2 35 rfl rfl 7 (by decide) (List.mem_of_getElem? (i := 18) rfl) rfl dX4_would_88 ?_
      refine ek_ret ?_
      refine ek_widen (k' := 3) (n' := 18) (Nat.le_of_ble_eq_true rfl) (Nat.le_of_ble_eq_true rfl) ?_
      exact ek_reti X () ⟨_, rfl, ⟨(by unfold xWould; first | rw [if_pos hv_2, if_pos (by omega)] | rw [if_pos hv_2, if_neg (by omega)]), (by first | rfl | exact (congrArg nI (if_pos (by assumption))).symm | exact (congrArg nI (if_neg (by assumption))).symm | (unfold vWould; rw [if_neg (by omega), if_neg (by omega), if_neg (by omega)]))⟩⟩ rfl dX4_would_91
    · refine ek_tsO X 92 (by omega) (by omega) (by decide) dX4_would_32 ?_
      refine ek_aln X 0 rfl dX4_would_92 ?_
      refine ek_get X hin_X4_would_X4 0 rfl rfl 1 (by decide) (List.mem_of_getElem? (i := 1) rfl) rfl dX4_would_93 ?_
      refine ek_getN X hin_X4_would_X3 1 rfl rfl 5 (by decide) (List.mem_of_getElem? (i := 13) rfl) rfl dX4_would_96 ?_
      refine ek_ret ?_
      refine ek_widen (k' := 3) (n' := 18) (Nat.le_of_ble_eq_true rfl) (Nat.le_of_ble_eq_true rfl) ?_
      exact ek_reti X () ⟨_, rfl, ⟨(by unfold xWould; first | rw [if_pos hv_2, if_pos (by omega)] | rw [if_pos hv_2, if_neg (by omega)]), (by first | rfl | exact (congrArg nI (if_pos (by assumption))).symm | exact (congrArg nI (if_neg (by assumption))).symm | (unfold vWould; rw [if_neg (by omega), if_neg (by omega), if_neg (by omega)]))⟩⟩ rfl dX4_would_99
  · refine ek_top (v' := nI 0) (congrArg nI (if_neg c_8)) ?_
    exact ek_doXv X (ek_runSX (As := [.int (nI 0)]) (rest := []) X hZ (c_X4_requireIndex l hl D cI cJ cR 0 (by omega)) gX4_would_X4_requireIndex rfl hd_X4_requireIndex ⟨Nat.le_of_ble_eq_true rfl, Nat.le_of_ble_eq_true rfl⟩ ⟨Nat.le_of_ble_eq_true rfl, Nat.le_of_ble_eq_true rfl⟩ [] rfl (by decide) (Nat.le_of_ble_eq_true rfl) dX4_would_11) [0, 1, 2, 3, 4, 5, 6, 7, 8, 9, 10, 11, 12, 13, 14, 15, 16, 17, 18, 19, 20, 21, 22, 23, 24, 25, 26, 27, 28, 29, 30, 31, 32, 33, 34, 35, 36, 37] rfl (by decide) (fun E hE => ek_xout X hT (Or.inr ⟨(by unfold xWould; first | rw [if_pos hv_2, if_pos (by omega)] | rw [if_pos hv_2, if_neg (by omega)]), hE.2⟩) ⟨Nat.le_of_ble_eq_true rfl, Nat.le_of_ble_eq_true rfl⟩) (fun hv => absurd hv (by decide))

abbrev rm_X4_quickest : Room := { frames := 7, cells := 1, slots := 6, locals := 167 }
set_option maxHeartbeats 4000000 in
set_option maxRecDepth 100000 in
theorem c_X4_quickest (l : Launch) (hl : l.stackTraces = false) (D : va_G) (cI cJ cR : ClassId) (ad : Nat → Nat) (cv : CavT) (g : SndT) (q : QueT) (u : CaveT) (h k : EchT) (hB : cOk u) (hI : sOk g q) (hK : hOk k) (he : vEar cv ≤ 50) (w : Nat) (hw : w < 4294967296) : ek_MX (S := Unit) l yX4_quickest wsX4_quickest rm_X4_quickest D (tyW cI cJ cR) nestW [.ref (ad 46), .int (nI w)] (wV ad cI cJ cR cv g q u h k) (fun r9 _ => ∃ v : Int32, r9 = some (.int v) ∧ xQuick w = 0 ∧ v = (vQuick u (vEar cv) w 20 1 (g, q, k)).1) (fun _ => wV ad cI cJ cR cv (vQuick u (vEar cv) w 20 1 (g, q, k)).2.1 (vQuick u (vEar cv) w 20 1 (g, q, k)).2.2.1 u h (vQuick u (vEar cv) w 20 1 (g, q, k)).2.2.2) (fun E9 => (xQuick w = 1 ∧ E9 = eIA)) := by
  refine ek_MX.of (cc := cX4_quickest) (maxL := 3) (ret := (some .int)) (by decide) rfl (Nat.le_of_ble_eq_true rfl) ?_
  intro p9 e9 s9 m9 args9 below9 meth9 c9 A X hZ hT
  obtain ⟨⟨hC1, hC2⟩, hPs, hWt, bWal, bHgt, bBat, bSyl, bDel, bDrs, bFrm, bTo, bLen, bNar, bPb⟩ := id hB
  refine ek_castL (lv' := [(0, .ref (ad 46)), (1, .int (nI w))]) rfl ?_
  refine ek_iln X 1 rfl dX4_quickest_0 ?_
  refine ek_doRi (ek_runS (As := [.int (nI w)]) (rest := []) X (c_X4_isWord l D cI cJ cR w (by omega)) gX4_quickest_X4_isWord rfl hd_X4_isWord ⟨Nat.le_of_ble_eq_true rfl, Nat.le_of_ble_eq_true rfl⟩ ⟨Nat.le_of_ble_eq_true rfl, Nat.le_of_ble_eq_true rfl⟩ [] rfl (by decide) (Nat.le_of_ble_eq_true rfl) dX4_quickest_1) (fun v_1 hv_1 => ?_)
  subst hv_1
  by_cases c_1 : wdOk w
  · refine ek_top (v' := nI 1) (congrArg nI (if_pos c_1)) ?_
    refine ek_doXv X (ek_runSX (As := [.int (nI 1)]) (rest := []) X hZ (c_X4_requireArgument l hl D cI cJ cR 1 (by omega)) gX4_quickest_X4_requireArgument rfl hd_X4_requireArgument ⟨Nat.le_of_ble_eq_true rfl, Nat.le_of_ble_eq_true rfl⟩ ⟨Nat.le_of_ble_eq_true rfl, Nat.le_of_ble_eq_true rfl⟩ [] rfl (by decide) (Nat.le_of_ble_eq_true rfl) dX4_quickest_4) [0, 1, 2, 3, 4, 5, 6, 7, 8, 9, 10, 11, 12, 13, 14, 15, 16, 17, 18, 19, 20, 21, 22, 23, 24, 25, 26, 27, 28, 29, 30, 31, 32, 33, 34, 35, 36, 37] rfl (by decide) (fun E hE => absurd hE.1 (by decide)) (fun _ => ?_)
    obtain ⟨⟨hw1, hw2⟩, hw3⟩ := id c_1
    refine ek_ic (v := nI 1) X (by decide) dX4_quickest_7 ?_
    refine ek_isn (lv' := [(2, .int (nI 1)), (0, .ref (ad 46)), (1, .int (nI w))]) X (by decide) rfl dX4_quickest_8 ?_
    refine ek_loopAt (σ := Nat × SndT × QueT × EchT) (fun zz => (fun (b : Nat) (g1 : SndT) (q1 : QueT) (k1 : EchT) => 1 ≤ b ∧ b ≤ 21 ∧ sOk g1 q1 ∧ hOk k1 ∧ vQuick u (vEar cv) w (21 - b) b (g1, q1, k1) = vQuick u (vEar cv) w 20 1 (g, q, k)) zz.1 zz.2.1 zz.2.2.1 zz.2.2.2) (fun zz => (fun (b : Nat) (g1 : SndT) (q1 : QueT) (k1 : EchT) => 21 - b) zz.1 zz.2.1 zz.2.2.1 zz.2.2.2) (fun zz => (fun (b : Nat) (g1 : SndT) (q1 : QueT) (k1 : EchT) => wV ad cI cJ cR cv g1 q1 u h k1) zz.1 zz.2.1 zz.2.2.1 zz.2.2.2) (fun zz => (fun (b : Nat) (g1 : SndT) (q1 : QueT) (k1 : EchT) => [(0, .ref (ad 46)), (1, .int (nI w)), (2, .int (nI b))]) zz.1 zz.2.1 zz.2.2.1 zz.2.2.2) ?_ (1, g, q, k) ⟨by omega, by omega, hI, hK, rfl⟩ rfl [1, 2, 0] rfl
    intro zz ha_9 ih_9
    obtain ⟨b, g1, q1, k1⟩ := zz
    replace ha_9 : 1 ≤ b ∧ b ≤ 21 ∧ sOk g1 q1 ∧ hOk k1 ∧ vQuick u (vEar cv) w (21 - b) b (g1, q1, k1) = vQuick u (vEar cv) w 20 1 (g, q, k) := ha_9
    refine ek_cast (w' := wV ad cI cJ cR cv g1 q1 u h k1) rfl ?_
    refine ek_castL (lv' := [(0, .ref (ad 46)), (1, .int (nI w)), (2, .int (nI b))]) rfl ?_
    refine ek_iln X 2 rfl dX4_quickest_9 ?_
    refine ek_bp (v := nI 20) X (by decide) dX4_quickest_10 ?_
    refine ek_Ngt X (by omega) (by omega) 32 (by decide) dX4_quickest_12 (fun c_12 => ?_) (fun c_12 => ?_)
    · skip
      refine ek_ic (v := -1) X (by decide) dX4_quickest_32 ?_
      refine ek_ret ?_
      refine ek_widen (k' := 1) (n' := 6) (Nat.le_of_ble_eq_true rfl) (Nat.le_of_ble_eq_true rfl) ?_
      exact ek_reti X () ⟨_, rfl, ⟨if_pos c_1, (by obtain ⟨h1, h2, h3, h4, h5⟩ := ha_9; rw [← h5, show 21 - b = 0 by omega]; rfl)⟩⟩ (by obtain ⟨h1, h2, h3, h4, h5⟩ := ha_9; rw [← h5, show 21 - b = 0 by omega]; rfl) dX4_quickest_33
    · skip
      refine ek_aln X 0 rfl dX4_quickest_15 ?_
      refine ek_iln X 1 rfl dX4_quickest_16 ?_
      refine ek_iln X 2 rfl dX4_quickest_17 ?_
      refine ek_doWi X (ek_runV (As := [.int (nI w), .int (nI b)]) (rest := []) X (c_X4_wouldComeInOrder l D cI cJ cR ad cv g1 q1 u h k1 hB ha_9.2.2.1 ha_9.2.2.2.1 he w b hw2 hw1 (by omega)) gX4_quickest_X4_wouldComeInOrder rfl hdV_X4_wouldComeInOrder ⟨Nat.le_of_ble_eq_true rfl, Nat.le_of_ble_eq_true rfl⟩ ⟨Nat.le_of_ble_eq_true rfl, Nat.le_of_ble_eq_true rfl⟩ [0, 1, 2, 3, 4, 5, 6, 7, 8, 9, 10, 11, 12, 13, 14, 15, 16, 17, 18, 19, 20, 21, 22, 23, 24, 25, 26, 27, 28, 29, 30, 31, 32, 33, 34, 35, 36, 37] rfl (by decide) 0 4 rfl rfl (Nat.le_of_ble_eq_true rfl) dX4_quickest_18) [0, 1, 2, 3, 4, 5, 6, 7, 8, 9, 10, 11, 12, 13, 14, 15, 16, 17, 18, 19, 20, 21, 22, 23, 24, 25, 26, 27, 28, 29, 30, 31, 32, 33, 34, 35, 36, 37] [] rfl rfl (by decide) (by decide) (fun _ => wV ad cI cJ cR cv (gThrough u w b (vEar cv) g1 q1 k1).1 (gThrough u w b (vEar cv) g1 q1 k1).2.1 u h (gThrough u w b (vEar cv) g1 q1 k1).2.2) [0, 1, 2, 3, 4, 5, 6, 7, 8, 9, 10, 11, 12, 13, 14, 15, 16, 17, 18, 19, 20, 21, 22, 23, 24, 25, 26, 27, 28, 29, 30, 31, 32, 33, 34, 35, 36, 37] (by decide) (fun _ => rfl) (fun v_18 u_18 hv_18 => ?_)
      subst hv_18
      by_cases c_18 : hIn (gThrough u w b (vEar cv) g1 q1 k1).2.2
      · refine ek_top (v' := nI 1) (congrArg nI (if_pos c_18)) ?_
        refine ek_Zeq X (by omega) 26 (by decide) dX4_quickest_21 (fun h => absurd h (by omega)) (fun _ => ?_)
        refine ek_iln X 2 rfl dX4_quickest_24 ?_
        refine ek_ret ?_
        refine ek_widen (k' := 1) (n' := 6) (Nat.le_of_ble_eq_true rfl) (Nat.le_of_ble_eq_true rfl) ?_
        exact ek_reti X () ⟨_, rfl, ⟨if_pos c_1, (by obtain ⟨h1, h2, h3, h4, h5⟩ := ha_9; rw [← h5, show 21 - b = (20 - b) + 1 by omega, show vQuick u (vEar cv) w ((20 - b) + 1) b (g1, q1, k1) = (nI b, gThrough u w b (vEar cv) g1 q1 k1) from if_pos (by assumption)])⟩⟩ (by obtain ⟨h1, h2, h3, h4, h5⟩ := ha_9; rw [← h5, show 21 - b = (20 - b) + 1 by omega, show vQuick u (vEar cv) w ((20 - b) + 1) b (g1, q1, k1) = (nI b, gThrough u w b (vEar cv) g1 q1 k1) from if_pos (by assumption)]) dX4_quickest_25
      · refine ek_top (v' := nI 0) (congrArg nI (if_neg c_18)) ?_
        refine ek_Zeq X (by omega) 26 (by decide) dX4_quickest_21 (fun _ => ?_) (fun h => absurd h (by omega))
        refine ek_Ninc (j := 2) (d := 1) (lv' := [(2, .int (nI (b + 1))), (0, .ref (ad 46)), (1, .int (nI w))]) X rfl (by decide) rfl dX4_quickest_26 ?_
        refine ek_goto X 9 (by decide) dX4_quickest_29 ?_
        refine ek_re [1, 2, 0] rfl ?_
        exact ih_9 (b + 1, (gThrough u w b (vEar cv) g1 q1 k1).1, (gThrough u w b (vEar cv) g1 q1 k1).2.1, (gThrough u w b (vEar cv) g1 q1 k1).2.2) (show 1 ≤ (b + 1) ∧ (b + 1) ≤ 21 ∧ sOk ((gThrough u w b (vEar cv) g1 q1 k1).1) ((gThrough u w b (vEar cv) g1 q1 k1).2.1) ∧ hOk ((gThrough u w b (vEar cv) g1 q1 k1).2.2) ∧ vQuick u (vEar cv) w (21 - (b + 1)) (b + 1) (((gThrough u w b (vEar cv) g1 q1 k1).1), ((gThrough u w b (vEar cv) g1 q1 k1).2.1), ((gThrough u w b (vEar cv) g1 q1 k1).2.2)) = vQuick u (vEar cv) w 20 1 (g, q, k) from (by obtain ⟨h1, h2, h3, h4, h5⟩ := ha_9; obtain ⟨z1, z2⟩ := gThrough_ok (w := w) (b := b) hB h3 h4 (by omega) he; refine ⟨by omega, by omega, z1, z2, ?_⟩; rw [← h5, show 21 - b = (21 - (b + 1)) + 1 by omega]; exact (if_neg (by assumption)).symm)) (by show 21 - (b + 1) < 21 - b; omega)
  · refine ek_top (v' := nI 0) (congrArg nI (if_neg c_1)) ?_
    exact ek_doXv X (ek_runSX (As := [.int (nI 0)]) (rest := []) X hZ (c_X4_requireArgument l hl D cI cJ cR 0 (by omega)) gX4_quickest_X4_requireArgument rfl hd_X4_requireArgument ⟨Nat.le_of_ble_eq_true rfl, Nat.le_of_ble_eq_true rfl⟩ ⟨Nat.le_of_ble_eq_true rfl, Nat.le_of_ble_eq_true rfl⟩ [] rfl (by decide) (Nat.le_of_ble_eq_true rfl) dX4_quickest_4) [0, 1, 2, 3, 4, 5, 6, 7, 8, 9, 10, 11, 12, 13, 14, 15, 16, 17, 18, 19, 20, 21, 22, 23, 24, 25, 26, 27, 28, 29, 30, 31, 32, 33, 34, 35, 36, 37] rfl (by decide) (fun E hE => ek_xout X hT ⟨if_neg c_1, hE.2⟩ ⟨Nat.le_of_ble_eq_true rfl, Nat.le_of_ble_eq_true rfl⟩) (fun hv => absurd hv (by decide))

abbrev rm_X4_longest : Room := { frames := 7, cells := 2, slots := 12, locals := 167 }
set_option maxHeartbeats 4000000 in
set_option maxRecDepth 100000 in
theorem c_X4_longest (l : Launch) (hl : l.stackTraces = false) (D : va_G) (cI cJ cR : ClassId) (ad : Nat → Nat) (cv : CavT) (g : SndT) (q : QueT) (u : CaveT) (h k : EchT) (hB : cOk u) (hI : sOk g q) (hK : hOk k) (he : vEar cv ≤ 50) (y : Nat) (b : Nat) (hy : y < 4294967296) (hb : b < 4294967296) : ek_MX (S := Unit) l yX4_longest wsX4_longest rm_X4_longest D (tyW cI cJ cR) nestW [.ref (ad 46), .int (nI y), .int (nI b)] (wV ad cI cJ cR cv g q u h k) (fun r9 _ => ∃ v : Int32, r9 = some (.int v) ∧ xLong y b = 0 ∧ v = nI (vLong u (vEar cv) y b 6 1 0 (g, q, k)).1) (fun _ => wV ad cI cJ cR cv (vLong u (vEar cv) y b 6 1 0 (g, q, k)).2.1 (vLong u (vEar cv) y b 6 1 0 (g, q, k)).2.2.1 u h (vLong u (vEar cv) y b 6 1 0 (g, q, k)).2.2.2) (fun E9 => (xLong y b = 1 ∧ E9 = eIA)) := by
  refine ek_MX.of (cc := cX4_longest) (maxL := 6) (ret := (some .int)) (by decide) rfl (Nat.le_of_ble_eq_true rfl) ?_
  intro p9 e9 s9 m9 args9 below9 meth9 c9 A X hZ hT
  obtain ⟨⟨hC1, hC2⟩, hPs, hWt, bWal, bHgt, bBat, bSyl, bDel, bDrs, bFrm, bTo, bLen, bNar, bPb⟩ := id hB
  refine ek_castL (lv' := [(0, .ref (ad 46)), (1, .int (nI y)), (2, .int (nI b))]) rfl ?_
  refine ek_iln X 1 rfl dX4_longest_0 ?_
  refine ek_ic (v := nI 1) X (by decide) dX4_longest_1 ?_
  refine ek_bp (v := nI 9) X (by decide) dX4_longest_2 ?_
  refine ek_doRi (ek_runS (As := [.int (nI y), .int (nI 1), .int (nI 9)]) (rest := []) X (c_X4_isWithinN l D cI cJ cR y 1 9 (by omega) (by omega) (by omega)) gX4_longest_X4_isWithin rfl hd_X4_isWithin ⟨Nat.le_of_ble_eq_true rfl, Nat.le_of_ble_eq_true rfl⟩ ⟨Nat.le_of_ble_eq_true rfl, Nat.le_of_ble_eq_true rfl⟩ [] rfl (by decide) (Nat.le_of_ble_eq_true rfl) dX4_longest_4) (fun v_4 hv_4 => ?_)
  subst hv_4
  by_cases c_4 : 1 ≤ y ∧ y ≤ 9
  · refine ek_top (v' := nI 1) (congrArg nI (if_pos c_4)) ?_
    refine ek_doXv X (ek_runSX (As := [.int (nI 1)]) (rest := []) X hZ (c_X4_requireArgument l hl D cI cJ cR 1 (by omega)) gX4_longest_X4_requireArgument rfl hd_X4_requireArgument ⟨Nat.le_of_ble_eq_true rfl, Nat.le_of_ble_eq_true rfl⟩ ⟨Nat.le_of_ble_eq_true rfl, Nat.le_of_ble_eq_true rfl⟩ [] rfl (by decide) (Nat.le_of_ble_eq_true rfl) dX4_longest_7) [0, 1, 2, 3, 4, 5, 6, 7, 8, 9, 10, 11, 12, 13, 14, 15, 16, 17, 18, 19, 20, 21, 22, 23, 24, 25, 26, 27, 28, 29, 30, 31, 32, 33, 34, 35, 36, 37] rfl (by decide) (fun E hE => absurd hE.1 (by decide)) (fun _ => ?_)
    refine ek_iln X 2 rfl dX4_longest_10 ?_
    refine ek_ic (v := nI 1) X (by decide) dX4_longest_11 ?_
    refine ek_bp (v := nI 20) X (by decide) dX4_longest_12 ?_
    refine ek_doRi (ek_runS (As := [.int (nI b), .int (nI 1), .int (nI 20)]) (rest := []) X (c_X4_isWithinN l D cI cJ cR b 1 20 (by omega) (by omega) (by omega)) gX4_longest_X4_isWithin rfl hd_X4_isWithin ⟨Nat.le_of_ble_eq_true rfl, Nat.le_of_ble_eq_true rfl⟩ ⟨Nat.le_of_ble_eq_true rfl, Nat.le_of_ble_eq_true rfl⟩ [] rfl (by decide) (Nat.le_of_ble_eq_true rfl) dX4_longest_14) (fun v_14 hv_14 => ?_)
    subst hv_14
    by_cases c_14 : 1 ≤ b ∧ b ≤ 20
    · refine ek_top (v' := nI 1) (congrArg nI (if_pos c_14)) ?_
      refine ek_doXv X (ek_runSX (As := [.int (nI 1)]) (rest := []) X hZ (c_X4_requireArgument l hl D cI cJ cR 1 (by omega)) gX4_longest_X4_requireArgument rfl hd_X4_requireArgument ⟨Nat.le_of_ble_eq_true rfl, Nat.le_of_ble_eq_true rfl⟩ ⟨Nat.le_of_ble_eq_true rfl, Nat.le_of_ble_eq_true rfl⟩ [] rfl (by decide) (Nat.le_of_ble_eq_true rfl) dX4_longest_17) [0, 1, 2, 3, 4, 5, 6, 7, 8, 9, 10, 11, 12, 13, 14, 15, 16, 17, 18, 19, 20, 21, 22, 23, 24, 25, 26, 27, 28, 29, 30, 31, 32, 33, 34, 35, 36, 37] rfl (by decide) (fun E hE => absurd hE.1 (by decide)) (fun _ => ?_)
      refine ek_ic (v := nI 0) X (by decide) dX4_longest_20 ?_
      refine ek_isn (lv' := [(3, .int (nI 0)), (0, .ref (ad 46)), (1, .int (nI y)), (2, .int (nI b))]) X (by decide) rfl dX4_longest_21 ?_
      refine ek_ic (v := nI 0) X (by decide) dX4_longest_22 ?_
      refine ek_is (lv' := [(4, .int (nI 0)), (3, .int (nI 0)), (0, .ref (ad 46)), (1, .int (nI y)), (2, .int (nI b))]) X (by decide) rfl dX4_longest_23 ?_
      refine ek_ic (v := nI 1) X (by decide) dX4_longest_25 ?_
      refine ek_is (lv' := [(5, .int (nI 1)), (4, .int (nI 0)), (3, .int (nI 0)), (0, .ref (ad 46)), (1, .int (nI y)), (2, .int (nI b))]) X (by decide) rfl dX4_longest_26 ?_
      refine ek_loopAt (σ := Nat × Nat × Nat × SndT × QueT × EchT) (fun zz => (fun (wd : Nat) (best : Nat) (t : Nat) (g1 : SndT) (q1 : QueT) (k1 : EchT) => (1 ≤ t ∧ t ≤ 7) ∧ wd * 10 + y = rep y t ∧ sOk g1 q1 ∧ hOk k1 ∧ vLong u (vEar cv) y b (7 - t) t best (g1, q1, k1) = vLong u (vEar cv) y b 6 1 0 (g, q, k)) zz.1 zz.2.1 zz.2.2.1 zz.2.2.2.1 zz.2.2.2.2.1 zz.2.2.2.2.2) (fun zz => (fun (wd : Nat) (best : Nat) (t : Nat) (g1 : SndT) (q1 : QueT) (k1 : EchT) => 7 - t) zz.1 zz.2.1 zz.2.2.1 zz.2.2.2.1 zz.2.2.2.2.1 zz.2.2.2.2.2) (fun zz => (fun (wd : Nat) (best : Nat) (t : Nat) (g1 : SndT) (q1 : QueT) (k1 : EchT) => wV ad cI cJ cR cv g1 q1 u h k1) zz.1 zz.2.1 zz.2.2.1 zz.2.2.2.1 zz.2.2.2.2.1 zz.2.2.2.2.2) (fun zz => (fun (wd : Nat) (best : Nat) (t : Nat) (g1 : SndT) (q1 : QueT) (k1 : EchT) => [(0, .ref (ad 46)), (1, .int (nI y)), (2, .int (nI b)), (3, .int (nI wd)), (4, .int (nI best)), (5, .int (nI t))]) zz.1 zz.2.1 zz.2.2.1 zz.2.2.2.1 zz.2.2.2.2.1 zz.2.2.2.2.2) ?_ (0, 0, 1, g, q, k) ⟨⟨Nat.le_refl 1, (by decide : 1 ≤ 7)⟩, (by show 0 * 10 + y = 10 * 0 + y; omega), hI, hK, rfl⟩ rfl [3, 4, 5, 2, 1, 0] rfl
      intro zz ha_28 ih_28
      obtain ⟨wd, best, t, g1, q1, k1⟩ := zz
      replace ha_28 : (1 ≤ t ∧ t ≤ 7) ∧ wd * 10 + y = rep y t ∧ sOk g1 q1 ∧ hOk k1 ∧ vLong u (vEar cv) y b (7 - t) t best (g1, q1, k1) = vLong u (vEar cv) y b 6 1 0 (g, q, k) := ha_28
      refine ek_cast (w' := wV ad cI cJ cR cv g1 q1 u h k1) rfl ?_
      refine ek_castL (lv' := [(0, .ref (ad 46)), (1, .int (nI y)), (2, .int (nI b)), (3, .int (nI wd)), (4, .int (nI best)), (5, .int (nI t))]) rfl ?_
      refine ek_il X 5 rfl dX4_longest_28 ?_
      refine ek_bp (v := nI 6) X (by decide) dX4_longest_30 ?_
      refine ek_Ngt X (by omega) (by omega) 61 (by decide) dX4_longest_32 (fun c_32 => ?_) (fun c_32 => ?_)
      · skip
        refine ek_il X 4 rfl dX4_longest_61 ?_
        refine ek_ret ?_
        refine ek_widen (k' := 2) (n' := 12) (Nat.le_of_ble_eq_true rfl) (Nat.le_of_ble_eq_true rfl) ?_
        exact ek_reti X () ⟨_, rfl, ⟨(by unfold xLong; (repeat' split) <;> first | rfl | omega | (exfalso; omega)), (by obtain ⟨h1, h2, h3, h4, h5⟩ := ha_28; rw [← h5, show 7 - t = 0 by omega]; rfl)⟩⟩ (by obtain ⟨h1, h2, h3, h4, h5⟩ := ha_28; rw [← h5, show 7 - t = 0 by omega]; rfl) dX4_longest_63
      · skip
        refine ek_iln X 3 rfl dX4_longest_35 ?_
        refine ek_bp (v := nI 10) X (by decide) dX4_longest_36 ?_
        refine ek_Nmul X dX4_longest_38 ?_
        refine ek_iln X 1 rfl dX4_longest_39 ?_
        refine ek_Nadd X dX4_longest_40 ?_
        refine ek_isn (lv' := [(3, .int (nI ((wd * 10) + y))), (0, .ref (ad 46)), (1, .int (nI y)), (2, .int (nI b)), (4, .int (nI best)), (5, .int (nI t))]) X (by decide) rfl dX4_longest_41 ?_
        refine ek_aln X 1 rfl dX4_longest_42 ?_
        refine ek_iln X 0 rfl dX4_longest_43 ?_
        refine ek_iln X 3 rfl dX4_longest_44 ?_
        have hwk : wdOk (wd * 10 + y) := (by rw [ha_28.2.1]; exact rep_ok y (by omega) (by omega) t (by omega) (by omega))
        refine ek_doWi X (ek_runV (As := [.int (nI ((wd * 10) + y)), .int (nI b)]) (rest := []) X (c_X4_wouldComeInOrder l D cI cJ cR ad cv g1 q1 u h k1 hB ha_28.2.2.1 ha_28.2.2.2.1 he ((wd * 10) + y) b hwk.1.2 hwk.1.1 (by omega)) gX4_longest_X4_wouldComeInOrder rfl hdV_X4_wouldComeInOrder ⟨Nat.le_of_ble_eq_true rfl, Nat.le_of_ble_eq_true rfl⟩ ⟨Nat.le_of_ble_eq_true rfl, Nat.le_of_ble_eq_true rfl⟩ [0, 1, 2, 3, 4, 5, 6, 7, 8, 9, 10, 11, 12, 13, 14, 15, 16, 17, 18, 19, 20, 21, 22, 23, 24, 25, 26, 27, 28, 29, 30, 31, 32, 33, 34, 35, 36, 37] rfl (by decide) 0 4 rfl rfl (Nat.le_of_ble_eq_true rfl) dX4_longest_45) [0, 1, 2, 3, 4, 5, 6, 7, 8, 9, 10, 11, 12, 13, 14, 15, 16, 17, 18, 19, 20, 21, 22, 23, 24, 25, 26, 27, 28, 29, 30, 31, 32, 33, 34, 35, 36, 37] [] rfl rfl (by decide) (by decide) (fun _ => wV ad cI cJ cR cv (gThrough u ((wd * 10) + y) b (vEar cv) g1 q1 k1).1 (gThrough u ((wd * 10) + y) b (vEar cv) g1 q1 k1).2.1 u h (gThrough u ((wd * 10) + y) b (vEar cv) g1 q1 k1).2.2) [0, 1, 2, 3, 4, 5, 6, 7, 8, 9, 10, 11, 12, 13, 14, 15, 16, 17, 18, 19, 20, 21, 22, 23, 24, 25, 26, 27, 28, 29, 30, 31, 32, 33, 34, 35, 36, 37] (by decide) (fun _ => rfl) (fun v_45 u_45 hv_45 => ?_)
        subst hv_45
        by_cases c_45 : hIn (gThrough u ((wd * 10) + y) b (vEar cv) g1 q1 k1).2.2
        · refine ek_top (v' := nI 1) (congrArg nI (if_pos c_45)) ?_
          refine ek_Zeq X (by omega) 55 (by decide) dX4_longest_48 (fun h => absurd h (by omega)) (fun _ => ?_)
          refine ek_il X 5 rfl dX4_longest_51 ?_
          refine ek_is (lv' := [(4, .int (nI t)), (3, .int (nI ((wd * 10) + y))), (0, .ref (ad 46)), (1, .int (nI y)), (2, .int (nI b)), (5, .int (nI t))]) X (by decide) rfl dX4_longest_53 ?_
          refine ek_Ninc (j := 5) (d := 1) (lv' := [(5, .int (nI (t + 1))), (4, .int (nI t)), (3, .int (nI ((wd * 10) + y))), (0, .ref (ad 46)), (1, .int (nI y)), (2, .int (nI b))]) X rfl (by decide) rfl dX4_longest_55 ?_
          refine ek_goto X 28 (by decide) dX4_longest_58 ?_
          refine ek_re [3, 4, 5, 2, 1, 0] rfl ?_
          exact ih_28 ((wd * 10) + y, t, t + 1, (gThrough u ((wd * 10) + y) b (vEar cv) g1 q1 k1).1, (gThrough u ((wd * 10) + y) b (vEar cv) g1 q1 k1).2.1, (gThrough u ((wd * 10) + y) b (vEar cv) g1 q1 k1).2.2) (show (1 ≤ (t + 1) ∧ (t + 1) ≤ 7) ∧ ((wd * 10) + y) * 10 + y = rep y (t + 1) ∧ sOk ((gThrough u ((wd * 10) + y) b (vEar cv) g1 q1 k1).1) ((gThrough u ((wd * 10) + y) b (vEar cv) g1 q1 k1).2.1) ∧ hOk ((gThrough u ((wd * 10) + y) b (vEar cv) g1 q1 k1).2.2) ∧ vLong u (vEar cv) y b (7 - (t + 1)) (t + 1) t (((gThrough u ((wd * 10) + y) b (vEar cv) g1 q1 k1).1), ((gThrough u ((wd * 10) + y) b (vEar cv) g1 q1 k1).2.1), ((gThrough u ((wd * 10) + y) b (vEar cv) g1 q1 k1).2.2)) = vLong u (vEar cv) y b 6 1 0 (g, q, k) from (by obtain ⟨h1, h2, h3, h4, h5⟩ := ha_28; obtain ⟨z1, z2⟩ := gThrough_ok (w := wd * 10 + y) (b := b) hB h3 h4 (by omega) he; refine ⟨by omega, (by show (wd * 10 + y) * 10 + y = 10 * rep y t + y; rw [h2]; omega), z1, z2, ?_⟩; rw [← h5, show 7 - t = (7 - (t + 1)) + 1 by omega]; show _ = vLong u (vEar cv) y b (7 - (t + 1)) (t + 1) (if hIn (gThrough u (rep y t) b (vEar cv) g1 q1 k1).2.2 then t else best) (gThrough u (rep y t) b (vEar cv) g1 q1 k1); rw [← h2]; first | (rw [if_pos (by assumption)]; try rfl) | (rw [if_neg (by assumption)]; try rfl))) (by show 7 - (t + 1) < 7 - t; omega)
        · refine ek_top (v' := nI 0) (congrArg nI (if_neg c_45)) ?_
          refine ek_Zeq X (by omega) 55 (by decide) dX4_longest_48 (fun _ => ?_) (fun h => absurd h (by omega))
          refine ek_Ninc (j := 5) (d := 1) (lv' := [(5, .int (nI (t + 1))), (3, .int (nI ((wd * 10) + y))), (0, .ref (ad 46)), (1, .int (nI y)), (2, .int (nI b)), (4, .int (nI best))]) X rfl (by decide) rfl dX4_longest_55 ?_
          refine ek_goto X 28 (by decide) dX4_longest_58 ?_
          refine ek_re [2, 3, 4, 1, 5, 0] rfl ?_
          exact ih_28 ((wd * 10) + y, best, t + 1, (gThrough u ((wd * 10) + y) b (vEar cv) g1 q1 k1).1, (gThrough u ((wd * 10) + y) b (vEar cv) g1 q1 k1).2.1, (gThrough u ((wd * 10) + y) b (vEar cv) g1 q1 k1).2.2) (show (1 ≤ (t + 1) ∧ (t + 1) ≤ 7) ∧ ((wd * 10) + y) * 10 + y = rep y (t + 1) ∧ sOk ((gThrough u ((wd * 10) + y) b (vEar cv) g1 q1 k1).1) ((gThrough u ((wd * 10) + y) b (vEar cv) g1 q1 k1).2.1) ∧ hOk ((gThrough u ((wd * 10) + y) b (vEar cv) g1 q1 k1).2.2) ∧ vLong u (vEar cv) y b (7 - (t + 1)) (t + 1) best (((gThrough u ((wd * 10) + y) b (vEar cv) g1 q1 k1).1), ((gThrough u ((wd * 10) + y) b (vEar cv) g1 q1 k1).2.1), ((gThrough u ((wd * 10) + y) b (vEar cv) g1 q1 k1).2.2)) = vLong u (vEar cv) y b 6 1 0 (g, q, k) from (by obtain ⟨h1, h2, h3, h4, h5⟩ := ha_28; obtain ⟨z1, z2⟩ := gThrough_ok (w := wd * 10 + y) (b := b) hB h3 h4 (by omega) he; refine ⟨by omega, (by show (wd * 10 + y) * 10 + y = 10 * rep y t + y; rw [h2]; omega), z1, z2, ?_⟩; rw [← h5, show 7 - t = (7 - (t + 1)) + 1 by omega]; show _ = vLong u (vEar cv) y b (7 - (t + 1)) (t + 1) (if hIn (gThrough u (rep y t) b (vEar cv) g1 q1 k1).2.2 then t else best) (gThrough u (rep y t) b (vEar cv) g1 q1 k1); rw [← h2]; first | (rw [if_pos (by assumption)]; try rfl) | (rw [if_neg (by assumption)]; try rfl))) (by show 7 - (t + 1) < 7 - t; omega)
    · refine ek_top (v' := nI 0) (congrArg nI (if_neg c_14)) ?_
      exact ek_doXv X (ek_runSX (As := [.int (nI 0)]) (rest := []) X hZ (c_X4_requireArgument l hl D cI cJ cR 0 (by omega)) gX4_longest_X4_requireArgument rfl hd_X4_requireArgument ⟨Nat.le_of_ble_eq_true rfl, Nat.le_of_ble_eq_true rfl⟩ ⟨Nat.le_of_ble_eq_true rfl, Nat.le_of_ble_eq_true rfl⟩ [] rfl (by decide) (Nat.le_of_ble_eq_true rfl) dX4_longest_17) [0, 1, 2, 3, 4, 5, 6, 7, 8, 9, 10, 11, 12, 13, 14, 15, 16, 17, 18, 19, 20, 21, 22, 23, 24, 25, 26, 27, 28, 29, 30, 31, 32, 33, 34, 35, 36, 37] rfl (by decide) (fun E hE => ek_xout X hT (⟨(by unfold xLong; (repeat' split) <;> first | rfl | omega | (exfalso; omega)), hE.2⟩) ⟨Nat.le_of_ble_eq_true rfl, Nat.le_of_ble_eq_true rfl⟩) (fun hv => absurd hv (by decide))
  · refine ek_top (v' := nI 0) (congrArg nI (if_neg c_4)) ?_
    exact ek_doXv X (ek_runSX (As := [.int (nI 0)]) (rest := []) X hZ (c_X4_requireArgument l hl D cI cJ cR 0 (by omega)) gX4_longest_X4_requireArgument rfl hd_X4_requireArgument ⟨Nat.le_of_ble_eq_true rfl, Nat.le_of_ble_eq_true rfl⟩ ⟨Nat.le_of_ble_eq_true rfl, Nat.le_of_ble_eq_true rfl⟩ [] rfl (by decide) (Nat.le_of_ble_eq_true rfl) dX4_longest_7) [0, 1, 2, 3, 4, 5, 6, 7, 8, 9, 10, 11, 12, 13, 14, 15, 16, 17, 18, 19, 20, 21, 22, 23, 24, 25, 26, 27, 28, 29, 30, 31, 32, 33, 34, 35, 36, 37] rfl (by decide) (fun E hE => ek_xout X hT (⟨(by unfold xLong; (repeat' split) <;> first | rfl | omega | (exfalso; omega)), hE.2⟩) ⟨Nat.le_of_ble_eq_true rfl, Nat.le_of_ble_eq_true rfl⟩) (fun hv => absurd hv (by decide))

theorem hin_X4_advise_X0 : ∀ x ∈ wsX00, x ∈ wsX4_advise := fun x h => List.mem_cons_of_mem _ (List.mem_append_left _ (List.mem_append_left _ (List.mem_append_left _ (List.mem_append_left _ (List.mem_append_right _ h)))))
theorem hin_X4_advise_X4 : ∀ x ∈ wsX40, x ∈ wsX4_advise := fun x h => List.mem_cons_of_mem _ (List.mem_append_left _ (List.mem_append_left _ (List.mem_append_left _ (List.mem_append_left _ (List.mem_append_left _ (List.mem_append_right _ h))))))
abbrev rm_X4_advise : Room := { frames := 8, cells := 4, slots := 24, locals := 167 }
set_option maxHeartbeats 4000000 in
set_option maxRecDepth 100000 in
theorem c_X4_advise (l : Launch) (hl : l.stackTraces = false) (D : va_G) (cI cJ cR : ClassId) (ad : Nat → Nat) (cv : CavT) (g : SndT) (q : QueT) (u : CaveT) (h k : EchT) (hB : cOk u) (hI : sOk g q) (hK : hOk k) (he : vEar cv ≤ 50) (w : Nat) (b : Nat) (y : Nat) (d : Nat) (hw : w < 4294967296) (hb : b < 4294967296) (hy : y < 4294967296) (hd : d < 4294967296) : ek_MX (S := Unit) l yX4_advise wsX4_advise rm_X4_advise D (tyW cI cJ cR) nestW [.ref (ad 46), .int (nI w), .int (nI b), .int (nI y), .int (nI d)] (wV ad cI cJ cR cv g q u h k) (fun r9 _ => ∃ v : Int32, r9 = some (.int v) ∧ xAdv w b y d = 0 ∧ v = (vAdv (vEar cv) w b y d (cC u - 1) 1 (u, g, q, k)).1) (fun _ => wV ad cI cJ cR cv (vAdv (vEar cv) w b y d (cC u - 1) 1 (u, g, q, k)).2.2.1 (vAdv (vEar cv) w b y d (cC u - 1) 1 (u, g, q, k)).2.2.2.1 (vAdv (vEar cv) w b y d (cC u - 1) 1 (u, g, q, k)).2.1 h (vAdv (vEar cv) w b y d (cC u - 1) 1 (u, g, q, k)).2.2.2.2) (fun E9 => (xAdv w b y d = 1 ∧ E9 = eIA)) := by
  refine ek_MX.of (cc := cX4_advise) (maxL := 9) (ret := (some .int)) (by decide) rfl (Nat.le_of_ble_eq_true rfl) ?_
  intro p9 e9 s9 m9 args9 below9 meth9 c9 A X hZ hT
  obtain ⟨⟨hC1, hC2⟩, hPs, hWt, bWal, bHgt, bBat, bSyl, bDel, bDrs, bFrm, bTo, bLen, bNar, bPb⟩ := id hB
  refine ek_castL (lv' := [(0, .ref (ad 46)), (1, .int (nI w)), (2, .int (nI b)), (3, .int (nI y)), (4, .int (nI d))]) rfl ?_
  refine ek_iln X 1 rfl dX4_advise_0 ?_
  refine ek_iln X 2 rfl dX4_advise_1 ?_
  refine ek_doXv X (ek_runSX (As := [.int (nI w), .int (nI b)]) (rest := []) X hZ (c_X4_requireWordAndBeat l hl D cI cJ cR w b (by omega) (by omega)) gX4_advise_X4_requireWordAndBeat rfl hd_X4_requireWordAndBeat ⟨Nat.le_of_ble_eq_true rfl, Nat.le_of_ble_eq_true rfl⟩ ⟨Nat.le_of_ble_eq_true rfl, Nat.le_of_ble_eq_true rfl⟩ [] rfl (by decide) (Nat.le_of_ble_eq_true rfl) dX4_advise_2) [0, 1, 2, 3, 4, 5, 6, 7, 8, 9, 10, 11, 12, 13, 14, 15, 16, 17, 18, 19, 20, 21, 22, 23, 24, 25, 26, 27, 28, 29, 30, 31, 32, 33, 34, 35, 36, 37] rfl (by decide) (fun E hE => ek_xout X hT ⟨if_neg (fun h => hE.1 h.1), hE.2⟩ ⟨Nat.le_of_ble_eq_true rfl, Nat.le_of_ble_eq_true rfl⟩) (fun hv_2 => ?_)
  obtain ⟨⟨⟨hw1, hw2⟩, hw3⟩, hb1, hb2⟩ := id hv_2
  refine ek_iln X 3 rfl dX4_advise_5 ?_
  refine ek_ic (v := nI 1) X (by decide) dX4_advise_6 ?_
  refine ek_bp (v := nI 9) X (by decide) dX4_advise_7 ?_
  refine ek_doRi (ek_runS (As := [.int (nI y), .int (nI 1), .int (nI 9)]) (rest := []) X (c_X4_isWithinN l D cI cJ cR y 1 9 (by omega) (by omega) (by omega)) gX4_advise_X4_isWithin rfl hd_X4_isWithin ⟨Nat.le_of_ble_eq_true rfl, Nat.le_of_ble_eq_true rfl⟩ ⟨Nat.le_of_ble_eq_true rfl, Nat.le_of_ble_eq_true rfl⟩ [] rfl (by decide) (Nat.le_of_ble_eq_true rfl) dX4_advise_9) (fun v_9 hv_9 => ?_)
  subst hv_9
  by_cases c_9 : 1 ≤ y ∧ y ≤ 9
  · refine ek_top (v' := nI 1) (congrArg nI (if_pos c_9)) ?_
    refine ek_doXv X (ek_runSX (As := [.int (nI 1)]) (rest := []) X hZ (c_X4_requireArgument l hl D cI cJ cR 1 (by omega)) gX4_advise_X4_requireArgument rfl hd_X4_requireArgument ⟨Nat.le_of_ble_eq_true rfl, Nat.le_of_ble_eq_true rfl⟩ ⟨Nat.le_of_ble_eq_true rfl, Nat.le_of_ble_eq_true rfl⟩ [] rfl (by decide) (Nat.le_of_ble_eq_true rfl) dX4_advise_12) [0, 1, 2, 3, 4, 5, 6, 7, 8, 9, 10, 11, 12, 13, 14, 15, 16, 17, 18, 19, 20, 21, 22, 23, 24, 25, 26, 27, 28, 29, 30, 31, 32, 33, 34, 35, 36, 37] rfl (by decide) (fun E hE => absurd hE.1 (by decide)) (fun _ => ?_)
    refine ek_il X 4 rfl dX4_advise_15 ?_
    refine ek_ic (v := nI 0) X (by decide) dX4_advise_17 ?_
    refine ek_bp (v := nI 20) X (by decide) dX4_advise_18 ?_
    refine ek_doRi (ek_runS (As := [.int (nI d), .int (nI 0), .int (nI 20)]) (rest := []) X (c_X4_isWithinN l D cI cJ cR d 0 20 (by omega) (by omega) (by omega)) gX4_advise_X4_isWithin rfl hd_X4_isWithin ⟨Nat.le_of_ble_eq_true rfl, Nat.le_of_ble_eq_true rfl⟩ ⟨Nat.le_of_ble_eq_true rfl, Nat.le_of_ble_eq_true rfl⟩ [] rfl (by decide) (Nat.le_of_ble_eq_true rfl) dX4_advise_20) (fun v_20 hv_20 => ?_)
    subst hv_20
    by_cases c_20 : 0 ≤ d ∧ d ≤ 20
    · refine ek_top (v' := nI 1) (congrArg nI (if_pos c_20)) ?_
      refine ek_doXv X (ek_runSX (As := [.int (nI 1)]) (rest := []) X hZ (c_X4_requireArgument l hl D cI cJ cR 1 (by omega)) gX4_advise_X4_requireArgument rfl hd_X4_requireArgument ⟨Nat.le_of_ble_eq_true rfl, Nat.le_of_ble_eq_true rfl⟩ ⟨Nat.le_of_ble_eq_true rfl, Nat.le_of_ble_eq_true rfl⟩ [] rfl (by decide) (Nat.le_of_ble_eq_true rfl) dX4_advise_23) [0, 1, 2, 3, 4, 5, 6, 7, 8, 9, 10, 11, 12, 13, 14, 15, 16, 17, 18, 19, 20, 21, 22, 23, 24, 25, 26, 27, 28, 29, 30, 31, 32, 33, 34, 35, 36, 37] rfl (by decide) (fun E hE => absurd hE.1 (by decide)) (fun _ => ?_)
      refine ek_ic (v := nI 1) X (by decide) dX4_advise_26 ?_
      refine ek_is (lv' := [(5, .int (nI 1)), (0, .ref (ad 46)), (1, .int (nI w)), (2, .int (nI b)), (3, .int (nI y)), (4, .int (nI d))]) X (by decide) rfl dX4_advise_27 ?_
      refine ek_loopAt (σ := Nat × CaveT × SndT × QueT × EchT) (fun zz => (fun (c : Nat) (u1 : CaveT) (g1 : SndT) (q1 : QueT) (k1 : EchT) => (1 ≤ c ∧ c ≤ cC u) ∧ cOk u1 ∧ sOk g1 q1 ∧ hOk k1 ∧ cC u1 = cC u ∧ vAdv (vEar cv) w b y d (cC u - c) c (u1, g1, q1, k1) = vAdv (vEar cv) w b y d (cC u - 1) 1 (u, g, q, k)) zz.1 zz.2.1 zz.2.2.1 zz.2.2.2.1 zz.2.2.2.2) (fun zz => (fun (c : Nat) (u1 : CaveT) (g1 : SndT) (q1 : QueT) (k1 : EchT) => cC u - c) zz.1 zz.2.1 zz.2.2.1 zz.2.2.2.1 zz.2.2.2.2) (fun zz => (fun (c : Nat) (u1 : CaveT) (g1 : SndT) (q1 : QueT) (k1 : EchT) => wV ad cI cJ cR cv g1 q1 u1 h k1) zz.1 zz.2.1 zz.2.2.1 zz.2.2.2.1 zz.2.2.2.2) (fun zz => (fun (c : Nat) (u1 : CaveT) (g1 : SndT) (q1 : QueT) (k1 : EchT) => [(0, .ref (ad 46)), (1, .int (nI w)), (2, .int (nI b)), (3, .int (nI y)), (4, .int (nI d)), (5, .int (nI c))]) zz.1 zz.2.1 zz.2.2.1 zz.2.2.2.1 zz.2.2.2.2) ?_ (1, u, g, q, k) ⟨⟨Nat.le_refl 1, hC1⟩, hB, hI, hK, rfl, rfl⟩ rfl [1, 2, 3, 4, 5, 0] rfl
      intro zz ha_29 ih_29
      obtain ⟨c, u1, g1, q1, k1⟩ := zz
      replace ha_29 : (1 ≤ c ∧ c ≤ cC u) ∧ cOk u1 ∧ sOk g1 q1 ∧ hOk k1 ∧ cC u1 = cC u ∧ vAdv (vEar cv) w b y d (cC u - c) c (u1, g1, q1, k1) = vAdv (vEar cv) w b y d (cC u - 1) 1 (u, g, q, k) := ha_29
      refine ek_cast (w' := wV ad cI cJ cR cv g1 q1 u1 h k1) rfl ?_
      refine ek_castL (lv' := [(0, .ref (ad 46)), (1, .int (nI w)), (2, .int (nI b)), (3, .int (nI y)), (4, .int (nI d)), (5, .int (nI c))]) rfl ?_
      have hcc := ha_29.2.2.2.2.1
      obtain ⟨⟨hC1, hC2⟩, hPs, hWt, bWal, bHgt, bBat, bSyl, bDel, bDrs, bFrm, bTo, bLen, bNar, bPb⟩ := id ha_29.2.1
      have bsy := bSyl c
      refine ek_il X 5 rfl dX4_advise_29 ?_
      refine ek_aln X 0 rfl dX4_advise_31 ?_
      refine ek_get X hin_X4_advise_X4 0 rfl rfl 0 (by decide) (List.mem_of_getElem? (i := 1) rfl) rfl dX4_advise_32 ?_
      refine ek_getN X hin_X4_advise_X0 7 rfl rfl 0 (by decide) (List.mem_of_getElem? (i := 0) rfl) rfl dX4_advise_35 ?_
      refine ek_Nge X (by omega) (by omega) 112 (by decide) dX4_advise_38 (fun c_38 => ?_) (fun c_38 => ?_)
      · skip
        refine ek_ic (v := -1) X (by decide) dX4_advise_112 ?_
        refine ek_ret ?_
        refine ek_widen (k' := 4) (n' := 24) (Nat.le_of_ble_eq_true rfl) (Nat.le_of_ble_eq_true rfl) ?_
        exact ek_reti X () ⟨_, rfl, ⟨if_pos ⟨hv_2, c_9, c_20.2⟩, (by obtain ⟨⟨h0, h1⟩, h2, h3, h4, h5, h6⟩ := ha_29; rw [← h6, show cC u - c = 0 by omega]; rfl)⟩⟩ (by obtain ⟨⟨h0, h1⟩, h2, h3, h4, h5, h6⟩ := ha_29; rw [← h6, show cC u - c = 0 by omega]; rfl) dX4_advise_113
      · skip
        refine ek_aln X 0 rfl dX4_advise_41 ?_
        refine ek_get X hin_X4_advise_X4 0 rfl rfl 0 (by decide) (List.mem_of_getElem? (i := 1) rfl) rfl dX4_advise_42 ?_
        refine ek_getN X hin_X4_advise_X0 7 rfl rfl 4 (by decide) (List.mem_of_getElem? (i := 3) rfl) rfl dX4_advise_45 ?_
        refine ek_il X 5 rfl dX4_advise_48 ?_
        refine ek_ald X 11 0 rfl rfl (by omega) (by omega) dX4_advise_50 ?_
        have b1_50 := bSyl c
        refine ek_is (lv' := [(6, .int (nI ((cSyl u1) c))), (0, .ref (ad 46)), (1, .int (nI w)), (2, .int (nI b)), (3, .int (nI y)), (4, .int (nI d)), (5, .int (nI c))]) X (by decide) rfl dX4_advise_51 ?_
        refine ek_aln X 1 rfl dX4_advise_53 ?_
        refine ek_get X hin_X4_advise_X4 0 rfl rfl 0 (by decide) (List.mem_of_getElem? (i := 1) rfl) rfl dX4_advise_54 ?_
        refine ek_getN X hin_X4_advise_X0 7 rfl rfl 5 (by decide) (List.mem_of_getElem? (i := 5) rfl) rfl dX4_advise_57 ?_
        refine ek_il X 6 rfl dX4_advise_60 ?_
        refine ek_ald X 12 0 rfl rfl (by omega) (by omega) dX4_advise_62 ?_
        have b2_62 := bDel c
        refine ek_is (lv' := [(7, .int (nI ((cDel u1) c))), (6, .int (nI ((cSyl u1) c))), (0, .ref (ad 46)), (1, .int (nI w)), (2, .int (nI b)), (3, .int (nI y)), (4, .int (nI d)), (5, .int (nI c))]) X (by decide) rfl dX4_advise_63 ?_
        refine ek_aln X 2 rfl dX4_advise_65 ?_
        refine ek_get X hin_X4_advise_X4 0 rfl rfl 0 (by decide) (List.mem_of_getElem? (i := 1) rfl) rfl dX4_advise_66 ?_
        refine ek_il X 7 rfl dX4_advise_69 ?_
        refine ek_iln X 5 rfl dX4_advise_71 ?_
        refine ek_il X 6 rfl dX4_advise_72 ?_
        refine ek_doWv X (ek_runV (As := [.int (nI c), .int (nI y), .int (nI d)]) (rest := []) X (c_X0_putClapper l D cI cJ cR ad u1 c y d (by omega) (by omega)) gX4_advise_X0_putClapper rfl hdV_X0_putClapper ⟨Nat.le_of_ble_eq_true rfl, Nat.le_of_ble_eq_true rfl⟩ ⟨Nat.le_of_ble_eq_true rfl, Nat.le_of_ble_eq_true rfl⟩ [7, 8, 9, 10, 11, 12, 13, 14, 15, 16, 17, 18, 19, 20, 21, 22, 23, 24, 25, 26, 27, 28, 29, 30, 31] rfl (by decide) 0 0 rfl rfl (Nat.le_of_ble_eq_true rfl) dX4_advise_74) [7, 8, 9, 10, 11, 12, 13, 14, 15, 16, 17, 18, 19, 20, 21, 22, 23, 24, 25, 26, 27, 28, 29, 30, 31] [0, 1, 2, 3, 4, 5, 6, 32, 33, 34, 35, 36, 37] rfl rfl (by decide) (by decide) (fun _ => wV ad cI cJ cR cv g1 q1 (cClap u1 c y d) h k1) [0, 1, 2, 3, 4, 5, 6, 13, 14, 15, 16, 17, 18, 19, 20, 21, 22, 23, 24, 25, 26, 27, 28, 29, 30, 31, 32, 33, 34, 35, 36, 37, 7, 8, 9, 10, 11, 12] (by decide) (fun _ => rfl) (fun u_74 hv_74 => ?_)
        refine ek_aln X 2 rfl dX4_advise_77 ?_
        refine ek_iln X 3 rfl dX4_advise_78 ?_
        refine ek_iln X 4 rfl dX4_advise_79 ?_
        have hB := cClap_ok ha_29.2.1 (c := c) (y := y) (d := d) (by omega) (by omega)
        refine ek_doWi X (ek_runV (As := [.int (nI w), .int (nI b)]) (rest := []) X (c_X4_wouldComeInOrder l D cI cJ cR ad cv g1 q1 ((cClap u1 c y d)) h k1 hB ha_29.2.2.1 ha_29.2.2.2.1 he w b hw2 hw1 hb2) gX4_advise_X4_wouldComeInOrder rfl hdV_X4_wouldComeInOrder ⟨Nat.le_of_ble_eq_true rfl, Nat.le_of_ble_eq_true rfl⟩ ⟨Nat.le_of_ble_eq_true rfl, Nat.le_of_ble_eq_true rfl⟩ [0, 1, 2, 3, 4, 5, 6, 7, 8, 9, 10, 11, 12, 13, 14, 15, 16, 17, 18, 19, 20, 21, 22, 23, 24, 25, 26, 27, 28, 29, 30, 31, 32, 33, 34, 35, 36, 37] rfl (by decide) 0 4 rfl rfl (Nat.le_of_ble_eq_true rfl) dX4_advise_80) [0, 1, 2, 3, 4, 5, 6, 7, 8, 9, 10, 11, 12, 13, 14, 15, 16, 17, 18, 19, 20, 21, 22, 23, 24, 25, 26, 27, 28, 29, 30, 31, 32, 33, 34, 35, 36, 37] [] rfl rfl (by decide) (by decide) (fun _ => wV ad cI cJ cR cv (gThrough ((cClap u1 c y d)) w b (vEar cv) g1 q1 k1).1 (gThrough ((cClap u1 c y d)) w b (vEar cv) g1 q1 k1).2.1 (cClap u1 c y d) h (gThrough ((cClap u1 c y d)) w b (vEar cv) g1 q1 k1).2.2) [0, 1, 2, 3, 4, 5, 6, 7, 8, 9, 10, 11, 12, 13, 14, 15, 16, 17, 18, 19, 20, 21, 22, 23, 24, 25, 26, 27, 28, 29, 30, 31, 32, 33, 34, 35, 36, 37] (by decide) (fun _ => rfl) (fun v_80 u_80 hv_80 => ?_)
        subst hv_80
        by_cases c_80 : hIn (gThrough ((cClap u1 c y d)) w b (vEar cv) g1 q1 k1).2.2
        · refine ek_top (v' := nI 1) (congrArg nI (if_pos c_80)) ?_
          refine ek_is (lv' := [(8, .int (nI 1)), (7, .int (nI ((cDel u1) c))), (6, .int (nI ((cSyl u1) c))), (0, .ref (ad 46)), (1, .int (nI w)), (2, .int (nI b)), (3, .int (nI y)), (4, .int (nI d)), (5, .int (nI c))]) X (by decide) rfl dX4_advise_83 ?_
          refine ek_aln X 3 rfl dX4_advise_85 ?_
          refine ek_get X hin_X4_advise_X4 0 rfl rfl 0 (by decide) (List.mem_of_getElem? (i := 1) rfl) rfl dX4_advise_86 ?_
          refine ek_il X 8 rfl dX4_advise_89 ?_
          refine ek_il X 2 rfl dX4_advise_91 ?_
          refine ek_il X 1 rfl dX4_advise_93 ?_
          refine ek_doWv X (ek_runV (As := [.int (nI c), .int (nI ((cSyl u1) c)), .int (nI ((cDel u1) c))]) (rest := []) X (c_X0_putClapper l D cI cJ cR ad ((cClap u1 c y d)) c ((cSyl u1) c) ((cDel u1) c) (by omega) (by omega)) gX4_advise_X0_putClapper rfl hdV_X0_putClapper ⟨Nat.le_of_ble_eq_true rfl, Nat.le_of_ble_eq_true rfl⟩ ⟨Nat.le_of_ble_eq_true rfl, Nat.le_of_ble_eq_true rfl⟩ [7, 8, 9, 10, 11, 12, 13, 14, 15, 16, 17, 18, 19, 20, 21, 22, 23, 24, 25, 26, 27, 28, 29, 30, 31] rfl (by decide) 0 0 rfl rfl (Nat.le_of_ble_eq_true rfl) dX4_advise_95) [7, 8, 9, 10, 11, 12, 13, 14, 15, 16, 17, 18, 19, 20, 21, 22, 23, 24, 25, 26, 27, 28, 29, 30, 31] [0, 1, 2, 3, 4, 5, 6, 32, 33, 34, 35, 36, 37] rfl rfl (by decide) (by decide) (fun _ => wV ad cI cJ cR cv (gThrough ((cClap u1 c y d)) w b (vEar cv) g1 q1 k1).1 (gThrough ((cClap u1 c y d)) w b (vEar cv) g1 q1 k1).2.1 (cClap ((cClap u1 c y d)) c ((cSyl u1) c) ((cDel u1) c)) h (gThrough ((cClap u1 c y d)) w b (vEar cv) g1 q1 k1).2.2) [0, 1, 2, 3, 4, 5, 6, 13, 14, 15, 16, 17, 18, 19, 20, 21, 22, 23, 24, 25, 26, 27, 28, 29, 30, 31, 32, 33, 34, 35, 36, 37, 7, 8, 9, 10, 11, 12] (by decide) (fun _ => rfl) (fun u_95 hv_95 => ?_)
          refine ek_il X 0 rfl dX4_advise_98 ?_
          refine ek_Zeq X (by omega) 106 (by decide) dX4_advise_100 (fun h => absurd h (by omega)) (fun _ => ?_)
          refine ek_il X 8 rfl dX4_advise_103 ?_
          refine ek_ret ?_
          refine ek_widen (k' := 4) (n' := 24) (Nat.le_of_ble_eq_true rfl) (Nat.le_of_ble_eq_true rfl) ?_
          exact ek_reti X () ⟨_, rfl, ⟨if_pos ⟨hv_2, c_9, c_20.2⟩, (by obtain ⟨⟨h0, h1⟩, h2, h3, h4, h5, h6⟩ := ha_29; rw [← h6, show cC u - c = (cC u - c - 1) + 1 by omega, show vAdv (vEar cv) w b y d ((cC u - c - 1) + 1) c (u1, g1, q1, k1) = (nI c, cBack u1 c y d, gThrough (cClap u1 c y d) w b (vEar cv) g1 q1 k1) from if_pos (by assumption)])⟩⟩ (by obtain ⟨⟨h0, h1⟩, h2, h3, h4, h5, h6⟩ := ha_29; rw [← h6, show cC u - c = (cC u - c - 1) + 1 by omega, show vAdv (vEar cv) w b y d ((cC u - c - 1) + 1) c (u1, g1, q1, k1) = (nI c, cBack u1 c y d, gThrough (cClap u1 c y d) w b (vEar cv) g1 q1 k1) from if_pos (by assumption)]; try rfl) dX4_advise_105
        · refine ek_top (v' := nI 0) (congrArg nI (if_neg c_80)) ?_
          refine ek_is (lv' := [(8, .int (nI 0)), (7, .int (nI ((cDel u1) c))), (6, .int (nI ((cSyl u1) c))), (0, .ref (ad 46)), (1, .int (nI w)), (2, .int (nI b)), (3, .int (nI y)), (4, .int (nI d)), (5, .int (nI c))]) X (by decide) rfl dX4_advise_83 ?_
          refine ek_aln X 3 rfl dX4_advise_85 ?_
          refine ek_get X hin_X4_advise_X4 0 rfl rfl 0 (by decide) (List.mem_of_getElem? (i := 1) rfl) rfl dX4_advise_86 ?_
          refine ek_il X 8 rfl dX4_advise_89 ?_
          refine ek_il X 2 rfl dX4_advise_91 ?_
          refine ek_il X 1 rfl dX4_advise_93 ?_
          refine ek_doWv X (ek_runV (As := [.int (nI c), .int (nI ((cSyl u1) c)), .int (nI ((cDel u1) c))]) (rest := []) X (c_X0_putClapper l D cI cJ cR ad ((cClap u1 c y d)) c ((cSyl u1) c) ((cDel u1) c) (by omega) (by omega)) gX4_advise_X0_putClapper rfl hdV_X0_putClapper ⟨Nat.le_of_ble_eq_true rfl, Nat.le_of_ble_eq_true rfl⟩ ⟨Nat.le_of_ble_eq_true rfl, Nat.le_of_ble_eq_true rfl⟩ [7, 8, 9, 10, 11, 12, 13, 14, 15, 16, 17, 18, 19, 20, 21, 22, 23, 24, 25, 26, 27, 28, 29, 30, 31] rfl (by decide) 0 0 rfl rfl (Nat.le_of_ble_eq_true rfl) dX4_advise_95) [7, 8, 9, 10, 11, 12, 13, 14, 15, 16, 17, 18, 19, 20, 21, 22, 23, 24, 25, 26, 27, 28, 29, 30, 31] [0, 1, 2, 3, 4, 5, 6, 32, 33, 34, 35, 36, 37] rfl rfl (by decide) (by decide) (fun _ => wV ad cI cJ cR cv (gThrough ((cClap u1 c y d)) w b (vEar cv) g1 q1 k1).1 (gThrough ((cClap u1 c y d)) w b (vEar cv) g1 q1 k1).2.1 (cClap ((cClap u1 c y d)) c ((cSyl u1) c) ((cDel u1) c)) h (gThrough ((cClap u1 c y d)) w b (vEar cv) g1 q1 k1).2.2) [0, 1, 2, 3, 4, 5, 6, 13, 14, 15, 16, 17, 18, 19, 20, 21, 22, 23, 24, 25, 26, 27, 28, 29, 30, 31, 32, 33, 34, 35, 36, 37, 7, 8, 9, 10, 11, 12] (by decide) (fun _ => rfl) (fun u_95 hv_95 => ?_)
          refine ek_il X 0 rfl dX4_advise_98 ?_
          refine ek_Zeq X (by omega) 106 (by decide) dX4_advise_100 (fun _ => ?_) (fun h => absurd h (by omega))
          refine ek_Ninc (j := 8) (d := 1) (lv' := [(5, .int (nI (c + 1))), (8, .int (nI 0)), (7, .int (nI ((cDel u1) c))), (6, .int (nI ((cSyl u1) c))), (0, .ref (ad 46)), (1, .int (nI w)), (2, .int (nI b)), (3, .int (nI y)), (4, .int (nI d))]) X rfl (by decide) rfl dX4_advise_106 ?_
          refine ek_goto X 29 (by decide) dX4_advise_109 ?_
          refine ek_re [4, 5, 6, 7, 8, 0] rfl ?_
          exact ih_29 (c + 1, (cClap ((cClap u1 c y d)) c ((cSyl u1) c) ((cDel u1) c)), (gThrough ((cClap u1 c y d)) w b (vEar cv) g1 q1 k1).1, (gThrough ((cClap u1 c y d)) w b (vEar cv) g1 q1 k1).2.1, (gThrough ((cClap u1 c y d)) w b (vEar cv) g1 q1 k1).2.2) (show (1 ≤ (c + 1) ∧ (c + 1) ≤ cC u) ∧ cOk ((cClap ((cClap u1 c y d)) c ((cSyl u1) c) ((cDel u1) c))) ∧ sOk ((gThrough ((cClap u1 c y d)) w b (vEar cv) g1 q1 k1).1) ((gThrough ((cClap u1 c y d)) w b (vEar cv) g1 q1 k1).2.1) ∧ hOk ((gThrough ((cClap u1 c y d)) w b (vEar cv) g1 q1 k1).2.2) ∧ cC ((cClap ((cClap u1 c y d)) c ((cSyl u1) c) ((cDel u1) c))) = cC u ∧ vAdv (vEar cv) w b y d (cC u - (c + 1)) (c + 1) (((cClap ((cClap u1 c y d)) c ((cSyl u1) c) ((cDel u1) c))), ((gThrough ((cClap u1 c y d)) w b (vEar cv) g1 q1 k1).1), ((gThrough ((cClap u1 c y d)) w b (vEar cv) g1 q1 k1).2.1), ((gThrough ((cClap u1 c y d)) w b (vEar cv) g1 q1 k1).2.2)) = vAdv (vEar cv) w b y d (cC u - 1) 1 (u, g, q, k) from (by obtain ⟨⟨h0, h1⟩, h2, h3, h4, h5, h6⟩ := ha_29; obtain ⟨z1, z2⟩ := gThrough_ok (w := w) (b := b) (cClap_ok h2 (c := c) (y := y) (d := d) (by omega) (by omega)) h3 h4 (by omega) he; refine ⟨by omega, cBack_ok h2 (by omega) (by omega), z1, z2, h5, ?_⟩; rw [← h6, show cC u - c = (cC u - (c + 1)) + 1 by omega]; exact (if_neg (by assumption)).symm)) (by show cC u - (c + 1) < cC u - c; omega)
    · refine ek_top (v' := nI 0) (congrArg nI (if_neg c_20)) ?_
      exact ek_doXv X (ek_runSX (As := [.int (nI 0)]) (rest := []) X hZ (c_X4_requireArgument l hl D cI cJ cR 0 (by omega)) gX4_advise_X4_requireArgument rfl hd_X4_requireArgument ⟨Nat.le_of_ble_eq_true rfl, Nat.le_of_ble_eq_true rfl⟩ ⟨Nat.le_of_ble_eq_true rfl, Nat.le_of_ble_eq_true rfl⟩ [] rfl (by decide) (Nat.le_of_ble_eq_true rfl) dX4_advise_23) [0, 1, 2, 3, 4, 5, 6, 7, 8, 9, 10, 11, 12, 13, 14, 15, 16, 17, 18, 19, 20, 21, 22, 23, 24, 25, 26, 27, 28, 29, 30, 31, 32, 33, 34, 35, 36, 37] rfl (by decide) (fun E hE => ek_xout X hT ⟨if_neg (fun h => c_20 ⟨Nat.zero_le _, h.2.2⟩), hE.2⟩ ⟨Nat.le_of_ble_eq_true rfl, Nat.le_of_ble_eq_true rfl⟩) (fun hv => absurd hv (by decide))
  · refine ek_top (v' := nI 0) (congrArg nI (if_neg c_9)) ?_
    exact ek_doXv X (ek_runSX (As := [.int (nI 0)]) (rest := []) X hZ (c_X4_requireArgument l hl D cI cJ cR 0 (by omega)) gX4_advise_X4_requireArgument rfl hd_X4_requireArgument ⟨Nat.le_of_ble_eq_true rfl, Nat.le_of_ble_eq_true rfl⟩ ⟨Nat.le_of_ble_eq_true rfl, Nat.le_of_ble_eq_true rfl⟩ [] rfl (by decide) (Nat.le_of_ble_eq_true rfl) dX4_advise_12) [0, 1, 2, 3, 4, 5, 6, 7, 8, 9, 10, 11, 12, 13, 14, 15, 16, 17, 18, 19, 20, 21, 22, 23, 24, 25, 26, 27, 28, 29, 30, 31, 32, 33, 34, 35, 36, 37] rfl (by decide) (fun E hE => ek_xout X hT ⟨if_neg (fun h => c_9 h.2.1), hE.2⟩ ⟨Nat.le_of_ble_eq_true rfl, Nat.le_of_ble_eq_true rfl⟩) (fun hv => absurd hv (by decide))

theorem hin_X4_way_X4 : ∀ x ∈ wsX40, x ∈ wsX4_way := fun x h => List.mem_cons_of_mem _ (List.mem_append_left _ (List.mem_append_left _ (List.mem_append_right _ h)))
abbrev rm_X4_way : Room := { frames := 7, cells := 2, slots := 12, locals := 102 }
set_option maxHeartbeats 4000000 in
set_option maxRecDepth 100000 in
theorem c_X4_way (l : Launch) (hl : l.stackTraces = false) (D : va_G) (cI cJ cR : ClassId) (ad : Nat → Nat) (cv : CavT) (g : SndT) (q : QueT) (u : CaveT) (h k : EchT) (hB : cOk u) (a : Nat) (b : Nat) (ha : a < 4294967296) (hb : b < 4294967296) : ek_MX (S := Unit) l yX4_way wsX4_way rm_X4_way D (tyW cI cJ cR) nestW [.ref (ad 46), .int (nI a), .int (nI b)] (wV ad cI cJ cR cv g q u h k) (fun r9 _ => ∃ v : Int32, r9 = some (.int v) ∧ xWay a b (cC u) = 0 ∧ v = wayOf u a b) (fun _ => wV ad cI cJ cR cv g q (cSetF u (wayOf u a)) h k) (fun E9 => (xWay a b (cC u) = 1 ∧ E9 = eIX)) := by
  refine ek_MX.of (cc := cX4_way) (maxL := 3) (ret := (some .int)) (by decide) rfl (Nat.le_of_ble_eq_true rfl) ?_
  intro p9 e9 s9 m9 args9 below9 meth9 c9 A X hZ hT
  obtain ⟨⟨hC1, hC2⟩, hPs, hWt, bWal, bHgt, bBat, bSyl, bDel, bDrs, bFrm, bTo, bLen, bNar, bPb⟩ := id hB
  refine ek_castL (lv' := [(0, .ref (ad 46)), (1, .int (nI a)), (2, .int (nI b))]) rfl ?_
  refine ek_aln X 0 rfl dX4_way_0 ?_
  refine ek_get X hin_X4_way_X4 0 rfl rfl 0 (by decide) (List.mem_of_getElem? (i := 1) rfl) rfl dX4_way_1 ?_
  refine ek_iln X 1 rfl dX4_way_4 ?_
  refine ek_doRi (ek_runV (As := [.int (nI a)]) (rest := []) X (c_X0_hasChamberB l D cI cJ cR ad u hB a (by omega)) gX4_way_X0_hasChamber rfl hdV_X0_hasChamber ⟨Nat.le_of_ble_eq_true rfl, Nat.le_of_ble_eq_true rfl⟩ ⟨Nat.le_of_ble_eq_true rfl, Nat.le_of_ble_eq_true rfl⟩ [7, 8, 9, 10, 11, 12, 13, 14, 15, 16, 17, 18, 19, 20, 21, 22, 23, 24, 25, 26, 27, 28, 29, 30, 31] rfl (by decide) 0 0 rfl rfl (Nat.le_of_ble_eq_true rfl) dX4_way_5) (fun v_5 hv_5 => ?_)
  subst hv_5
  by_cases c_5 : a < cC u
  · refine ek_top (v' := nI 1) (congrArg nI (if_pos c_5)) ?_
    refine ek_doXv X (ek_runSX (As := [.int (nI 1)]) (rest := []) X hZ (c_X4_requireIndex l hl D cI cJ cR 1 (by omega)) gX4_way_X4_requireIndex rfl hd_X4_requireIndex ⟨Nat.le_of_ble_eq_true rfl, Nat.le_of_ble_eq_true rfl⟩ ⟨Nat.le_of_ble_eq_true rfl, Nat.le_of_ble_eq_true rfl⟩ [] rfl (by decide) (Nat.le_of_ble_eq_true rfl) dX4_way_8) [0, 1, 2, 3, 4, 5, 6, 7, 8, 9, 10, 11, 12, 13, 14, 15, 16, 17, 18, 19, 20, 21, 22, 23, 24, 25, 26, 27, 28, 29, 30, 31, 32, 33, 34, 35, 36, 37] rfl (by decide) (fun E hE => absurd hE.1 (by decide)) (fun _ => ?_)
    refine ek_aln X 0 rfl dX4_way_11 ?_
    refine ek_get X hin_X4_way_X4 0 rfl rfl 0 (by decide) (List.mem_of_getElem? (i := 1) rfl) rfl dX4_way_12 ?_
    refine ek_iln X 2 rfl dX4_way_15 ?_
    refine ek_doRi (ek_runV (As := [.int (nI b)]) (rest := []) X (c_X0_hasChamberB l D cI cJ cR ad u hB b (by omega)) gX4_way_X0_hasChamber rfl hdV_X0_hasChamber ⟨Nat.le_of_ble_eq_true rfl, Nat.le_of_ble_eq_true rfl⟩ ⟨Nat.le_of_ble_eq_true rfl, Nat.le_of_ble_eq_true rfl⟩ [7, 8, 9, 10, 11, 12, 13, 14, 15, 16, 17, 18, 19, 20, 21, 22, 23, 24, 25, 26, 27, 28, 29, 30, 31] rfl (by decide) 0 0 rfl rfl (Nat.le_of_ble_eq_true rfl) dX4_way_16) (fun v_16 hv_16 => ?_)
    subst hv_16
    by_cases c_16 : b < cC u
    · refine ek_top (v' := nI 1) (congrArg nI (if_pos c_16)) ?_
      refine ek_doXv X (ek_runSX (As := [.int (nI 1)]) (rest := []) X hZ (c_X4_requireIndex l hl D cI cJ cR 1 (by omega)) gX4_way_X4_requireIndex rfl hd_X4_requireIndex ⟨Nat.le_of_ble_eq_true rfl, Nat.le_of_ble_eq_true rfl⟩ ⟨Nat.le_of_ble_eq_true rfl, Nat.le_of_ble_eq_true rfl⟩ [] rfl (by decide) (Nat.le_of_ble_eq_true rfl) dX4_way_19) [0, 1, 2, 3, 4, 5, 6, 7, 8, 9, 10, 11, 12, 13, 14, 15, 16, 17, 18, 19, 20, 21, 22, 23, 24, 25, 26, 27, 28, 29, 30, 31, 32, 33, 34, 35, 36, 37] rfl (by decide) (fun E hE => absurd hE.1 (by decide)) (fun _ => ?_)
      refine ek_aln X 0 rfl dX4_way_22 ?_
      refine ek_get X hin_X4_way_X4 0 rfl rfl 0 (by decide) (List.mem_of_getElem? (i := 1) rfl) rfl dX4_way_23 ?_
      refine ek_iln X 1 rfl dX4_way_26 ?_
      refine ek_iln X 2 rfl dX4_way_27 ?_
      refine ek_doWi X (ek_runV (As := [.int (nI a), .int (nI b)]) (rest := []) X (c_X0_shortestWay l D cI cJ cR ad u hB a b (by omega) (by omega)) gX4_way_X0_shortestWay rfl hdV_X0_shortestWay ⟨Nat.le_of_ble_eq_true rfl, Nat.le_of_ble_eq_true rfl⟩ ⟨Nat.le_of_ble_eq_true rfl, Nat.le_of_ble_eq_true rfl⟩ [7, 8, 9, 10, 11, 12, 13, 14, 15, 16, 17, 18, 19, 20, 21, 22, 23, 24, 25, 26, 27, 28, 29, 30, 31] rfl (by decide) 0 0 rfl rfl (Nat.le_of_ble_eq_true rfl) dX4_way_28) [7, 8, 9, 10, 11, 12, 13, 14, 15, 16, 17, 18, 19, 20, 21, 22, 23, 24, 25, 26, 27, 28, 29, 30, 31] [0, 1, 2, 3, 4, 5, 6, 32, 33, 34, 35, 36, 37] rfl rfl (by decide) (by decide) (fun _ => wV ad cI cJ cR cv g q (cC u, cP u, cW u, cWal u, cHgt u, cBat u, cSyl u, cDel u, cDrs u, cFrm u, cTo u, cLen u, cNar u, cPb u, wayOf u a) h k) [0, 1, 2, 3, 4, 5, 6, 13, 14, 15, 16, 17, 18, 19, 20, 21, 22, 23, 24, 25, 26, 27, 28, 29, 30, 31, 32, 33, 34, 35, 36, 37, 7, 8, 9, 10, 11, 12] (by decide) (fun _ => rfl) (fun v_28 u_28 hv_28 => ?_)
      subst hv_28
      refine ek_ret ?_
      refine ek_widen (k' := 2) (n' := 12) (Nat.le_of_ble_eq_true rfl) (Nat.le_of_ble_eq_true rfl) ?_
      exact ek_reti X () ⟨_, rfl, ⟨(by unfold xWay; (repeat' split) <;> first | rfl | omega | (exfalso; omega)), rfl⟩⟩ rfl dX4_way_31
    · refine ek_top (v' := nI 0) (congrArg nI (if_neg c_16)) ?_
      exact ek_doXv X (ek_runSX (As := [.int (nI 0)]) (rest := []) X hZ (c_X4_requireIndex l hl D cI cJ cR 0 (by omega)) gX4_way_X4_requireIndex rfl hd_X4_requireIndex ⟨Nat.le_of_ble_eq_true rfl, Nat.le_of_ble_eq_true rfl⟩ ⟨Nat.le_of_ble_eq_true rfl, Nat.le_of_ble_eq_true rfl⟩ [] rfl (by decide) (Nat.le_of_ble_eq_true rfl) dX4_way_19) [0, 1, 2, 3, 4, 5, 6, 7, 8, 9, 10, 11, 12, 13, 14, 15, 16, 17, 18, 19, 20, 21, 22, 23, 24, 25, 26, 27, 28, 29, 30, 31, 32, 33, 34, 35, 36, 37] rfl (by decide) (fun E hE => ek_xout X hT (⟨(by unfold xWay; (repeat' split) <;> first | rfl | omega | (exfalso; omega)), hE.2⟩) ⟨Nat.le_of_ble_eq_true rfl, Nat.le_of_ble_eq_true rfl⟩) (fun hv => absurd hv (by decide))
  · refine ek_top (v' := nI 0) (congrArg nI (if_neg c_5)) ?_
    exact ek_doXv X (ek_runSX (As := [.int (nI 0)]) (rest := []) X hZ (c_X4_requireIndex l hl D cI cJ cR 0 (by omega)) gX4_way_X4_requireIndex rfl hd_X4_requireIndex ⟨Nat.le_of_ble_eq_true rfl, Nat.le_of_ble_eq_true rfl⟩ ⟨Nat.le_of_ble_eq_true rfl, Nat.le_of_ble_eq_true rfl⟩ [] rfl (by decide) (Nat.le_of_ble_eq_true rfl) dX4_way_8) [0, 1, 2, 3, 4, 5, 6, 7, 8, 9, 10, 11, 12, 13, 14, 15, 16, 17, 18, 19, 20, 21, 22, 23, 24, 25, 26, 27, 28, 29, 30, 31, 32, 33, 34, 35, 36, 37] rfl (by decide) (fun E hE => ek_xout X hT (⟨(by unfold xWay; (repeat' split) <;> first | rfl | omega | (exfalso; omega)), hE.2⟩) ⟨Nat.le_of_ble_eq_true rfl, Nat.le_of_ble_eq_true rfl⟩) (fun hv => absurd hv (by decide))

theorem hin_X4_highest_X4 : ∀ x ∈ wsX40, x ∈ wsX4_highest := fun x h => List.mem_cons_of_mem _ (List.mem_append_left _ (List.mem_append_left _ (List.mem_append_right _ h)))
abbrev rm_X4_highest : Room := { frames := 7, cells := 1, slots := 6, locals := 102 }
set_option maxHeartbeats 4000000 in
set_option maxRecDepth 100000 in
theorem c_X4_highest (l : Launch) (hl : l.stackTraces = false) (D : va_G) (cI cJ cR : ClassId) (ad : Nat → Nat) (cv : CavT) (g : SndT) (q : QueT) (u : CaveT) (h k : EchT) (hB : cOk u) (c : Nat) (hc : c < 4294967296) : ek_MX (S := Unit) l yX4_highest wsX4_highest rm_X4_highest D (tyW cI cJ cR) nestW [.ref (ad 46), .int (nI c)] (wV ad cI cJ cR cv g q u h k) (fun r9 _ => ∃ v : Int32, r9 = some (.int v) ∧ xLt c (cC u) = 0 ∧ v = upOf u c) (fun _ => wV ad cI cJ cR cv g q (cSetF u (upOf u)) h k) (fun E9 => (xLt c (cC u) = 1 ∧ E9 = eIX)) := by
  refine ek_MX.of (cc := cX4_highest) (maxL := 2) (ret := (some .int)) (by decide) rfl (Nat.le_of_ble_eq_true rfl) ?_
  intro p9 e9 s9 m9 args9 below9 meth9 c9 A X hZ hT
  obtain ⟨⟨hC1, hC2⟩, hPs, hWt, bWal, bHgt, bBat, bSyl, bDel, bDrs, bFrm, bTo, bLen, bNar, bPb⟩ := id hB
  refine ek_castL (lv' := [(0, .ref (ad 46)), (1, .int (nI c))]) rfl ?_
  refine ek_aln X 0 rfl dX4_highest_0 ?_
  refine ek_get X hin_X4_highest_X4 0 rfl rfl 0 (by decide) (List.mem_of_getElem? (i := 1) rfl) rfl dX4_highest_1 ?_
  refine ek_iln X 1 rfl dX4_highest_4 ?_
  refine ek_doRi (ek_runV (As := [.int (nI c)]) (rest := []) X (c_X0_hasChamberB l D cI cJ cR ad u hB c (by omega)) gX4_highest_X0_hasChamber rfl hdV_X0_hasChamber ⟨Nat.le_of_ble_eq_true rfl, Nat.le_of_ble_eq_true rfl⟩ ⟨Nat.le_of_ble_eq_true rfl, Nat.le_of_ble_eq_true rfl⟩ [7, 8, 9, 10, 11, 12, 13, 14, 15, 16, 17, 18, 19, 20, 21, 22, 23, 24, 25, 26, 27, 28, 29, 30, 31] rfl (by decide) 0 0 rfl rfl (Nat.le_of_ble_eq_true rfl) dX4_highest_5) (fun v_5 hv_5 => ?_)
  subst hv_5
  by_cases c_5 : c < cC u
  · refine ek_top (v' := nI 1) (congrArg nI (if_pos c_5)) ?_
    refine ek_doXv X (ek_runSX (As := [.int (nI 1)]) (rest := []) X hZ (c_X4_requireIndex l hl D cI cJ cR 1 (by omega)) gX4_highest_X4_requireIndex rfl hd_X4_requireIndex ⟨Nat.le_of_ble_eq_true rfl, Nat.le_of_ble_eq_true rfl⟩ ⟨Nat.le_of_ble_eq_true rfl, Nat.le_of_ble_eq_true rfl⟩ [] rfl (by decide) (Nat.le_of_ble_eq_true rfl) dX4_highest_8) [0, 1, 2, 3, 4, 5, 6, 7, 8, 9, 10, 11, 12, 13, 14, 15, 16, 17, 18, 19, 20, 21, 22, 23, 24, 25, 26, 27, 28, 29, 30, 31, 32, 33, 34, 35, 36, 37] rfl (by decide) (fun E hE => absurd hE.1 (by decide)) (fun _ => ?_)
    refine ek_aln X 0 rfl dX4_highest_11 ?_
    refine ek_get X hin_X4_highest_X4 0 rfl rfl 0 (by decide) (List.mem_of_getElem? (i := 1) rfl) rfl dX4_highest_12 ?_
    refine ek_iln X 1 rfl dX4_highest_15 ?_
    refine ek_doWi X (ek_runV (As := [.int (nI c)]) (rest := []) X (c_X0_highestWater l D cI cJ cR ad u hB c (by omega)) gX4_highest_X0_highestWater rfl hdV_X0_highestWater ⟨Nat.le_of_ble_eq_true rfl, Nat.le_of_ble_eq_true rfl⟩ ⟨Nat.le_of_ble_eq_true rfl, Nat.le_of_ble_eq_true rfl⟩ [7, 8, 9, 10, 11, 12, 13, 14, 15, 16, 17, 18, 19, 20, 21, 22, 23, 24, 25, 26, 27, 28, 29, 30, 31] rfl (by decide) 0 0 rfl rfl (Nat.le_of_ble_eq_true rfl) dX4_highest_16) [7, 8, 9, 10, 11, 12, 13, 14, 15, 16, 17, 18, 19, 20, 21, 22, 23, 24, 25, 26, 27, 28, 29, 30, 31] [0, 1, 2, 3, 4, 5, 6, 32, 33, 34, 35, 36, 37] rfl rfl (by decide) (by decide) (fun _ => wV ad cI cJ cR cv g q (cC u, cP u, cW u, cWal u, cHgt u, cBat u, cSyl u, cDel u, cDrs u, cFrm u, cTo u, cLen u, cNar u, cPb u, upOf u) h k) [0, 1, 2, 3, 4, 5, 6, 13, 14, 15, 16, 17, 18, 19, 20, 21, 22, 23, 24, 25, 26, 27, 28, 29, 30, 31, 32, 33, 34, 35, 36, 37, 7, 8, 9, 10, 11, 12] (by decide) (fun _ => rfl) (fun v_16 u_16 hv_16 => ?_)
    subst hv_16
    refine ek_ret ?_
    refine ek_widen (k' := 1) (n' := 6) (Nat.le_of_ble_eq_true rfl) (Nat.le_of_ble_eq_true rfl) ?_
    exact ek_reti X () ⟨_, rfl, ⟨(by unfold xLt; (repeat' split) <;> first | rfl | omega | (exfalso; omega)), rfl⟩⟩ rfl dX4_highest_19
  · refine ek_top (v' := nI 0) (congrArg nI (if_neg c_5)) ?_
    exact ek_doXv X (ek_runSX (As := [.int (nI 0)]) (rest := []) X hZ (c_X4_requireIndex l hl D cI cJ cR 0 (by omega)) gX4_highest_X4_requireIndex rfl hd_X4_requireIndex ⟨Nat.le_of_ble_eq_true rfl, Nat.le_of_ble_eq_true rfl⟩ ⟨Nat.le_of_ble_eq_true rfl, Nat.le_of_ble_eq_true rfl⟩ [] rfl (by decide) (Nat.le_of_ble_eq_true rfl) dX4_highest_8) [0, 1, 2, 3, 4, 5, 6, 7, 8, 9, 10, 11, 12, 13, 14, 15, 16, 17, 18, 19, 20, 21, 22, 23, 24, 25, 26, 27, 28, 29, 30, 31, 32, 33, 34, 35, 36, 37] rfl (by decide) (fun E hE => ek_xout X hT (⟨(by unfold xLt; (repeat' split) <;> first | rfl | omega | (exfalso; omega)), hE.2⟩) ⟨Nat.le_of_ble_eq_true rfl, Nat.le_of_ble_eq_true rfl⟩) (fun hv => absurd hv (by decide))
