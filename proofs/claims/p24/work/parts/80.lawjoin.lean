/-! ===== the law's body joined: one time, the loop, the beginning ===== -/
set_option maxHeartbeats 4000000 in
set_option maxRecDepth 100000 in
theorem law_one {p : Program} {l : Launch} {e : Env} {s9 : State} {m9 : MethodId} {args9 : Array Value} {below9 : List Frame} {meth9 : Method} {c9 : Code} {D : va_G} {cI cJ cR : ClassId} {A : Nat → Prop} {Q : State → Prop} {ad : Nat → Nat} {b L : Nat} {xs : Nat → Int32} (X : ek_X p s9 m9 args9 meth9 c9 RL cL_law 29 (some .boolean) wsL_law nestW D (tyW cI cJ cR) A A True) (hl : l.stackTraces = false) (hZ : ek_Zt A s9) (hS9 : ek_S9 A b L xs s9) {C P t : Nat} {cv : CavT} {g : SndT} {q : QueT} {u : CaveT} {h k : EchT} (hA : cAll u) (hC : cC u = C) (hP : cP u = P) (hC2 : 2 ≤ C) (hI : sOk g q) (hH : hOk h) (hK : hOk k) (he1 : 1 ≤ vEar cv) (he : vEar cv ≤ 50) (ht : t < 24) (hv : vSaid cv = t)
    (kk : ∀ (cv' : CavT) (g' : SndT) (q' : QueT) (u' : CaveT) (h' k' : EchT), cAll u' → cC u' = C → cP u' = P → sOk g' q' → hOk h' → hOk k' → 1 ≤ vEar cv' → vEar cv' ≤ 50 → vSaid cv' = t + 1 → ek_G p l e room_1 s9 m9 args9 below9 meth9 c9 29 D A A (1100 + 5000 * (t + 1)) (9000 + 40000 * (t + 1)) Q (wV ad cI cJ cR cv' g' q' u' h' k') 23 [(0, .ref b), (1, .ref (ad 46)), (2, .int (nI C)), (3, .int (nI P)), (4, .int (nI (t + 1))), (5, .int (nI (t + 1)))] []) : ek_G p l e room_1 s9 m9 args9 below9 meth9 c9 29 D A A (1100 + 5000 * t) (9000 + 40000 * t) Q (wV ad cI cJ cR cv g q u h k) 30 [(0, .ref b), (1, .ref (ad 46)), (2, .int (nI C)), (3, .int (nI P)), (4, .int (nI t)), (5, .int (nI t))] [] := by
  refine law_S1 X hl hZ hS9 hA hC hP hC2 hI hH hK he1 he ht hv (fun cv1 u1 x6 hA1 hC1 hP1 e1 e2 hv1 => ?_)
  refine law_S2 X hl hZ hS9 hA1 hC1 hP1 hC2 hI hH hK e1 e2 ht (fun w bt z g2 q2 k2 hwb hz60 hz hI2 hK2 => ?_)
  refine law_S3 X hl hZ hS9 hA1 hC1 hP1 hC2 hI2 hH hK2 e1 e2 ht hwb hz60 (fun lst hlst => ?_)
  have hL : cLst u1 lst := by rw [hlst]; exact lLst_ok u1
  have hl9 : lst ≤ 99 := by rw [hlst]; exact lLst_99 u1 _
  refine law_S4 X hl hZ hS9 hA1 hC1 hP1 hC2 hI2 hH hK2 e1 e2 ht hwb hz60 hL hl9 (fun u4 f4 hu4 => ?_)
  have hA4 : cAll u4 := by rw [hu4]; exact cAll_F hA1 f4
  have hC4 : cC u4 = C := by rw [hu4]; exact hC1
  have hP4 : cP u4 = P := by rw [hu4]; exact hP1
  have hL4 : cLst u4 lst := by rw [hu4]; exact hL
  have hz4 : ∀ (g9 : SndT) (q9 : QueT) (h9 : EchT), hCt (gThrough u4 w bt (vEar cv1) g9 q9 h9).2.2 = z := fun g9 q9 h9 => by rw [hu4]; exact hz f4 g9 q9 h9
  clear hu4 hz
  refine law_S5 X hl hZ hS9 hA4 hC4 hP4 hC2 hI2 hH hK2 e1 e2 ht hwb hz60 hL4 hl9 hz4 (fun g5 q5 h5 T5 n dg ff qd qf hI5 hH5 hE hn1 hn6 hdg hff hcz => ?_)
  refine law_S6 X hl hZ hS9 (cv := (vEar cv1, vSaid cv1 + 1, w)) hA4 hC4 hP4 hC2 hI5 hH5 hK2 e1 e2 ht hwb hz60 hl9 hE hn1 hn6 hdg hff (fun f6 hf6 => ?_)
  refine law_S7 X hl hZ hS9 (cv := (vEar cv1, vSaid cv1 + 1, w)) (bt := bt) hA4 hC4 hP4 hC2 hI5 hH5 hK2 e1 e2 ht hwb hz60 hl9 hE hn1 hn6 hf6 (fun al hal1 hal2 => ?_)
  refine law_S8 X hl hZ hS9 (cv := (vEar cv1, vSaid cv1 + 1, w)) (bt := bt) hA4 hC4 hP4 hC2 hI5 hH5 hK2 e1 e2 ht hwb hz60 hl9 hE hn1 hn6 hal1 hal2 hcz (congrArg (· + 1) hv1) rfl ?_
  refine ek_drop (w' := wV ad cI cJ cR (vEar cv1, vSaid cv1 + 1, w) g5 q5 u4 h5 k2) [0, 1, 2, 3, 4, 5, 6, 7, 8, 9, 10, 11, 12, 13, 14, 15, 16, 17, 18, 19, 20, 21, 22, 23, 24, 25, 26, 27, 28, 29, 30, 31, 32, 33, 34, 35, 36, 37] lg_C2 lg_nC ?_
  refine ek_Ninc (j := 5) (d := 1) (lv' := [(5, .int (nI (t + 1))), (0, .ref b), (1, .ref (ad 46)), (2, .int (nI C)), (3, .int (nI P)), (4, .int (nI (t + 1)))]) X rfl (by decide) rfl dL_law_1009 ?_
  refine ek_goto X 23 (by decide) dL_law_1012 ?_
  refine ek_re [1, 2, 3, 4, 5, 0] rfl ?_
  refine ek_widen (k' := (1100 + 5000 * (t + 1))) (n' := (9000 + 40000 * (t + 1))) (by omega) (by omega) ?_
  exact kk _ _ _ _ _ _ hA4 hC4 hP4 hI5 hH5 hK2 e1 e2 (congrArg (· + 1) hv1)
/-- the states of the loop, in groups -/
abbrev LawS24 : Type := (Nat × CavT × SndT) × (QueT × CaveT × EchT × EchT)
set_option maxHeartbeats 4000000 in
set_option maxRecDepth 100000 in
theorem law_loop {p : Program} {l : Launch} {e : Env} {s9 : State} {m9 : MethodId} {args9 : Array Value} {below9 : List Frame} {meth9 : Method} {c9 : Code} {D : va_G} {cI cJ cR : ClassId} {A : Nat → Prop} {Q : State → Prop} {ad : Nat → Nat} {b L : Nat} {xs : Nat → Int32} (X : ek_X p s9 m9 args9 meth9 c9 RL cL_law 29 (some .boolean) wsL_law nestW D (tyW cI cJ cR) A A True) (hl : l.stackTraces = false) (hZ : ek_Zt A s9) (hS9 : ek_S9 A b L xs s9) (fin : ∀ (K N : Nat) (w : va_W) (lv : List (Nat × Value)), K ≤ 600104 → N ≤ 7301313 → ek_G p l e room_1 s9 m9 args9 below9 meth9 c9 29 D A A K N Q w 1016 lv [.int (nI 1)]) {C P : Nat} (hC2 : 2 ≤ C) {cv : CavT} {g : SndT} {q : QueT} {u : CaveT} {h k : EchT} (hA : cAll u) (hC : cC u = C) (hP : cP u = P) (hI : sOk g q) (hH : hOk h) (hK : hOk k) (he1 : 1 ≤ vEar cv) (he : vEar cv ≤ 50) (hv : vSaid cv = 0) : ek_G p l e room_1 s9 m9 args9 below9 meth9 c9 29 D A A 1100 9000 Q (wV ad cI cJ cR cv g q u h k) 23 [(0, .ref b), (1, .ref (ad 46)), (2, .int (nI C)), (3, .int (nI P)), (4, .int (nI 0)), (5, .int (nI 0))] [] := by
  refine ek_loopKn (σ := LawS24) (fun z => 1100 + 5000 * z.1.1) (fun z => 9000 + 40000 * z.1.1) (fun z => (z.1.1 ≤ 24 ∧ cAll z.2.2.1 ∧ cC z.2.2.1 = C ∧ cP z.2.2.1 = P) ∧ (sOk z.1.2.2 z.2.1 ∧ hOk z.2.2.2.1 ∧ hOk z.2.2.2.2) ∧ (1 ≤ vEar z.1.2.1 ∧ vEar z.1.2.1 ≤ 50 ∧ vSaid z.1.2.1 = z.1.1)) (fun z => 24 - z.1.1) (fun z => wV ad cI cJ cR z.1.2.1 z.1.2.2 z.2.1 z.2.2.1 z.2.2.2.1 z.2.2.2.2) (fun z => [(0, .ref b), (1, .ref (ad 46)), (2, .int (nI C)), (3, .int (nI P)), (4, .int (nI z.1.1)), (5, .int (nI z.1.1))]) ?_ ⟨⟨0, cv, g⟩, ⟨q, u, h, k⟩⟩ ⟨⟨Nat.zero_le _, hA, hC, hP⟩, ⟨hI, hH, hK⟩, he1, he, hv⟩ rfl [0, 1, 2, 3, 4, 5] rfl (Nat.le_refl _) (Nat.le_refl _)
  clear hA hC hP hI hH hK he1 he hv
  rintro ⟨⟨t, cv, g⟩, ⟨q, u, h, k⟩⟩ ⟨⟨ht, hA, hC, hP⟩, ⟨hI, hH, hK⟩, he1, he, hv⟩ IH
  dsimp only at ht hA hC hP hI hH hK he1 he hv IH ⊢
  refine ek_il X 5 rfl dL_law_23 ?_
  refine ek_bp (v := nI 24) X (by decide) dL_law_25 ?_
  refine ek_Nge X (by omega) (by omega) 1015 (by decide) dL_law_27 (fun _ => ?_) (fun h24 => ?_)
  · refine ek_ic (v := nI 1) X (by decide) dL_law_1015 ?_
    exact fin _ _ _ _ (by omega) (by omega)
  · refine law_one X hl hZ hS9 hA hC hP hC2 hI hH hK he1 he (by omega) hv (fun cv' g' q' u' h' k' hA' hC' hP' hI' hH' hK' he1' he' hv' => ?_)
    exact IH ⟨⟨t + 1, cv', g'⟩, ⟨q', u', h', k'⟩⟩ ⟨⟨by show t + 1 ≤ 24; omega, hA', hC', hP'⟩, ⟨hI', hH', hK'⟩, he1', he', hv'⟩ (by show 24 - (t + 1) < 24 - t; omega)
set_option maxHeartbeats 4000000 in
set_option maxRecDepth 100000 in
theorem law_begin {p : Program} {l : Launch} {e : Env} {s9 : State} {m9 : MethodId} {args9 : Array Value} {below9 : List Frame} {meth9 : Method} {c9 : Code} {D : va_G} {cI cJ cR : ClassId} {A : Nat → Prop} {Q : State → Prop} {b L : Nat} {xs : Nat → Int32} (X : ek_X p s9 m9 args9 meth9 c9 RL cL_law 29 (some .boolean) wsL_law nestW D (tyW cI cJ cR) A A True) (hl : l.stackTraces = false) (hZ : ek_Zt A s9) (hS9 : ek_S9 A b L xs s9) (hO : va_AOI s9) (fin : ∀ (K N : Nat) (w : va_W) (lv : List (Nat × Value)), K ≤ 600104 → N ≤ 7301313 → ek_G p l e room_1 s9 m9 args9 below9 meth9 c9 29 D A A K N Q w 1016 lv [.int (nI 1)]) : ek_G p l e room_1 s9 m9 args9 below9 meth9 c9 29 D A A 0 0 Q [] 0 [(0, .ref b)] [] := by
  refine ek_aln X 0 rfl dL_law_0 ?_
  refine ek_doC (As := [.ref b]) (rest := []) X hZ hO hS9 (c_L_cave l hl D cI cJ cR b L xs hS9.2.2.2) gL_law_L_cave rfl hd_L_cave ⟨Nat.le_of_ble_eq_true rfl, Nat.le_of_ble_eq_true rfl⟩ ⟨Nat.le_of_ble_eq_true rfl, Nat.le_of_ble_eq_true rfl⟩ (Nat.le_of_ble_eq_true rfl) dL_law_1 (fun r9 z9 hz9 => ?_)
  obtain ⟨ad, ear, u⟩ := z9
  obtain ⟨rfl, hA, hC2, he1, he⟩ := hz9
  replace hA : cAll u := hA
  replace hC2 : 2 ≤ cC u := hC2
  replace he1 : 1 ≤ ear := he1
  replace he : ear ≤ 50 := he
  refine ek_cast (w' := wV ad cI cJ cR (ear, 0, 0) gInit qInit u hInit hInit) rfl ?_
  refine ek_castS (st' := [.ref (ad 46)]) rfl ?_
  refine ek_widen (k' := 1000) (n' := 8000) (Nat.le_of_ble_eq_true rfl) (Nat.le_of_ble_eq_true rfl) ?_
  have hC12 : cC u ≤ 12 := hA.1.1.2
  refine ek_asn (lv' := [(1, .ref (ad 46)), (0, .ref b)]) X (by decide) rfl dL_law_4 ?_
  refine ek_aln X 0 rfl dL_law_5 ?_
  refine ek_ic (v := nI 0) X (by decide) dL_law_6 ?_
  refine lx_call0 (As := [.int (nI 0)]) (rest := []) (kc := 1) (ks := 6) X hZ (c_X4_count l hl D cI cJ cR ad ((ear, 0, 0)) gInit qInit u hInit hInit hA.1 0 (by omega)) (fun E => by rw [show xLe 0 9 = 0 from by unfold xLe; rw [if_pos (by omega)]]; rintro ⟨h1, -⟩ <;> exact absurd h1 (by decide)) ⟨rfl, rfl⟩ gL_law_X4_count rfl hdV_X4_count ⟨Nat.le_of_ble_eq_true rfl, Nat.le_of_ble_eq_true rfl⟩ ⟨(show 1000 + 1 ≤ 600104 by omega), (show 8000 + 6 ≤ 7301313 by omega)⟩ (Nat.le_of_ble_eq_true rfl) dL_law_7 (fun v_7 hv_7 => ?_)
  obtain ⟨-, rfl⟩ := hv_7
  refine ek_top (v' := nI (cC u)) rfl ?_
  refine ek_isn (lv' := [(2, .int (nI (cC u))), (1, .ref (ad 46)), (0, .ref b)]) X (by decide) rfl dL_law_10 ?_
  refine ek_aln X 1 rfl dL_law_11 ?_
  refine ek_ic (v := nI 1) X (by decide) dL_law_12 ?_
  refine lx_call0 (As := [.int (nI 1)]) (rest := []) (kc := 1) (ks := 6) X hZ (c_X4_count l hl D cI cJ cR ad ((ear, 0, 0)) gInit qInit u hInit hInit hA.1 1 (by omega)) (fun E => by rw [show xLe 1 9 = 0 from by unfold xLe; rw [if_pos (by omega)]]; rintro ⟨h1, -⟩ <;> exact absurd h1 (by decide)) ⟨rfl, rfl⟩ gL_law_X4_count rfl hdV_X4_count ⟨Nat.le_of_ble_eq_true rfl, Nat.le_of_ble_eq_true rfl⟩ ⟨(show (1000 + 1) + 1 ≤ 600104 by omega), (show (8000 + 6) + 6 ≤ 7301313 by omega)⟩ (Nat.le_of_ble_eq_true rfl) dL_law_13 (fun v_13 hv_13 => ?_)
  obtain ⟨-, rfl⟩ := hv_13
  refine ek_top (v' := nI (cP u)) rfl ?_
  refine ek_isn (lv' := [(3, .int (nI (cP u))), (2, .int (nI (cC u))), (1, .ref (ad 46)), (0, .ref b)]) X (by decide) rfl dL_law_16 ?_
  refine ek_ic (v := nI 0) X (by decide) dL_law_17 ?_
  refine ek_is (lv' := [(4, .int (nI 0)), (3, .int (nI (cP u))), (2, .int (nI (cC u))), (1, .ref (ad 46)), (0, .ref b)]) X (by decide) rfl dL_law_18 ?_
  refine ek_ic (v := nI 0) X (by decide) dL_law_20 ?_
  refine ek_is (lv' := [(5, .int (nI 0)), (4, .int (nI 0)), (3, .int (nI (cP u))), (2, .int (nI (cC u))), (1, .ref (ad 46)), (0, .ref b)]) X (by decide) rfl dL_law_21 ?_
  refine ek_widen (k' := 1100) (n' := 9000) (show ((1000 + 1) + 1) ≤ 1100 by omega) (show ((8000 + 6) + 6) ≤ 9000 by omega) ?_
  refine ek_re [5, 4, 3, 2, 1, 0] rfl ?_
  exact law_loop X hl hZ hS9 fin hC2 hA rfl rfl i_sOk i_hOk i_hOk he1 he rfl
