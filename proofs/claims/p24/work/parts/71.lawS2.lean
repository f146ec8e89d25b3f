/-! ===== the law's body, S2 ===== -/
set_option maxHeartbeats 4000000 in
set_option maxRecDepth 100000 in
theorem law_S2 {p : Program} {l : Launch} {e : Env} {s9 : State} {m9 : MethodId} {args9 : Array Value} {below9 : List Frame} {meth9 : Method} {c9 : Code} {D : va_G} {cI cJ cR : ClassId} {A : Nat → Prop} {Q : State → Prop} {ad : Nat → Nat} {b L : Nat} {xs : Nat → Int32} (X : ek_X p s9 m9 args9 meth9 c9 RL cL_law 29 (some .boolean) wsL_law nestW D (tyW cI cJ cR) A A True) (hl : l.stackTraces = false) (hZ : ek_Zt A s9) (hS9 : ek_S9 A b L xs s9) {C P t : Nat} {cv : CavT} {g : SndT} {q : QueT} {u : CaveT} {h k : EchT} (hA : cAll u) (hC : cC u = C) (hP : cP u = P) (hC2 : 2 ≤ C) (hI : sOk g q) (hH : hOk h) (hK : hOk k) (he1 : 1 ≤ vEar cv) (he : vEar cv ≤ 50) (ht : t < 24) {x6 : Int32}
    (kk : ∀ (w bt z : Nat) (g' : SndT) (q' : QueT) (k' : EchT), wbOk w bt → z ≤ 60 → (∀ (f9 : Nat → Int32) (g9 : SndT) (q9 : QueT) (h9 : EchT), hCt (gThrough (cSetF u f9) w bt (vEar cv) g9 q9 h9).2.2 = z) → sOk g' q' → hOk k' → ek_G p l e room_1 s9 m9 args9 below9 meth9 c9 29 D A A (1100 + 5000 * t + 80) (9000 + 40000 * t + 700) Q (wV ad cI cJ cR cv g' q' u h k') 342 [(0, .ref b), (1, .ref (ad 46)), (2, .int (nI C)), (3, .int (nI P)), (4, .int (nI t)), (5, .int (nI t)), (8, .int (nI w)), (9, .int (nI bt)), (12, .int (nI z))] []) : ek_G p l e room_1 s9 m9 args9 below9 meth9 c9 29 D A A (1100 + 5000 * t + 20) (9000 + 40000 * t + 200) Q (wV ad cI cJ cR cv g q u h k) 190 [(0, .ref b), (1, .ref (ad 46)), (2, .int (nI C)), (3, .int (nI P)), (4, .int (nI t)), (5, .int (nI t)), (6, .int x6)] [] := by
  have hC12 : C ≤ 12 := by have := hA.1.1.2; omega
  have hP18 : P ≤ 18 := by have := hA.1.2.1; omega
  refine ek_il X 6 rfl dL_law_190 ?_
  refine ek_ic (v := nI 2) X (by decide) dL_law_192 ?_
  refine ek_shr X dL_law_193 ?_
  refine ek_doRi (ek_runS (As := [.int (x6 >>> ((nI 2) &&& 31))]) (rest := []) X (c_L_word l D cI cJ cR (x6 >>> ((nI 2) &&& 31))) gL_law_L_word rfl hd_L_word ⟨Nat.le_of_ble_eq_true rfl, Nat.le_of_ble_eq_true rfl⟩ ⟨(show (1100 + 5000 * t + 20) + 0 ≤ 600104 by omega), (show (9000 + 40000 * t + 200) + 0 ≤ 7301313 by omega)⟩ [] rfl (by decide) (Nat.le_of_ble_eq_true rfl) dL_law_194) (fun v_194 hv_194 => ?_)
  obtain ⟨w_194, hw_194, rfl⟩ := hv_194
  refine ek_is (lv' := [(8, .int (nI w_194)), (0, .ref b), (1, .ref (ad 46)), (2, .int (nI C)), (3, .int (nI P)), (4, .int (nI t)), (5, .int (nI t)), (6, .int x6)]) X (by decide) rfl dL_law_197 ?_
  refine ek_ic (v := nI 1) X (by decide) dL_law_199 ?_
  refine ek_il X 7 rfl dL_law_200 ?_
  refine ek_bp (v := nI 6) X (by decide) dL_law_202 ?_
  refine ek_shr X dL_law_204 ?_
  refine ek_bp (v := nI 20) X (by decide) dL_law_205 ?_
  refine ek_doRi (ek_runS (As := [.int (x6 >>> ((nI 6) &&& 31)), .int (nI 20)]) (rest := [.int (nI 1)]) X (c_L_below l D cI cJ cR (x6 >>> ((nI 6) &&& 31)) 20 (by omega) (by omega)) gL_law_L_below rfl hd_L_below ⟨Nat.le_of_ble_eq_true rfl, Nat.le_of_ble_eq_true rfl⟩ ⟨(show (1100 + 5000 * t + 20) + 0 ≤ 600104 by omega), (show (9000 + 40000 * t + 200) + 0 ≤ 7301313 by omega)⟩ [] rfl (by decide) (Nat.le_of_ble_eq_true rfl) dL_law_207) (fun v_207 hv_207 => ?_)
  obtain ⟨r_207, hr_207, rfl⟩ := hv_207
  refine ek_Nadd X dL_law_210 ?_
  obtain ⟨bt, hbt⟩ : ∃ z : Nat, z = 1 + r_207 := ⟨_, rfl⟩
  refine ek_top (v' := nI bt) (congrArg nI hbt.symm) ?_
  have hwb : wbOk w_194 bt := ⟨hw_194, by omega, by omega⟩
  have hb1 := hwb.2.1
  have hb2 := hwb.2.2
  have hw9 := hwb.1.1.2
  refine ek_is (lv' := [(9, .int (nI bt)), (8, .int (nI w_194)), (0, .ref b), (1, .ref (ad 46)), (2, .int (nI C)), (3, .int (nI P)), (4, .int (nI t)), (5, .int (nI t)), (6, .int x6)]) X (by decide) rfl dL_law_211 ?_
  refine ek_aln X 3 rfl dL_law_213 ?_
  refine lx_dig0 (rest := []) X (c_X4_digest l D cI cJ cR ad cv g q u h k hA.1 hH) gL_law_X4_digest rfl hdV_X4_digest ⟨Nat.le_of_ble_eq_true rfl, Nat.le_of_ble_eq_true rfl⟩ ⟨(show (1100 + 5000 * t + 20) + 0 ≤ 600104 by omega), (show (9000 + 40000 * t + 200) + 0 ≤ 7301313 by omega)⟩ (Nat.le_of_ble_eq_true rfl) dL_law_214 ⟨rfl, rfl⟩ ?_
  refine ek_ls (lv' := [(10, .long (vDigest cv u h)), (9, .int (nI bt)), (8, .int (nI w_194)), (0, .ref b), (1, .ref (ad 46)), (2, .int (nI C)), (3, .int (nI P)), (4, .int (nI t)), (5, .int (nI t)), (6, .int x6)]) X (by decide) rfl dL_law_217 ?_
  refine ek_aln X 4 rfl dL_law_219 ?_
  refine ek_il X 2 rfl dL_law_220 ?_
  refine ek_il X 1 rfl dL_law_222 ?_
  refine ek_ic (v := nI 0) X (by decide) dL_law_224 ?_
  refine lx_call0 (As := [.int (nI w_194), .int (nI bt), .int (nI 0)]) (rest := []) (kc := 3) (ks := 18) X hZ (c_X4_would l hl D cI cJ cR ad cv g q u h k hA.1 hI hK he w_194 bt 0 (by omega) (by omega) (by omega)) (fun E => by rw [show xWould w_194 bt 0 = 0 from by unfold xWould; rw [if_pos hwb, if_pos (by omega)]]; rintro (⟨h1, -⟩ | ⟨h1, -⟩) <;> exact absurd h1 (by decide)) ⟨rfl, rfl⟩ gL_law_X4_would rfl hdV_X4_would ⟨Nat.le_of_ble_eq_true rfl, Nat.le_of_ble_eq_true rfl⟩ ⟨(show (1100 + 5000 * t + 20) + 3 ≤ 600104 by omega), (show (9000 + 40000 * t + 200) + 18 ≤ 7301313 by omega)⟩ (Nat.le_of_ble_eq_true rfl) dL_law_225 (fun v_225 hv_225 => ?_)
  obtain ⟨-, rfl⟩ := hv_225
  obtain ⟨hI2, hK2⟩ := gThrough_ok hA.1 hI hK (w := w_194) (b := bt) (x := vEar cv) hwb.2.2 he
  have hz : ∀ (f9 : Nat → Int32) (g9 : SndT) (q9 : QueT) (h9 : EchT), hCt (gThrough (cSetF u f9) w_194 bt (vEar cv) g9 q9 h9).2.2 = hCt (gThrough u w_194 bt (vEar cv) g q k).2.2 := fun f9 g9 q9 h9 => by rw [gThrough_F]; exact told_S u w_194 bt (vEar cv) g9 g q9 q h9 k
  obtain ⟨TT, hTT⟩ : ∃ y : SndT × QueT × EchT, y = gThrough u w_194 bt (vEar cv) g q k := ⟨_, rfl⟩
  rw [← hTT] at hI2 hK2 hz
  refine ek_cast (w' := wV ad cI cJ cR cv TT.1 TT.2.1 u h TT.2.2) (by rw [hTT]) ?_
  obtain ⟨z, hzz⟩ : ∃ y : Nat, y = hCt TT.2.2 := ⟨_, rfl⟩
  rw [← hzz] at hz
  have hz60 : z ≤ 60 := by have a5 := hK2.2.2.2.1; have b5 := hK2.2.2.1; omega
  refine ek_top (v' := nI z) (by rw [← hTT, hzz]; exact if_pos rfl) ?_
  refine ek_is (lv' := [(12, .int (nI z)), (10, .long (vDigest cv u h)), (9, .int (nI bt)), (8, .int (nI w_194)), (0, .ref b), (1, .ref (ad 46)), (2, .int (nI C)), (3, .int (nI P)), (4, .int (nI t)), (5, .int (nI t)), (6, .int x6)]) X (by decide) rfl dL_law_228 ?_
  refine ek_aln X 5 rfl dL_law_230 ?_
  refine ek_il X 3 rfl dL_law_231 ?_
  refine ek_il X 2 rfl dL_law_233 ?_
  refine ek_ic (v := nI 1) X (by decide) dL_law_235 ?_
  refine ek_il X 10 rfl dL_law_236 ?_
  refine ek_ic (v := nI 4) X (by decide) dL_law_238 ?_
  refine ek_shr X dL_law_239 ?_
  refine ek_bp (v := nI 9) X (by decide) dL_law_240 ?_
  refine ek_doRi (ek_runS (As := [.int (x6 >>> ((nI 4) &&& 31)), .int (nI 9)]) (rest := [.int (nI 1), .int (nI bt), .int (nI w_194), .ref (ad 46)]) X (c_L_below l D cI cJ cR (x6 >>> ((nI 4) &&& 31)) 9 (by omega) (by omega)) gL_law_L_below rfl hd_L_below ⟨Nat.le_of_ble_eq_true rfl, Nat.le_of_ble_eq_true rfl⟩ ⟨(show ((1100 + 5000 * t + 20) + 3) + 0 ≤ 600104 by omega), (show ((9000 + 40000 * t + 200) + 18) + 0 ≤ 7301313 by omega)⟩ [] rfl (by decide) (Nat.le_of_ble_eq_true rfl) dL_law_242) (fun v_242 hv_242 => ?_)
  obtain ⟨r_242, hr_242, rfl⟩ := hv_242
  refine ek_Nadd X dL_law_245 ?_
  refine ek_il X 10 rfl dL_law_246 ?_
  refine ek_bp (v := nI 7) X (by decide) dL_law_248 ?_
  refine ek_shr X dL_law_250 ?_
  refine ek_bp (v := nI 21) X (by decide) dL_law_251 ?_
  refine ek_doRi (ek_runS (As := [.int (x6 >>> ((nI 7) &&& 31)), .int (nI 21)]) (rest := [.int (nI (1 + r_242)), .int (nI bt), .int (nI w_194), .ref (ad 46)]) X (c_L_below l D cI cJ cR (x6 >>> ((nI 7) &&& 31)) 21 (by omega) (by omega)) gL_law_L_below rfl hd_L_below ⟨Nat.le_of_ble_eq_true rfl, Nat.le_of_ble_eq_true rfl⟩ ⟨(show ((1100 + 5000 * t + 20) + 3) + 0 ≤ 600104 by omega), (show ((9000 + 40000 * t + 200) + 18) + 0 ≤ 7301313 by omega)⟩ [] rfl (by decide) (Nat.le_of_ble_eq_true rfl) dL_law_253) (fun v_253 hv_253 => ?_)
  obtain ⟨r_253, hr_253, rfl⟩ := hv_253
  refine lx_call0 (As := [.int (nI w_194), .int (nI bt), .int (nI (1 + r_242)), .int (nI r_253)]) (rest := []) (kc := 4) (ks := 24) X hZ (c_X4_advise l hl D cI cJ cR ad cv TT.1 TT.2.1 u h TT.2.2 hA.1 hI2 hK2 he w_194 bt (1 + r_242) r_253 (by omega) (by omega) (by omega) (by omega)) (fun E => by rw [show xAdv w_194 bt (1 + r_242) r_253 = 0 from by unfold xAdv; rw [if_pos ⟨hwb, by omega, by omega⟩]]; rintro ⟨h1, -⟩ <;> exact absurd h1 (by decide)) ⟨rfl, rfl⟩ gL_law_X4_advise rfl hdV_X4_advise ⟨Nat.le_of_ble_eq_true rfl, Nat.le_of_ble_eq_true rfl⟩ ⟨(show ((1100 + 5000 * t + 20) + 3) + 4 ≤ 600104 by omega), (show ((9000 + 40000 * t + 200) + 18) + 24 ≤ 7301313 by omega)⟩ (Nat.le_of_ble_eq_true rfl) dL_law_256 (fun v_256 hv_256 => ?_)
  obtain ⟨-, rfl⟩ := hv_256
  obtain ⟨⟨a1, a2, a3⟩, a4⟩ := vAdv_a (x := vEar cv) (w := w_194) (b := bt) (y := (1 + r_242)) (d := r_253) he hwb.2.2 (by omega) (by omega) hA (cC u - 1) 1 TT.1 TT.2.1 TT.2.2 hI2 hK2
  obtain ⟨VV, hVV⟩ : ∃ y : Int32 × CaveT × SndT × QueT × EchT, y = (vAdv (vEar cv) w_194 bt (1 + r_242) r_253 (cC u - 1) 1 (u, TT.1, TT.2.1, TT.2.2)) := ⟨_, rfl⟩
  rw [← hVV] at a1 a2 a3 a4
  refine ek_cast (w' := wV ad cI cJ cR cv VV.2.2.1 VV.2.2.2.1 u h VV.2.2.2.2) (by rw [← hVV, a1]) ?_
  refine ek_top (v' := VV.1) (by rw [hVV]) ?_
  rcases a4 with e4 | ⟨j4, e4, hj1, hj2⟩
  · refine ek_top (v' := -1) e4 ?_
    refine ek_is (lv' := [(13, .int (-1)), (12, .int (nI z)), (10, .long (vDigest cv u h)), (9, .int (nI bt)), (8, .int (nI w_194)), (0, .ref b), (1, .ref (ad 46)), (2, .int (nI C)), (3, .int (nI P)), (4, .int (nI t)), (5, .int (nI t)), (6, .int x6)]) X (by decide) rfl dL_law_259 ?_
    refine ek_il X 10 rfl dL_law_261 ?_
    refine ek_ic (v := nI 4) X (by decide) dL_law_263 ?_
    refine ek_Nrem X (by omega) (by omega) (by omega) dL_law_264 ?_
    refine ek_Zne X (by omega) 277 (by decide) dL_law_265 (fun c_265 => ?_) (fun c_265 => ?_)
    · skip
      refine ek_ic (v := nI 0) X (by decide) dL_law_277 ?_
      refine ek_is (lv' := [(14, .int (nI 0)), (13, .int (-1)), (12, .int (nI z)), (10, .long (vDigest cv u h)), (9, .int (nI bt)), (8, .int (nI w_194)), (0, .ref b), (1, .ref (ad 46)), (2, .int (nI C)), (3, .int (nI P)), (4, .int (nI t)), (5, .int (nI t)), (6, .int x6)]) X (by decide) rfl dL_law_278 ?_
      refine ek_aln X 7 rfl dL_law_280 ?_
      refine ek_ic (v := nI 1) X (by decide) dL_law_281 ?_
      refine ek_il X 12 rfl dL_law_282 ?_
      refine ek_bp (v := nI 9) X (by decide) dL_law_284 ?_
      refine ek_shr X dL_law_286 ?_
      refine ek_bp (v := nI 9) X (by decide) dL_law_287 ?_
      refine ek_doRi (ek_runS (As := [.int (x6 >>> ((nI 9) &&& 31)), .int (nI 9)]) (rest := [.int (nI 1), .ref (ad 46)]) X (c_L_below l D cI cJ cR (x6 >>> ((nI 9) &&& 31)) 9 (by omega) (by omega)) gL_law_L_below rfl hd_L_below ⟨Nat.le_of_ble_eq_true rfl, Nat.le_of_ble_eq_true rfl⟩ ⟨(show (((1100 + 5000 * t + 20) + 3) + 4) + 0 ≤ 600104 by omega), (show (((9000 + 40000 * t + 200) + 18) + 24) + 0 ≤ 7301313 by omega)⟩ [] rfl (by decide) (Nat.le_of_ble_eq_true rfl) dL_law_289) (fun v_289 hv_289 => ?_)
      obtain ⟨r_289, hr_289, rfl⟩ := hv_289
      refine ek_Nadd X dL_law_292 ?_
      refine ek_il X 4 rfl dL_law_293 ?_
      refine lx_call0 (As := [.int (nI (1 + r_289)), .int (nI bt)]) (rest := []) (kc := 2) (ks := 12) X hZ (c_X4_longest l hl D cI cJ cR ad cv VV.2.2.1 VV.2.2.2.1 u h VV.2.2.2.2 hA.1 a2 a3 he (1 + r_289) bt (by omega) (by omega)) (fun E => by rw [show xLong (1 + r_289) bt = 0 from by unfold xLong; rw [if_pos (by omega)]]; rintro ⟨h1, -⟩ <;> exact absurd h1 (by decide)) ⟨rfl, rfl⟩ gL_law_X4_longest rfl hdV_X4_longest ⟨Nat.le_of_ble_eq_true rfl, Nat.le_of_ble_eq_true rfl⟩ ⟨(show (((1100 + 5000 * t + 20) + 3) + 4) + 2 ≤ 600104 by omega), (show (((9000 + 40000 * t + 200) + 18) + 24) + 12 ≤ 7301313 by omega)⟩ (Nat.le_of_ble_eq_true rfl) dL_law_295 (fun v_295 hv_295 => ?_)
      obtain ⟨-, rfl⟩ := hv_295
      obtain ⟨⟨d1, d2⟩, d3⟩ := vLong_a hA.1 (x := vEar cv) (y := (1 + r_289)) (b := bt) he hwb.2.2 6 1 0 (VV.2.2.1, VV.2.2.2.1, VV.2.2.2.2) (by decide) (by decide) a2 a3
      obtain ⟨LL, hLL⟩ : ∃ y : Nat × SndT × QueT × EchT, y = (vLong u (vEar cv) (1 + r_289) bt 6 1 0 (VV.2.2.1, VV.2.2.2.1, VV.2.2.2.2)) := ⟨_, rfl⟩
      rw [← hLL] at d1 d2 d3
      refine ek_cast (w' := wV ad cI cJ cR cv LL.2.1 LL.2.2.1 u h LL.2.2.2) (by rw [hLL]) ?_
      obtain ⟨lg, hlg⟩ : ∃ y : Nat, y = LL.1 := ⟨_, rfl⟩
      rw [← hlg] at d3
      refine ek_top (v' := nI lg) (by rw [hlg, hLL]) ?_
      refine ek_is (lv' := [(15, .int (nI lg)), (14, .int (nI 0)), (13, .int (-1)), (12, .int (nI z)), (10, .long (vDigest cv u h)), (9, .int (nI bt)), (8, .int (nI w_194)), (0, .ref b), (1, .ref (ad 46)), (2, .int (nI C)), (3, .int (nI P)), (4, .int (nI t)), (5, .int (nI t)), (6, .int x6)]) X (by decide) rfl dL_law_298 ?_
      refine ek_aln X 8 rfl dL_law_300 ?_
      refine lx_dig0 (rest := []) X (c_X4_digest l D cI cJ cR ad cv LL.2.1 LL.2.2.1 u h LL.2.2.2 hA.1 hH) gL_law_X4_digest rfl hdV_X4_digest ⟨Nat.le_of_ble_eq_true rfl, Nat.le_of_ble_eq_true rfl⟩ ⟨(show ((((1100 + 5000 * t + 20) + 3) + 4) + 2) + 0 ≤ 600104 by omega), (show ((((9000 + 40000 * t + 200) + 18) + 24) + 12) + 0 ≤ 7301313 by omega)⟩ (Nat.le_of_ble_eq_true rfl) dL_law_301 ⟨rfl, rfl⟩ ?_
      refine ek_ll X 4 rfl dL_law_304 ?_
      refine ek_lcmp X dL_law_306 ?_
      refine ek_top (v' := nI 0) (lg_cmp_self _) ?_
      refine ek_Zne X (by omega) 340 (by decide) dL_law_307 (fun h => absurd h (by omega)) (fun _ => ?_)
      refine ek_il X 2 rfl dL_law_310 ?_
      refine ek_if_eq X 340 (by decide) dL_law_312 (fun c_312 => ?_) (fun c_312 => ?_)
      · exact absurd c_312 m1_ne0
      · skip
        refine ek_il X 2 rfl dL_law_315 ?_
        refine ek_iln X 9 rfl dL_law_317 ?_
        refine ek_icmp_ge X 340 (by decide) dL_law_318 (fun c_318 => ?_) (fun c_318 => ?_)
        · exact absurd c_318 (m1_nle (by omega))
        · skip
          refine ek_il X 0 rfl dL_law_321 ?_
          refine ek_Zlt X (by omega) 340 (by decide) dL_law_323 (fun c_323 => ?_) (fun c_323 => ?_)
          · exact c_323.elim
          · skip
            refine ek_il X 0 rfl dL_law_326 ?_
            refine ek_bp (v := nI 6) X (by decide) dL_law_328 ?_
            refine ek_Ngt X (by omega) (by omega) 340 (by decide) dL_law_330 (fun c_330 => ?_) (fun c_330 => ?_)
            · exact absurd c_330 (by omega)
            · skip
              refine ek_il X 1 rfl dL_law_333 ?_
              refine ek_bp (v := nI 20) X (by decide) dL_law_335 ?_
              refine ek_Nle X (by omega) (by omega) 342 (by decide) dL_law_337 (fun _ => ?_) (fun h => absurd h (by omega))
              refine ek_widen (k' := (1100 + 5000 * t + 80)) (n' := (9000 + 40000 * t + 700)) (show ((((1100 + 5000 * t + 20) + 3) + 4) + 2) ≤ (1100 + 5000 * t + 80) by omega) (show ((((9000 + 40000 * t + 200) + 18) + 24) + 12) ≤ (9000 + 40000 * t + 700) by omega) ?_
              refine ek_re [7, 8, 9, 10, 11, 12, 6, 5, 3] rfl ?_
              exact kk w_194 bt z LL.2.1 LL.2.2.1 LL.2.2.2 hwb hz60 hz d1 d2
    · skip
      refine ek_aln X 6 rfl dL_law_268 ?_
      refine ek_il X 4 rfl dL_law_269 ?_
      refine lx_call0 (As := [.int (nI w_194)]) (rest := []) (kc := 1) (ks := 6) X hZ (c_X4_quickest l hl D cI cJ cR ad cv VV.2.2.1 VV.2.2.2.1 u h VV.2.2.2.2 hA.1 a2 a3 he w_194 (by omega)) (fun E => by rw [show xQuick w_194 = 0 from by unfold xQuick; rw [if_pos hwb.1]]; rintro ⟨h1, -⟩ <;> exact absurd h1 (by decide)) ⟨rfl, rfl⟩ gL_law_X4_quickest rfl hdV_X4_quickest ⟨Nat.le_of_ble_eq_true rfl, Nat.le_of_ble_eq_true rfl⟩ ⟨(show (((1100 + 5000 * t + 20) + 3) + 4) + 1 ≤ 600104 by omega), (show (((9000 + 40000 * t + 200) + 18) + 24) + 6 ≤ 7301313 by omega)⟩ (Nat.le_of_ble_eq_true rfl) dL_law_271 (fun v_271 hv_271 => ?_)
      obtain ⟨-, rfl⟩ := hv_271
      obtain ⟨⟨b1, b2⟩, b4⟩ := vQuick_a hA.1 (x := vEar cv) (w := w_194) he 20 1 (VV.2.2.1, VV.2.2.2.1, VV.2.2.2.2) (by decide) a2 a3
      obtain ⟨QQ, hQQ⟩ : ∃ y : Int32 × SndT × QueT × EchT, y = (vQuick u (vEar cv) w_194 20 1 (VV.2.2.1, VV.2.2.2.1, VV.2.2.2.2)) := ⟨_, rfl⟩
      rw [← hQQ] at b1 b2 b4
      refine ek_cast (w' := wV ad cI cJ cR cv QQ.2.1 QQ.2.2.1 u h QQ.2.2.2) (by rw [hQQ]) ?_
      refine ek_top (v' := QQ.1) (by rw [hQQ]) ?_
      rcases b4 with e5 | ⟨j5, e5, hj5⟩
      · refine ek_top (v' := -1) e5 ?_
        refine ek_goto X 278 (by decide) dL_law_274 ?_
        refine ek_is (lv' := [(14, .int (-1)), (13, .int (-1)), (12, .int (nI z)), (10, .long (vDigest cv u h)), (9, .int (nI bt)), (8, .int (nI w_194)), (0, .ref b), (1, .ref (ad 46)), (2, .int (nI C)), (3, .int (nI P)), (4, .int (nI t)), (5, .int (nI t)), (6, .int x6)]) X (by decide) rfl dL_law_278 ?_
        refine ek_aln X 7 rfl dL_law_280 ?_
        refine ek_ic (v := nI 1) X (by decide) dL_law_281 ?_
        refine ek_il X 12 rfl dL_law_282 ?_
        refine ek_bp (v := nI 9) X (by decide) dL_law_284 ?_
        refine ek_shr X dL_law_286 ?_
        refine ek_bp (v := nI 9) X (by decide) dL_law_287 ?_
        refine ek_doRi (ek_runS (As := [.int (x6 >>> ((nI 9) &&& 31)), .int (nI 9)]) (rest := [.int (nI 1), .ref (ad 46)]) X (c_L_below l D cI cJ cR (x6 >>> ((nI 9) &&& 31)) 9 (by omega) (by omega)) gL_law_L_below rfl hd_L_below ⟨Nat.le_of_ble_eq_true rfl, Nat.le_of_ble_eq_true rfl⟩ ⟨(show ((((1100 + 5000 * t + 20) + 3) + 4) + 1) + 0 ≤ 600104 by omega), (show ((((9000 + 40000 * t + 200) + 18) + 24) + 6) + 0 ≤ 7301313 by omega)⟩ [] rfl (by decide) (Nat.le_of_ble_eq_true rfl) dL_law_289) (fun v_289 hv_289 => ?_)
        obtain ⟨r_289, hr_289, rfl⟩ := hv_289
        refine ek_Nadd X dL_law_292 ?_
        refine ek_il X 4 rfl dL_law_293 ?_
        refine lx_call0 (As := [.int (nI (1 + r_289)), .int (nI bt)]) (rest := []) (kc := 2) (ks := 12) X hZ (c_X4_longest l hl D cI cJ cR ad cv QQ.2.1 QQ.2.2.1 u h QQ.2.2.2 hA.1 b1 b2 he (1 + r_289) bt (by omega) (by omega)) (fun E => by rw [show xLong (1 + r_289) bt = 0 from by unfold xLong; rw [if_pos (by omega)]]; rintro ⟨h1, -⟩ <;> exact absurd h1 (by decide)) ⟨rfl, rfl⟩ gL_law_X4_longest rfl hdV_X4_longest ⟨Nat.le_of_ble_eq_true rfl, Nat.le_of_ble_eq_true rfl⟩ ⟨(show ((((1100 + 5000 * t + 20) + 3) + 4) + 1) + 2 ≤ 600104 by omega), (show ((((9000 + 40000 * t + 200) + 18) + 24) + 6) + 12 ≤ 7301313 by omega)⟩ (Nat.le_of_ble_eq_true rfl) dL_law_295 (fun v_295 hv_295 => ?_)
        obtain ⟨-, rfl⟩ := hv_295
        obtain ⟨⟨d1, d2⟩, d3⟩ := vLong_a hA.1 (x := vEar cv) (y := (1 + r_289)) (b := bt) he hwb.2.2 6 1 0 (QQ.2.1, QQ.2.2.1, QQ.2.2.2) (by decide) (by decide) b1 b2
        obtain ⟨LL, hLL⟩ : ∃ y : Nat × SndT × QueT × EchT, y = (vLong u (vEar cv) (1 + r_289) bt 6 1 0 (QQ.2.1, QQ.2.2.1, QQ.2.2.2)) := ⟨_, rfl⟩
        rw [← hLL] at d1 d2 d3
        refine ek_cast (w' := wV ad cI cJ cR cv LL.2.1 LL.2.2.1 u h LL.2.2.2) (by rw [hLL]) ?_
        obtain ⟨lg, hlg⟩ : ∃ y : Nat, y = LL.1 := ⟨_, rfl⟩
        rw [← hlg] at d3
        refine ek_top (v' := nI lg) (by rw [hlg, hLL]) ?_
        refine ek_is (lv' := [(15, .int (nI lg)), (14, .int (-1)), (13, .int (-1)), (12, .int (nI z)), (10, .long (vDigest cv u h)), (9, .int (nI bt)), (8, .int (nI w_194)), (0, .ref b), (1, .ref (ad 46)), (2, .int (nI C)), (3, .int (nI P)), (4, .int (nI t)), (5, .int (nI t)), (6, .int x6)]) X (by decide) rfl dL_law_298 ?_
        refine ek_aln X 8 rfl dL_law_300 ?_
        refine lx_dig0 (rest := []) X (c_X4_digest l D cI cJ cR ad cv LL.2.1 LL.2.2.1 u h LL.2.2.2 hA.1 hH) gL_law_X4_digest rfl hdV_X4_digest ⟨Nat.le_of_ble_eq_true rfl, Nat.le_of_ble_eq_true rfl⟩ ⟨(show (((((1100 + 5000 * t + 20) + 3) + 4) + 1) + 2) + 0 ≤ 600104 by omega), (show (((((9000 + 40000 * t + 200) + 18) + 24) + 6) + 12) + 0 ≤ 7301313 by omega)⟩ (Nat.le_of_ble_eq_true rfl) dL_law_301 ⟨rfl, rfl⟩ ?_
        refine ek_ll X 4 rfl dL_law_304 ?_
        refine ek_lcmp X dL_law_306 ?_
        refine ek_top (v' := nI 0) (lg_cmp_self _) ?_
        refine ek_Zne X (by omega) 340 (by decide) dL_law_307 (fun h => absurd h (by omega)) (fun _ => ?_)
        refine ek_il X 2 rfl dL_law_310 ?_
        refine ek_if_eq X 340 (by decide) dL_law_312 (fun c_312 => ?_) (fun c_312 => ?_)
        · exact absurd c_312 m1_ne0
        · skip
          refine ek_il X 2 rfl dL_law_315 ?_
          refine ek_iln X 9 rfl dL_law_317 ?_
          refine ek_icmp_ge X 340 (by decide) dL_law_318 (fun c_318 => ?_) (fun c_318 => ?_)
          · exact absurd c_318 (m1_nle (by omega))
          · skip
            refine ek_il X 0 rfl dL_law_321 ?_
            refine ek_Zlt X (by omega) 340 (by decide) dL_law_323 (fun c_323 => ?_) (fun c_323 => ?_)
            · exact c_323.elim
            · skip
              refine ek_il X 0 rfl dL_law_326 ?_
              refine ek_bp (v := nI 6) X (by decide) dL_law_328 ?_
              refine ek_Ngt X (by omega) (by omega) 340 (by decide) dL_law_330 (fun c_330 => ?_) (fun c_330 => ?_)
              · exact absurd c_330 (by omega)
              · skip
                refine ek_il X 1 rfl dL_law_333 ?_
                refine ek_bp (v := nI 20) X (by decide) dL_law_335 ?_
                refine ek_icmp_le X 342 (by decide) dL_law_337 (fun c_337 => ?_) (fun c_337 => ?_)
                · skip
                  refine ek_widen (k' := (1100 + 5000 * t + 80)) (n' := (9000 + 40000 * t + 700)) (show (((((1100 + 5000 * t + 20) + 3) + 4) + 1) + 2) ≤ (1100 + 5000 * t + 80) by omega) (show (((((9000 + 40000 * t + 200) + 18) + 24) + 6) + 12) ≤ (9000 + 40000 * t + 700) by omega) ?_
                  refine ek_re [7, 8, 9, 10, 11, 12, 6, 5, 3] rfl ?_
                  exact kk w_194 bt z LL.2.1 LL.2.2.1 LL.2.2.2 hwb hz60 hz d1 d2
                · exact absurd (show (-1 : Int32) ≤ nI 20 by decide) c_337
      · refine ek_top (v' := nI j5) e5 ?_
        refine ek_goto X 278 (by decide) dL_law_274 ?_
        refine ek_is (lv' := [(14, .int (nI j5)), (13, .int (-1)), (12, .int (nI z)), (10, .long (vDigest cv u h)), (9, .int (nI bt)), (8, .int (nI w_194)), (0, .ref b), (1, .ref (ad 46)), (2, .int (nI C)), (3, .int (nI P)), (4, .int (nI t)), (5, .int (nI t)), (6, .int x6)]) X (by decide) rfl dL_law_278 ?_
        refine ek_aln X 7 rfl dL_law_280 ?_
        refine ek_ic (v := nI 1) X (by decide) dL_law_281 ?_
        refine ek_il X 12 rfl dL_law_282 ?_
        refine ek_bp (v := nI 9) X (by decide) dL_law_284 ?_
        refine ek_shr X dL_law_286 ?_
        refine ek_bp (v := nI 9) X (by decide) dL_law_287 ?_
        refine ek_doRi (ek_runS (As := [.int (x6 >>> ((nI 9) &&& 31)), .int (nI 9)]) (rest := [.int (nI 1), .ref (ad 46)]) X (c_L_below l D cI cJ cR (x6 >>> ((nI 9) &&& 31)) 9 (by omega) (by omega)) gL_law_L_below rfl hd_L_below ⟨Nat.le_of_ble_eq_true rfl, Nat.le_of_ble_eq_true rfl⟩ ⟨(show ((((1100 + 5000 * t + 20) + 3) + 4) + 1) + 0 ≤ 600104 by omega), (show ((((9000 + 40000 * t + 200) + 18) + 24) + 6) + 0 ≤ 7301313 by omega)⟩ [] rfl (by decide) (Nat.le_of_ble_eq_true rfl) dL_law_289) (fun v_289 hv_289 => ?_)
        obtain ⟨r_289, hr_289, rfl⟩ := hv_289
        refine ek_Nadd X dL_law_292 ?_
        refine ek_il X 4 rfl dL_law_293 ?_
        refine lx_call0 (As := [.int (nI (1 + r_289)), .int (nI bt)]) (rest := []) (kc := 2) (ks := 12) X hZ (c_X4_longest l hl D cI cJ cR ad cv QQ.2.1 QQ.2.2.1 u h QQ.2.2.2 hA.1 b1 b2 he (1 + r_289) bt (by omega) (by omega)) (fun E => by rw [show xLong (1 + r_289) bt = 0 from by unfold xLong; rw [if_pos (by omega)]]; rintro ⟨h1, -⟩ <;> exact absurd h1 (by decide)) ⟨rfl, rfl⟩ gL_law_X4_longest rfl hdV_X4_longest ⟨Nat.le_of_ble_eq_true rfl, Nat.le_of_ble_eq_true rfl⟩ ⟨(show ((((1100 + 5000 * t + 20) + 3) + 4) + 1) + 2 ≤ 600104 by omega), (show ((((9000 + 40000 * t + 200) + 18) + 24) + 6) + 12 ≤ 7301313 by omega)⟩ (Nat.le_of_ble_eq_true rfl) dL_law_295 (fun v_295 hv_295 => ?_)
        obtain ⟨-, rfl⟩ := hv_295
        obtain ⟨⟨d1, d2⟩, d3⟩ := vLong_a hA.1 (x := vEar cv) (y := (1 + r_289)) (b := bt) he hwb.2.2 6 1 0 (QQ.2.1, QQ.2.2.1, QQ.2.2.2) (by decide) (by decide) b1 b2
        obtain ⟨LL, hLL⟩ : ∃ y : Nat × SndT × QueT × EchT, y = (vLong u (vEar cv) (1 + r_289) bt 6 1 0 (QQ.2.1, QQ.2.2.1, QQ.2.2.2)) := ⟨_, rfl⟩
        rw [← hLL] at d1 d2 d3
        refine ek_cast (w' := wV ad cI cJ cR cv LL.2.1 LL.2.2.1 u h LL.2.2.2) (by rw [hLL]) ?_
        obtain ⟨lg, hlg⟩ : ∃ y : Nat, y = LL.1 := ⟨_, rfl⟩
        rw [← hlg] at d3
        refine ek_top (v' := nI lg) (by rw [hlg, hLL]) ?_
        refine ek_is (lv' := [(15, .int (nI lg)), (14, .int (nI j5)), (13, .int (-1)), (12, .int (nI z)), (10, .long (vDigest cv u h)), (9, .int (nI bt)), (8, .int (nI w_194)), (0, .ref b), (1, .ref (ad 46)), (2, .int (nI C)), (3, .int (nI P)), (4, .int (nI t)), (5, .int (nI t)), (6, .int x6)]) X (by decide) rfl dL_law_298 ?_
        refine ek_aln X 8 rfl dL_law_300 ?_
        refine lx_dig0 (rest := []) X (c_X4_digest l D cI cJ cR ad cv LL.2.1 LL.2.2.1 u h LL.2.2.2 hA.1 hH) gL_law_X4_digest rfl hdV_X4_digest ⟨Nat.le_of_ble_eq_true rfl, Nat.le_of_ble_eq_true rfl⟩ ⟨(show (((((1100 + 5000 * t + 20) + 3) + 4) + 1) + 2) + 0 ≤ 600104 by omega), (show (((((9000 + 40000 * t + 200) + 18) + 24) + 6) + 12) + 0 ≤ 7301313 by omega)⟩ (Nat.le_of_ble_eq_true rfl) dL_law_301 ⟨rfl, rfl⟩ ?_
        refine ek_ll X 4 rfl dL_law_304 ?_
        refine ek_lcmp X dL_law_306 ?_
        refine ek_top (v' := nI 0) (lg_cmp_self _) ?_
        refine ek_Zne X (by omega) 340 (by decide) dL_law_307 (fun h => absurd h (by omega)) (fun _ => ?_)
        refine ek_il X 2 rfl dL_law_310 ?_
        refine ek_if_eq X 340 (by decide) dL_law_312 (fun c_312 => ?_) (fun c_312 => ?_)
        · exact absurd c_312 m1_ne0
        · skip
          refine ek_il X 2 rfl dL_law_315 ?_
          refine ek_iln X 9 rfl dL_law_317 ?_
          refine ek_icmp_ge X 340 (by decide) dL_law_318 (fun c_318 => ?_) (fun c_318 => ?_)
          · exact absurd c_318 (m1_nle (by omega))
          · skip
            refine ek_il X 0 rfl dL_law_321 ?_
            refine ek_Zlt X (by omega) 340 (by decide) dL_law_323 (fun c_323 => ?_) (fun c_323 => ?_)
            · exact c_323.elim
            · skip
              refine ek_il X 0 rfl dL_law_326 ?_
              refine ek_bp (v := nI 6) X (by decide) dL_law_328 ?_
              refine ek_Ngt X (by omega) (by omega) 340 (by decide) dL_law_330 (fun c_330 => ?_) (fun c_330 => ?_)
              · exact absurd c_330 (by omega)
              · skip
                refine ek_il X 1 rfl dL_law_333 ?_
                refine ek_bp (v := nI 20) X (by decide) dL_law_335 ?_
                refine ek_Nle X (by omega) (by omega) 342 (by decide) dL_law_337 (fun c_337 => ?_) (fun c_337 => ?_)
                · skip
                  refine ek_widen (k' := (1100 + 5000 * t + 80)) (n' := (9000 + 40000 * t + 700)) (show (((((1100 + 5000 * t + 20) + 3) + 4) + 1) + 2) ≤ (1100 + 5000 * t + 80) by omega) (show (((((9000 + 40000 * t + 200) + 18) + 24) + 6) + 12) ≤ (9000 + 40000 * t + 700) by omega) ?_
                  refine ek_re [7, 8, 9, 10, 11, 12, 6, 5, 3] rfl ?_
                  exact kk w_194 bt z LL.2.1 LL.2.2.1 LL.2.2.2 hwb hz60 hz d1 d2
                · exact absurd c_337 (by omega)
  · refine ek_top (v' := nI j4) e4 ?_
    refine ek_is (lv' := [(13, .int (nI j4)), (12, .int (nI z)), (10, .long (vDigest cv u h)), (9, .int (nI bt)), (8, .int (nI w_194)), (0, .ref b), (1, .ref (ad 46)), (2, .int (nI C)), (3, .int (nI P)), (4, .int (nI t)), (5, .int (nI t)), (6, .int x6)]) X (by decide) rfl dL_law_259 ?_
    refine ek_il X 10 rfl dL_law_261 ?_
    refine ek_ic (v := nI 4) X (by decide) dL_law_263 ?_
    refine ek_Nrem X (by omega) (by omega) (by omega) dL_law_264 ?_
    refine ek_Zne X (by omega) 277 (by decide) dL_law_265 (fun c_265 => ?_) (fun c_265 => ?_)
    · skip
      refine ek_ic (v := nI 0) X (by decide) dL_law_277 ?_
      refine ek_is (lv' := [(14, .int (nI 0)), (13, .int (nI j4)), (12, .int (nI z)), (10, .long (vDigest cv u h)), (9, .int (nI bt)), (8, .int (nI w_194)), (0, .ref b), (1, .ref (ad 46)), (2, .int (nI C)), (3, .int (nI P)), (4, .int (nI t)), (5, .int (nI t)), (6, .int x6)]) X (by decide) rfl dL_law_278 ?_
      refine ek_aln X 7 rfl dL_law_280 ?_
      refine ek_ic (v := nI 1) X (by decide) dL_law_281 ?_
      refine ek_il X 12 rfl dL_law_282 ?_
      refine ek_bp (v := nI 9) X (by decide) dL_law_284 ?_
      refine ek_shr X dL_law_286 ?_
      refine ek_bp (v := nI 9) X (by decide) dL_law_287 ?_
      refine ek_doRi (ek_runS (As := [.int (x6 >>> ((nI 9) &&& 31)), .int (nI 9)]) (rest := [.int (nI 1), .ref (ad 46)]) X (c_L_below l D cI cJ cR (x6 >>> ((nI 9) &&& 31)) 9 (by omega) (by omega)) gL_law_L_below rfl hd_L_below ⟨Nat.le_of_ble_eq_true rfl, Nat.le_of_ble_eq_true rfl⟩ ⟨(show (((1100 + 5000 * t + 20) + 3) + 4) + 0 ≤ 600104 by omega), (show (((9000 + 40000 * t + 200) + 18) + 24) + 0 ≤ 7301313 by omega)⟩ [] rfl (by decide) (Nat.le_of_ble_eq_true rfl) dL_law_289) (fun v_289 hv_289 => ?_)
      obtain ⟨r_289, hr_289, rfl⟩ := hv_289
      refine ek_Nadd X dL_law_292 ?_
      refine ek_il X 4 rfl dL_law_293 ?_
      refine lx_call0 (As := [.int (nI (1 + r_289)), .int (nI bt)]) (rest := []) (kc := 2) (ks := 12) X hZ (c_X4_longest l hl D cI cJ cR ad cv VV.2.2.1 VV.2.2.2.1 u h VV.2.2.2.2 hA.1 a2 a3 he (1 + r_289) bt (by omega) (by omega)) (fun E => by rw [show xLong (1 + r_289) bt = 0 from by unfold xLong; rw [if_pos (by omega)]]; rintro ⟨h1, -⟩ <;> exact absurd h1 (by decide)) ⟨rfl, rfl⟩ gL_law_X4_longest rfl hdV_X4_longest ⟨Nat.le_of_ble_eq_true rfl, Nat.le_of_ble_eq_true rfl⟩ ⟨(show (((1100 + 5000 * t + 20) + 3) + 4) + 2 ≤ 600104 by omega), (show (((9000 + 40000 * t + 200) + 18) + 24) + 12 ≤ 7301313 by omega)⟩ (Nat.le_of_ble_eq_true rfl) dL_law_295 (fun v_295 hv_295 => ?_)
      obtain ⟨-, rfl⟩ := hv_295
      obtain ⟨⟨d1, d2⟩, d3⟩ := vLong_a hA.1 (x := vEar cv) (y := (1 + r_289)) (b := bt) he hwb.2.2 6 1 0 (VV.2.2.1, VV.2.2.2.1, VV.2.2.2.2) (by decide) (by decide) a2 a3
      obtain ⟨LL, hLL⟩ : ∃ y : Nat × SndT × QueT × EchT, y = (vLong u (vEar cv) (1 + r_289) bt 6 1 0 (VV.2.2.1, VV.2.2.2.1, VV.2.2.2.2)) := ⟨_, rfl⟩
      rw [← hLL] at d1 d2 d3
      refine ek_cast (w' := wV ad cI cJ cR cv LL.2.1 LL.2.2.1 u h LL.2.2.2) (by rw [hLL]) ?_
      obtain ⟨lg, hlg⟩ : ∃ y : Nat, y = LL.1 := ⟨_, rfl⟩
      rw [← hlg] at d3
      refine ek_top (v' := nI lg) (by rw [hlg, hLL]) ?_
      refine ek_is (lv' := [(15, .int (nI lg)), (14, .int (nI 0)), (13, .int (nI j4)), (12, .int (nI z)), (10, .long (vDigest cv u h)), (9, .int (nI bt)), (8, .int (nI w_194)), (0, .ref b), (1, .ref (ad 46)), (2, .int (nI C)), (3, .int (nI P)), (4, .int (nI t)), (5, .int (nI t)), (6, .int x6)]) X (by decide) rfl dL_law_298 ?_
      refine ek_aln X 8 rfl dL_law_300 ?_
      refine lx_dig0 (rest := []) X (c_X4_digest l D cI cJ cR ad cv LL.2.1 LL.2.2.1 u h LL.2.2.2 hA.1 hH) gL_law_X4_digest rfl hdV_X4_digest ⟨Nat.le_of_ble_eq_true rfl, Nat.le_of_ble_eq_true rfl⟩ ⟨(show ((((1100 + 5000 * t + 20) + 3) + 4) + 2) + 0 ≤ 600104 by omega), (show ((((9000 + 40000 * t + 200) + 18) + 24) + 12) + 0 ≤ 7301313 by omega)⟩ (Nat.le_of_ble_eq_true rfl) dL_law_301 ⟨rfl, rfl⟩ ?_
      refine ek_ll X 4 rfl dL_law_304 ?_
      refine ek_lcmp X dL_law_306 ?_
      refine ek_top (v' := nI 0) (lg_cmp_self _) ?_
      refine ek_Zne X (by omega) 340 (by decide) dL_law_307 (fun h => absurd h (by omega)) (fun _ => ?_)
      refine ek_il X 2 rfl dL_law_310 ?_
      refine ek_Zeq X (by omega) 340 (by decide) dL_law_312 (fun c_312 => ?_) (fun c_312 => ?_)
      · exact absurd c_312 (by omega)
      · skip
        refine ek_il X 2 rfl dL_law_315 ?_
        refine ek_iln X 9 rfl dL_law_317 ?_
        refine ek_Nge X (by omega) (by omega) 340 (by decide) dL_law_318 (fun c_318 => ?_) (fun c_318 => ?_)
        · exact absurd c_318 (by omega)
        · skip
          refine ek_il X 0 rfl dL_law_321 ?_
          refine ek_Zlt X (by omega) 340 (by decide) dL_law_323 (fun c_323 => ?_) (fun c_323 => ?_)
          · exact c_323.elim
          · skip
            refine ek_il X 0 rfl dL_law_326 ?_
            refine ek_bp (v := nI 6) X (by decide) dL_law_328 ?_
            refine ek_Ngt X (by omega) (by omega) 340 (by decide) dL_law_330 (fun c_330 => ?_) (fun c_330 => ?_)
            · exact absurd c_330 (by omega)
            · skip
              refine ek_il X 1 rfl dL_law_333 ?_
              refine ek_bp (v := nI 20) X (by decide) dL_law_335 ?_
              refine ek_Nle X (by omega) (by omega) 342 (by decide) dL_law_337 (fun _ => ?_) (fun h => absurd h (by omega))
              refine ek_widen (k' := (1100 + 5000 * t + 80)) (n' := (9000 + 40000 * t + 700)) (show ((((1100 + 5000 * t + 20) + 3) + 4) + 2) ≤ (1100 + 5000 * t + 80) by omega) (show ((((9000 + 40000 * t + 200) + 18) + 24) + 12) ≤ (9000 + 40000 * t + 700) by omega) ?_
              refine ek_re [7, 8, 9, 10, 11, 12, 6, 5, 3] rfl ?_
              exact kk w_194 bt z LL.2.1 LL.2.2.1 LL.2.2.2 hwb hz60 hz d1 d2
    · skip
      refine ek_aln X 6 rfl dL_law_268 ?_
      refine ek_il X 4 rfl dL_law_269 ?_
      refine lx_call0 (As := [.int (nI w_194)]) (rest := []) (kc := 1) (ks := 6) X hZ (c_X4_quickest l hl D cI cJ cR ad cv VV.2.2.1 VV.2.2.2.1 u h VV.2.2.2.2 hA.1 a2 a3 he w_194 (by omega)) (fun E => by rw [show xQuick w_194 = 0 from by unfold xQuick; rw [if_pos hwb.1]]; rintro ⟨h1, -⟩ <;> exact absurd h1 (by decide)) ⟨rfl, rfl⟩ gL_law_X4_quickest rfl hdV_X4_quickest ⟨Nat.le_of_ble_eq_true rfl, Nat.le_of_ble_eq_true rfl⟩ ⟨(show (((1100 + 5000 * t + 20) + 3) + 4) + 1 ≤ 600104 by omega), (show (((9000 + 40000 * t + 200) + 18) + 24) + 6 ≤ 7301313 by omega)⟩ (Nat.le_of_ble_eq_true rfl) dL_law_271 (fun v_271 hv_271 => ?_)
      obtain ⟨-, rfl⟩ := hv_271
      obtain ⟨⟨b1, b2⟩, b4⟩ := vQuick_a hA.1 (x := vEar cv) (w := w_194) he 20 1 (VV.2.2.1, VV.2.2.2.1, VV.2.2.2.2) (by decide) a2 a3
      obtain ⟨QQ, hQQ⟩ : ∃ y : Int32 × SndT × QueT × EchT, y = (vQuick u (vEar cv) w_194 20 1 (VV.2.2.1, VV.2.2.2.1, VV.2.2.2.2)) := ⟨_, rfl⟩
      rw [← hQQ] at b1 b2 b4
      refine ek_cast (w' := wV ad cI cJ cR cv QQ.2.1 QQ.2.2.1 u h QQ.2.2.2) (by rw [hQQ]) ?_
      refine ek_top (v' := QQ.1) (by rw [hQQ]) ?_
      rcases b4 with e5 | ⟨j5, e5, hj5⟩
      · refine ek_top (v' := -1) e5 ?_
        refine ek_goto X 278 (by decide) dL_law_274 ?_
        refine ek_is (lv' := [(14, .int (-1)), (13, .int (nI j4)), (12, .int (nI z)), (10, .long (vDigest cv u h)), (9, .int (nI bt)), (8, .int (nI w_194)), (0, .ref b), (1, .ref (ad 46)), (2, .int (nI C)), (3, .int (nI P)), (4, .int (nI t)), (5, .int (nI t)), (6, .int x6)]) X (by decide) rfl dL_law_278 ?_
        refine ek_aln X 7 rfl dL_law_280 ?_
        refine ek_ic (v := nI 1) X (by decide) dL_law_281 ?_
        refine ek_il X 12 rfl dL_law_282 ?_
        refine ek_bp (v := nI 9) X (by decide) dL_law_284 ?_
        refine ek_shr X dL_law_286 ?_
        refine ek_bp (v := nI 9) X (by decide) dL_law_287 ?_
        refine ek_doRi (ek_runS (As := [.int (x6 >>> ((nI 9) &&& 31)), .int (nI 9)]) (rest := [.int (nI 1), .ref (ad 46)]) X (c_L_below l D cI cJ cR (x6 >>> ((nI 9) &&& 31)) 9 (by omega) (by omega)) gL_law_L_below rfl hd_L_below ⟨Nat.le_of_ble_eq_true rfl, Nat.le_of_ble_eq_true rfl⟩ ⟨(show ((((1100 + 5000 * t + 20) + 3) + 4) + 1) + 0 ≤ 600104 by omega), (show ((((9000 + 40000 * t + 200) + 18) + 24) + 6) + 0 ≤ 7301313 by omega)⟩ [] rfl (by decide) (Nat.le_of_ble_eq_true rfl) dL_law_289) (fun v_289 hv_289 => ?_)
        obtain ⟨r_289, hr_289, rfl⟩ := hv_289
        refine ek_Nadd X dL_law_292 ?_
        refine ek_il X 4 rfl dL_law_293 ?_
        refine lx_call0 (As := [.int (nI (1 + r_289)), .int (nI bt)]) (rest := []) (kc := 2) (ks := 12) X hZ (c_X4_longest l hl D cI cJ cR ad cv QQ.2.1 QQ.2.2.1 u h QQ.2.2.2 hA.1 b1 b2 he (1 + r_289) bt (by omega) (by omega)) (fun E => by rw [show xLong (1 + r_289) bt = 0 from by unfold xLong; rw [if_pos (by omega)]]; rintro ⟨h1, -⟩ <;> exact absurd h1 (by decide)) ⟨rfl, rfl⟩ gL_law_X4_longest rfl hdV_X4_longest ⟨Nat.le_of_ble_eq_true rfl, Nat.le_of_ble_eq_true rfl⟩ ⟨(show ((((1100 + 5000 * t + 20) + 3) + 4) + 1) + 2 ≤ 600104 by omega), (show ((((9000 + 40000 * t + 200) + 18) + 24) + 6) + 12 ≤ 7301313 by omega)⟩ (Nat.le_of_ble_eq_true rfl) dL_law_295 (fun v_295 hv_295 => ?_)
        obtain ⟨-, rfl⟩ := hv_295
        obtain ⟨⟨d1, d2⟩, d3⟩ := vLong_a hA.1 (x := vEar cv) (y := (1 + r_289)) (b := bt) he hwb.2.2 6 1 0 (QQ.2.1, QQ.2.2.1, QQ.2.2.2) (by decide) (by decide) b1 b2
        obtain ⟨LL, hLL⟩ : ∃ y : Nat × SndT × QueT × EchT, y = (vLong u (vEar cv) (1 + r_289) bt 6 1 0 (QQ.2.1, QQ.2.2.1, QQ.2.2.2)) := ⟨_, rfl⟩
        rw [← hLL] at d1 d2 d3
        refine ek_cast (w' := wV ad cI cJ cR cv LL.2.1 LL.2.2.1 u h LL.2.2.2) (by rw [hLL]) ?_
        obtain ⟨lg, hlg⟩ : ∃ y : Nat, y = LL.1 := ⟨_, rfl⟩
        rw [← hlg] at d3
        refine ek_top (v' := nI lg) (by rw [hlg, hLL]) ?_
        refine ek_is (lv' := [(15, .int (nI lg)), (14, .int (-1)), (13, .int (nI j4)), (12, .int (nI z)), (10, .long (vDigest cv u h)), (9, .int (nI bt)), (8, .int (nI w_194)), (0, .ref b), (1, .ref (ad 46)), (2, .int (nI C)), (3, .int (nI P)), (4, .int (nI t)), (5, .int (nI t)), (6, .int x6)]) X (by decide) rfl dL_law_298 ?_
        refine ek_aln X 8 rfl dL_law_300 ?_
        refine lx_dig0 (rest := []) X (c_X4_digest l D cI cJ cR ad cv LL.2.1 LL.2.2.1 u h LL.2.2.2 hA.1 hH) gL_law_X4_digest rfl hdV_X4_digest ⟨Nat.le_of_ble_eq_true rfl, Nat.le_of_ble_eq_true rfl⟩ ⟨(show (((((1100 + 5000 * t + 20) + 3) + 4) + 1) + 2) + 0 ≤ 600104 by omega), (show (((((9000 + 40000 * t + 200) + 18) + 24) + 6) + 12) + 0 ≤ 7301313 by omega)⟩ (Nat.le_of_ble_eq_true rfl) dL_law_301 ⟨rfl, rfl⟩ ?_
        refine ek_ll X 4 rfl dL_law_304 ?_
        refine ek_lcmp X dL_law_306 ?_
        refine ek_top (v' := nI 0) (lg_cmp_self _) ?_
        refine ek_Zne X (by omega) 340 (by decide) dL_law_307 (fun h => absurd h (by omega)) (fun _ => ?_)
        refine ek_il X 2 rfl dL_law_310 ?_
        refine ek_Zeq X (by omega) 340 (by decide) dL_law_312 (fun c_312 => ?_) (fun c_312 => ?_)
        · exact absurd c_312 (by omega)
        · skip
          refine ek_il X 2 rfl dL_law_315 ?_
          refine ek_iln X 9 rfl dL_law_317 ?_
          refine ek_Nge X (by omega) (by omega) 340 (by decide) dL_law_318 (fun c_318 => ?_) (fun c_318 => ?_)
          · exact absurd c_318 (by omega)
          · skip
            refine ek_il X 0 rfl dL_law_321 ?_
            refine ek_Zlt X (by omega) 340 (by decide) dL_law_323 (fun c_323 => ?_) (fun c_323 => ?_)
            · exact c_323.elim
            · skip
              refine ek_il X 0 rfl dL_law_326 ?_
              refine ek_bp (v := nI 6) X (by decide) dL_law_328 ?_
              refine ek_Ngt X (by omega) (by omega) 340 (by decide) dL_law_330 (fun c_330 => ?_) (fun c_330 => ?_)
              · exact absurd c_330 (by omega)
              · skip
                refine ek_il X 1 rfl dL_law_333 ?_
                refine ek_bp (v := nI 20) X (by decide) dL_law_335 ?_
                refine ek_icmp_le X 342 (by decide) dL_law_337 (fun c_337 => ?_) (fun c_337 => ?_)
                · skip
                  refine ek_widen (k' := (1100 + 5000 * t + 80)) (n' := (9000 + 40000 * t + 700)) (show (((((1100 + 5000 * t + 20) + 3) + 4) + 1) + 2) ≤ (1100 + 5000 * t + 80) by omega) (show (((((9000 + 40000 * t + 200) + 18) + 24) + 6) + 12) ≤ (9000 + 40000 * t + 700) by omega) ?_
                  refine ek_re [7, 8, 9, 10, 11, 12, 6, 5, 3] rfl ?_
                  exact kk w_194 bt z LL.2.1 LL.2.2.1 LL.2.2.2 hwb hz60 hz d1 d2
                · exact absurd (show (-1 : Int32) ≤ nI 20 by decide) c_337
      · refine ek_top (v' := nI j5) e5 ?_
        refine ek_goto X 278 (by decide) dL_law_274 ?_
        refine ek_is (lv' := [(14, .int (nI j5)), (13, .int (nI j4)), (12, .int (nI z)), (10, .long (vDigest cv u h)), (9, .int (nI bt)), (8, .int (nI w_194)), (0, .ref b), (1, .ref (ad 46)), (2, .int (nI C)), (3, .int (nI P)), (4, .int (nI t)), (5, .int (nI t)), (6, .int x6)]) X (by decide) rfl dL_law_278 ?_
        refine ek_aln X 7 rfl dL_law_280 ?_
        refine ek_ic (v := nI 1) X (by decide) dL_law_281 ?_
        refine ek_il X 12 rfl dL_law_282 ?_
        refine ek_bp (v := nI 9) X (by decide) dL_law_284 ?_
        refine ek_shr X dL_law_286 ?_
        refine ek_bp (v := nI 9) X (by decide) dL_law_287 ?_
        refine ek_doRi (ek_runS (As := [.int (x6 >>> ((nI 9) &&& 31)), .int (nI 9)]) (rest := [.int (nI 1), .ref (ad 46)]) X (c_L_below l D cI cJ cR (x6 >>> ((nI 9) &&& 31)) 9 (by omega) (by omega)) gL_law_L_below rfl hd_L_below ⟨Nat.le_of_ble_eq_true rfl, Nat.le_of_ble_eq_true rfl⟩ ⟨(show ((((1100 + 5000 * t + 20) + 3) + 4) + 1) + 0 ≤ 600104 by omega), (show ((((9000 + 40000 * t + 200) + 18) + 24) + 6) + 0 ≤ 7301313 by omega)⟩ [] rfl (by decide) (Nat.le_of_ble_eq_true rfl) dL_law_289) (fun v_289 hv_289 => ?_)
        obtain ⟨r_289, hr_289, rfl⟩ := hv_289
        refine ek_Nadd X dL_law_292 ?_
        refine ek_il X 4 rfl dL_law_293 ?_
        refine lx_call0 (As := [.int (nI (1 + r_289)), .int (nI bt)]) (rest := []) (kc := 2) (ks := 12) X hZ (c_X4_longest l hl D cI cJ cR ad cv QQ.2.1 QQ.2.2.1 u h QQ.2.2.2 hA.1 b1 b2 he (1 + r_289) bt (by omega) (by omega)) (fun E => by rw [show xLong (1 + r_289) bt = 0 from by unfold xLong; rw [if_pos (by omega)]]; rintro ⟨h1, -⟩ <;> exact absurd h1 (by decide)) ⟨rfl, rfl⟩ gL_law_X4_longest rfl hdV_X4_longest ⟨Nat.le_of_ble_eq_true rfl, Nat.le_of_ble_eq_true rfl⟩ ⟨(show ((((1100 + 5000 * t + 20) + 3) + 4) + 1) + 2 ≤ 600104 by omega), (show ((((9000 + 40000 * t + 200) + 18) + 24) + 6) + 12 ≤ 7301313 by omega)⟩ (Nat.le_of_ble_eq_true rfl) dL_law_295 (fun v_295 hv_295 => ?_)
        obtain ⟨-, rfl⟩ := hv_295
        obtain ⟨⟨d1, d2⟩, d3⟩ := vLong_a hA.1 (x := vEar cv) (y := (1 + r_289)) (b := bt) he hwb.2.2 6 1 0 (QQ.2.1, QQ.2.2.1, QQ.2.2.2) (by decide) (by decide) b1 b2
        obtain ⟨LL, hLL⟩ : ∃ y : Nat × SndT × QueT × EchT, y = (vLong u (vEar cv) (1 + r_289) bt 6 1 0 (QQ.2.1, QQ.2.2.1, QQ.2.2.2)) := ⟨_, rfl⟩
        rw [← hLL] at d1 d2 d3
        refine ek_cast (w' := wV ad cI cJ cR cv LL.2.1 LL.2.2.1 u h LL.2.2.2) (by rw [hLL]) ?_
        obtain ⟨lg, hlg⟩ : ∃ y : Nat, y = LL.1 := ⟨_, rfl⟩
        rw [← hlg] at d3
        refine ek_top (v' := nI lg) (by rw [hlg, hLL]) ?_
        refine ek_is (lv' := [(15, .int (nI lg)), (14, .int (nI j5)), (13, .int (nI j4)), (12, .int (nI z)), (10, .long (vDigest cv u h)), (9, .int (nI bt)), (8, .int (nI w_194)), (0, .ref b), (1, .ref (ad 46)), (2, .int (nI C)), (3, .int (nI P)), (4, .int (nI t)), (5, .int (nI t)), (6, .int x6)]) X (by decide) rfl dL_law_298 ?_
        refine ek_aln X 8 rfl dL_law_300 ?_
        refine lx_dig0 (rest := []) X (c_X4_digest l D cI cJ cR ad cv LL.2.1 LL.2.2.1 u h LL.2.2.2 hA.1 hH) gL_law_X4_digest rfl hdV_X4_digest ⟨Nat.le_of_ble_eq_true rfl, Nat.le_of_ble_eq_true rfl⟩ ⟨(show (((((1100 + 5000 * t + 20) + 3) + 4) + 1) + 2) + 0 ≤ 600104 by omega), (show (((((9000 + 40000 * t + 200) + 18) + 24) + 6) + 12) + 0 ≤ 7301313 by omega)⟩ (Nat.le_of_ble_eq_true rfl) dL_law_301 ⟨rfl, rfl⟩ ?_
        refine ek_ll X 4 rfl dL_law_304 ?_
        refine ek_lcmp X dL_law_306 ?_
        refine ek_top (v' := nI 0) (lg_cmp_self _) ?_
        refine ek_Zne X (by omega) 340 (by decide) dL_law_307 (fun h => absurd h (by omega)) (fun _ => ?_)
        refine ek_il X 2 rfl dL_law_310 ?_
        refine ek_Zeq X (by omega) 340 (by decide) dL_law_312 (fun c_312 => ?_) (fun c_312 => ?_)
        · exact absurd c_312 (by omega)
        · skip
          refine ek_il X 2 rfl dL_law_315 ?_
          refine ek_iln X 9 rfl dL_law_317 ?_
          refine ek_Nge X (by omega) (by omega) 340 (by decide) dL_law_318 (fun c_318 => ?_) (fun c_318 => ?_)
          · exact absurd c_318 (by omega)
          · skip
            refine ek_il X 0 rfl dL_law_321 ?_
            refine ek_Zlt X (by omega) 340 (by decide) dL_law_323 (fun c_323 => ?_) (fun c_323 => ?_)
            · exact c_323.elim
            · skip
              refine ek_il X 0 rfl dL_law_326 ?_
              refine ek_bp (v := nI 6) X (by decide) dL_law_328 ?_
              refine ek_Ngt X (by omega) (by omega) 340 (by decide) dL_law_330 (fun c_330 => ?_) (fun c_330 => ?_)
              · exact absurd c_330 (by omega)
              · skip
                refine ek_il X 1 rfl dL_law_333 ?_
                refine ek_bp (v := nI 20) X (by decide) dL_law_335 ?_
                refine ek_Nle X (by omega) (by omega) 342 (by decide) dL_law_337 (fun c_337 => ?_) (fun c_337 => ?_)
                · skip
                  refine ek_widen (k' := (1100 + 5000 * t + 80)) (n' := (9000 + 40000 * t + 700)) (show (((((1100 + 5000 * t + 20) + 3) + 4) + 1) + 2) ≤ (1100 + 5000 * t + 80) by omega) (show (((((9000 + 40000 * t + 200) + 18) + 24) + 6) + 12) ≤ (9000 + 40000 * t + 700) by omega) ?_
                  refine ek_re [7, 8, 9, 10, 11, 12, 6, 5, 3] rfl ?_
                  exact kk w_194 bt z LL.2.1 LL.2.2.1 LL.2.2.2 hwb hz60 hz d1 d2
                · exact absurd c_337 (by omega)
