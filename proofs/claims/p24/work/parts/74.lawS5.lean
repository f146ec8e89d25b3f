/-! ===== the law's body, S5 ===== -/
set_option maxHeartbeats 4000000 in
set_option maxRecDepth 100000 in
theorem law_S5 {p : Program} {l : Launch} {e : Env} {s9 : State} {m9 : MethodId} {args9 : Array Value} {below9 : List Frame} {meth9 : Method} {c9 : Code} {D : va_G} {cI cJ cR : ClassId} {A : Nat → Prop} {Q : State → Prop} {ad : Nat → Nat} {b L : Nat} {xs : Nat → Int32} (X : ek_X p s9 m9 args9 meth9 c9 RL cL_law 29 (some .boolean) wsL_law nestW D (tyW cI cJ cR) A A True) (hl : l.stackTraces = false) (hZ : ek_Zt A s9) (hS9 : ek_S9 A b L xs s9) {C P t : Nat} {cv : CavT} {g : SndT} {q : QueT} {u : CaveT} {h k : EchT} (hA : cAll u) (hC : cC u = C) (hP : cP u = P) (hC2 : 2 ≤ C) (hI : sOk g q) (hH : hOk h) (hKk : hOk k) (he1 : 1 ≤ vEar cv) (he : vEar cv ≤ 50) (ht : t < 24) {w bt z : Nat} (hwb : wbOk w bt) (hz60 : z ≤ 60) {lst : Nat} (hL : cLst u lst) (hl9 : lst ≤ 99) (hz : ∀ (g9 : SndT) (q9 : QueT) (h9 : EchT), hCt (gThrough u w bt (vEar cv) g9 q9 h9).2.2 = z)
    (kk : ∀ (g' : SndT) (q' : QueT) (h' : EchT) (T5 n : Nat) (dg : Nat → Nat) (ff : Nat → Int32) (qd qf : Nat), sOk g' q' → hOk h' → jE lst bt T5 w n (vEar cv) h' → 1 ≤ n → n ≤ 6 → (∀ p, p < n → dg p = w / 10 ^ (n - 1 - p) % 10) → (∀ p, p < 6 → ff p = -1) → hCt h' = z → ek_G p l e room_1 s9 m9 args9 below9 meth9 c9 29 D A A (1100 + 5000 * t + 1450) (9000 + 40000 * t + 9300) Q ((wV ad cI cJ cR (vEar cv, vSaid cv + 1, w) g' q' u h' k) ++ [(qd, .inl (cI, 6, .inl (fun j => nI (dg j)))), (qf, .inl (cI, 6, .inl ff))]) 655 [(0, .ref b), (1, .ref (ad 46)), (2, .int (nI C)), (3, .int (nI P)), (4, .int (nI (t + 1))), (5, .int (nI t)), (8, .int (nI w)), (9, .int (nI bt)), (12, .int (nI z)), (17, .int (nI lst)), (18, .int (nI n)), (19, .ref qd), (21, .int (nI (hK h'))), (22, .int (nI 0)), (23, .int (nI 0)), (24, .int (nI 0)), (25, .ref qf)] []) : ek_G p l e room_1 s9 m9 args9 below9 meth9 c9 29 D A A (1100 + 5000 * t + 1400) (9000 + 40000 * t + 9000) Q (wV ad cI cJ cR cv g q u h k) 521 [(0, .ref b), (1, .ref (ad 46)), (2, .int (nI C)), (3, .int (nI P)), (4, .int (nI t)), (5, .int (nI t)), (8, .int (nI w)), (9, .int (nI bt)), (12, .int (nI z)), (17, .int (nI lst))] [] := by
  have hC12 : C ≤ 12 := by have := hA.1.1.2; omega
  have hP18 : P ≤ 18 := by have := hA.1.2.1; omega
  have hb1 := hwb.2.1
  have hb2 := hwb.2.2
  have hw9 := hwb.1.1.2
  refine ek_aln X 1 rfl dL_law_521 ?_
  refine ek_il X 6 rfl dL_law_522 ?_
  refine ek_il X 7 rfl dL_law_524 ?_
  refine lx_call0 (As := [.int (nI w), .int (nI bt)]) (rest := []) (kc := 2) (ks := 12) X hZ (c_X4_say l hl D cI cJ cR ad cv g q u h k hA.1 hI hH he w bt (by omega) (by omega)) (fun E => by rw [show xSay w bt = 0 from by unfold xSay; rw [if_pos hwb]]; rintro ⟨h1, -⟩ <;> exact absurd h1 (by decide)) ⟨rfl, rfl⟩ gL_law_X4_say rfl hdV_X4_say ⟨Nat.le_of_ble_eq_true rfl, Nat.le_of_ble_eq_true rfl⟩ ⟨(show (1100 + 5000 * t + 1400) + 2 ≤ 600104 by omega), (show (9000 + 40000 * t + 9000) + 12 ≤ 7301313 by omega)⟩ (Nat.le_of_ble_eq_true rfl) dL_law_526 (fun v_526 hv_526 => ?_)
  obtain ⟨-, rfl⟩ := hv_526
  obtain ⟨hI5, hH5⟩ := gThrough_ok hA.1 hI hH (w := w) (b := bt) (x := vEar cv) hwb.2.2 he
  have hz5 := hz g q h
  obtain ⟨T5, hE⟩ := jThrough (L := lst) (w := w) (B := bt) (x := vEar cv) (g := g) (q := q) (h := h) hA.1 hA.2.1 hL hwb.2.2
  obtain ⟨TT, hTT⟩ : ∃ y : SndT × QueT × EchT, y = gThrough u w bt (vEar cv) g q h := ⟨_, rfl⟩
  rw [← hTT] at hI5 hH5 hz5 hE
  refine ek_cast (w' := wV ad cI cJ cR (vEar cv, vSaid cv + 1, w) TT.1 TT.2.1 u TT.2.2 k) (by rw [hTT]) ?_
  refine ek_top (v' := nI z) (by rw [← hTT, hz5]) ?_
  have hk60 := hH5.2.2.1
  refine ek_il X 8 rfl dL_law_529 ?_
  refine ek_Neq X (by omega) (by omega) 536 (by decide) dL_law_531 (fun c_531 => ?_) (fun c_531 => ?_)
  · skip
    refine ek_Ninc (j := 4) (d := 1) (lv' := [(4, .int (nI (t + 1))), (0, .ref b), (1, .ref (ad 46)), (2, .int (nI C)), (3, .int (nI P)), (5, .int (nI t)), (8, .int (nI w)), (9, .int (nI bt)), (12, .int (nI z)), (17, .int (nI lst))]) X rfl (by decide) rfl dL_law_536 ?_
    refine ek_ic (v := nI 0) X (by decide) dL_law_539 ?_
    refine ek_is (lv' := [(18, .int (nI 0)), (4, .int (nI (t + 1))), (0, .ref b), (1, .ref (ad 46)), (2, .int (nI C)), (3, .int (nI P)), (5, .int (nI t)), (8, .int (nI w)), (9, .int (nI bt)), (12, .int (nI z)), (17, .int (nI lst))]) X (by decide) rfl dL_law_540 ?_
    refine ek_bp (v := nI 6) X (by decide) dL_law_542 ?_
    refine ek_newI X 0 rfl (List.mem_of_getElem? (i := 4) rfl) (by omega) ⟨(show ((1100 + 5000 * t + 1400) + 2) + 1 ≤ 600104 by omega), (show ((9000 + 40000 * t + 9000) + 12) + 6 ≤ 7301313 by omega)⟩ dL_law_544 (fun q544 => ?_)
    refine ek_cast (w' := (wV ad cI cJ cR (vEar cv, vSaid cv + 1, w) TT.1 TT.2.1 u TT.2.2 k) ++ [(q544, .inl (cI, 6, .inl (fun j => nI (((fun _ => 0)) j))))]) rfl ?_
    refine ek_as (lv' := [(19, .ref q544), (18, .int (nI 0)), (4, .int (nI (t + 1))), (0, .ref b), (1, .ref (ad 46)), (2, .int (nI C)), (3, .int (nI P)), (5, .int (nI t)), (8, .int (nI w)), (9, .int (nI bt)), (12, .int (nI z)), (17, .int (nI lst))]) X (by decide) rfl dL_law_546 ?_
    refine ek_il X 8 rfl dL_law_548 ?_
    refine ek_is (lv' := [(20, .int (nI w)), (19, .ref q544), (18, .int (nI 0)), (4, .int (nI (t + 1))), (0, .ref b), (1, .ref (ad 46)), (2, .int (nI C)), (3, .int (nI P)), (5, .int (nI t)), (8, .int (nI w)), (9, .int (nI bt)), (12, .int (nI z)), (17, .int (nI lst))]) X (by decide) rfl dL_law_550 ?_
    refine ek_loopKn (σ := Nat × Nat) (fun zz => (fun (left : Nat) (cnt : Nat) => (1100 + 5000 * t + 1410)) zz.1 zz.2) (fun zz => (fun (left : Nat) (cnt : Nat) => (9000 + 40000 * t + 9100)) zz.1 zz.2) (fun zz => (fun (left : Nat) (cnt : Nat) => cnt ≤ 6 ∧ left < 10 ^ (6 - cnt) ∧ dgs 6 w = cnt + dgs (6 - cnt) left) zz.1 zz.2) (fun zz => (fun (left : Nat) (cnt : Nat) => left) zz.1 zz.2) (fun zz => (fun (left : Nat) (cnt : Nat) => (wV ad cI cJ cR (vEar cv, vSaid cv + 1, w) TT.1 TT.2.1 u TT.2.2 k) ++ [(q544, .inl (cI, 6, .inl (fun j => nI (((fun _ => 0)) j))))]) zz.1 zz.2) (fun zz => (fun (left : Nat) (cnt : Nat) => [(0, .ref b), (1, .ref (ad 46)), (2, .int (nI C)), (3, .int (nI P)), (4, .int (nI (t + 1))), (5, .int (nI t)), (8, .int (nI w)), (9, .int (nI bt)), (12, .int (nI z)), (17, .int (nI lst)), (18, .int (nI cnt)), (19, .ref q544), (20, .int (nI left))]) zz.1 zz.2) ?_ (w, 0) ⟨Nat.zero_le _, (by show w < 1000000; omega), (Nat.zero_add _).symm⟩ rfl [4, 5, 6, 7, 3, 8, 9, 10, 11, 12, 2, 1, 0] rfl (show (((1100 + 5000 * t + 1400) + 2) + 1) ≤ (1100 + 5000 * t + 1410) by omega) (show (((9000 + 40000 * t + 9000) + 12) + 6) ≤ (9000 + 40000 * t + 9100) by omega)
    intro zz ha_552 ih_552
    obtain ⟨left, cnt⟩ := zz
    replace ha_552 : cnt ≤ 6 ∧ left < 10 ^ (6 - cnt) ∧ dgs 6 w = cnt + dgs (6 - cnt) left := ha_552
    refine ek_cast (w' := (wV ad cI cJ cR (vEar cv, vSaid cv + 1, w) TT.1 TT.2.1 u TT.2.2 k) ++ [(q544, .inl (cI, 6, .inl (fun j => nI (((fun _ => 0)) j))))]) rfl ?_
    refine ek_castL (lv' := [(0, .ref b), (1, .ref (ad 46)), (2, .int (nI C)), (3, .int (nI P)), (4, .int (nI (t + 1))), (5, .int (nI t)), (8, .int (nI w)), (9, .int (nI bt)), (12, .int (nI z)), (17, .int (nI lst)), (18, .int (nI cnt)), (19, .ref q544), (20, .int (nI left))]) rfl ?_
    have hlt := dg_lt ha_552.2.1
    have hc6 := ha_552.1
    refine ek_il X 12 rfl dL_law_552 ?_
    refine ek_Zle X (by omega) 570 (by decide) dL_law_554 (fun c_554 => ?_) (fun c_554 => ?_)
    · skip
      have hn := dg_end ha_552 c_554
      have hn1 : 1 ≤ cnt := by rw [hn]; exact dgs_1 hwb.1
      refine ek_il X 6 rfl dL_law_570 ?_
      refine ek_is (lv' := [(20, .int (nI w)), (0, .ref b), (1, .ref (ad 46)), (2, .int (nI C)), (3, .int (nI P)), (4, .int (nI (t + 1))), (5, .int (nI t)), (8, .int (nI w)), (9, .int (nI bt)), (12, .int (nI z)), (17, .int (nI lst)), (18, .int (nI cnt)), (19, .ref q544)]) X (by decide) rfl dL_law_572 ?_
      refine ek_il X 11 rfl dL_law_574 ?_
      refine ek_ic (v := nI 1) X (by decide) dL_law_576 ?_
      refine ek_Nsub X (by omega) dL_law_577 ?_
      refine ek_top (v' := pW cnt) (pW_pos hn1).symm ?_
      refine ek_is (lv' := [(21, .int (pW cnt)), (20, .int (nI w)), (0, .ref b), (1, .ref (ad 46)), (2, .int (nI C)), (3, .int (nI P)), (4, .int (nI (t + 1))), (5, .int (nI t)), (8, .int (nI w)), (9, .int (nI bt)), (12, .int (nI z)), (17, .int (nI lst)), (18, .int (nI cnt)), (19, .ref q544)]) X (by decide) rfl dL_law_578 ?_
      refine ek_loopKn (σ := Nat × Nat × (Nat → Nat)) (fun zz => (fun (j5 : Nat) (lf : Nat) (df : Nat → Nat) => (1100 + 5000 * t + 1410)) zz.1 zz.2.1 zz.2.2) (fun zz => (fun (j5 : Nat) (lf : Nat) (df : Nat → Nat) => (9000 + 40000 * t + 9100)) zz.1 zz.2.1 zz.2.2) (fun zz => (fun (j5 : Nat) (lf : Nat) (df : Nat → Nat) => j5 ≤ cnt ∧ lf = w / 10 ^ (cnt - j5) ∧ ∀ i5, j5 ≤ i5 → i5 < cnt → df i5 = w / 10 ^ (cnt - 1 - i5) % 10) zz.1 zz.2.1 zz.2.2) (fun zz => (fun (j5 : Nat) (lf : Nat) (df : Nat → Nat) => j5) zz.1 zz.2.1 zz.2.2) (fun zz => (fun (j5 : Nat) (lf : Nat) (df : Nat → Nat) => (wV ad cI cJ cR (vEar cv, vSaid cv + 1, w) TT.1 TT.2.1 u TT.2.2 k) ++ [(q544, .inl (cI, 6, .inl (fun j => nI (df j))))]) zz.1 zz.2.1 zz.2.2) (fun zz => (fun (j5 : Nat) (lf : Nat) (df : Nat → Nat) => [(0, .ref b), (1, .ref (ad 46)), (2, .int (nI C)), (3, .int (nI P)), (4, .int (nI (t + 1))), (5, .int (nI t)), (8, .int (nI w)), (9, .int (nI bt)), (12, .int (nI z)), (17, .int (nI lst)), (18, .int (nI cnt)), (19, .ref q544), (20, .int (nI lf)), (21, .int (pW j5))]) zz.1 zz.2.1 zz.2.2) ?_ (cnt, w, (fun _ => 0)) ⟨Nat.le_refl _, (by rw [Nat.sub_self, Nat.pow_zero, Nat.div_one]), fun i5 h1 h2 => absurd h1 (by omega)⟩ rfl [2, 3, 4, 5, 6, 7, 8, 9, 10, 11, 12, 13, 1, 0] rfl (show (1100 + 5000 * t + 1410) ≤ (1100 + 5000 * t + 1410) by omega) (show (9000 + 40000 * t + 9100) ≤ (9000 + 40000 * t + 9100) by omega)
      intro zz ha_580 ih_580
      obtain ⟨j5, lf, df⟩ := zz
      replace ha_580 : j5 ≤ cnt ∧ lf = w / 10 ^ (cnt - j5) ∧ ∀ i5, j5 ≤ i5 → i5 < cnt → df i5 = w / 10 ^ (cnt - 1 - i5) % 10 := ha_580
      refine ek_cast (w' := (wV ad cI cJ cR (vEar cv, vSaid cv + 1, w) TT.1 TT.2.1 u TT.2.2 k) ++ [(q544, .inl (cI, 6, .inl (fun j => nI (df j))))]) rfl ?_
      refine ek_castL (lv' := [(0, .ref b), (1, .ref (ad 46)), (2, .int (nI C)), (3, .int (nI P)), (4, .int (nI (t + 1))), (5, .int (nI t)), (8, .int (nI w)), (9, .int (nI bt)), (12, .int (nI z)), (17, .int (nI lst)), (18, .int (nI cnt)), (19, .ref q544), (20, .int (nI lf)), (21, .int (pW j5))]) rfl ?_
      have hlf : lf ≤ w := by rw [ha_580.2.1]; exact Nat.div_le_self _ _
      have hj6 := ha_580.1
      refine ek_il X 13 rfl dL_law_580 ?_
      rcases Nat.eq_zero_or_pos j5 with hj0 | hj0
      · refine ek_top (v' := -1) (by rw [hj0]; rfl) ?_
        refine ek_if_lt X 608 (by decide) dL_law_582 (fun c_582 => ?_) (fun c_582 => ?_)
        · skip
          have hdg : ∀ p, p < cnt → df p = w / 10 ^ (cnt - 1 - p) % 10 := fun p hp => ha_580.2.2 p (by omega) hp
          refine ek_aln X 1 rfl dL_law_608 ?_
          refine ek_bp (v := nI 8) X (by decide) dL_law_609 ?_
          refine lx_call1 (As := [.int (nI 8)]) (rest := []) (kc := 1) (ks := 6) X hZ (c_X4_count l hl D cI cJ cR ad ((vEar cv, vSaid cv + 1, w)) TT.1 TT.2.1 u TT.2.2 k hA.1 8 (by omega)) (fun E => by rw [show xLe 8 9 = 0 from by unfold xLe; rw [if_pos (by omega)]]; rintro ⟨h1, -⟩ <;> exact absurd h1 (by decide)) ⟨rfl, rfl⟩ gL_law_X4_count rfl hdV_X4_count ⟨Nat.le_of_ble_eq_true rfl, Nat.le_of_ble_eq_true rfl⟩ ⟨(show (1100 + 5000 * t + 1410) + 1 ≤ 600104 by omega), (show (9000 + 40000 * t + 9100) + 6 ≤ 7301313 by omega)⟩ (Nat.le_of_ble_eq_true rfl) dL_law_611 (fun v_611 hv_611 => ?_)
          obtain ⟨-, rfl⟩ := hv_611
          refine ek_top (v' := nI (hK TT.2.2)) rfl ?_
          refine ek_is (lv' := [(21, .int (nI (hK TT.2.2))), (0, .ref b), (1, .ref (ad 46)), (2, .int (nI C)), (3, .int (nI P)), (4, .int (nI (t + 1))), (5, .int (nI t)), (8, .int (nI w)), (9, .int (nI bt)), (12, .int (nI z)), (17, .int (nI lst)), (18, .int (nI cnt)), (19, .ref q544), (20, .int (nI lf))]) X (by decide) rfl dL_law_614 ?_
          refine ek_ic (v := nI 0) X (by decide) dL_law_616 ?_
          refine ek_is (lv' := [(22, .int (nI 0)), (21, .int (nI (hK TT.2.2))), (0, .ref b), (1, .ref (ad 46)), (2, .int (nI C)), (3, .int (nI P)), (4, .int (nI (t + 1))), (5, .int (nI t)), (8, .int (nI w)), (9, .int (nI bt)), (12, .int (nI z)), (17, .int (nI lst)), (18, .int (nI cnt)), (19, .ref q544), (20, .int (nI lf))]) X (by decide) rfl dL_law_617 ?_
          refine ek_ic (v := nI 0) X (by decide) dL_law_619 ?_
          refine ek_is (lv' := [(23, .int (nI 0)), (22, .int (nI 0)), (21, .int (nI (hK TT.2.2))), (0, .ref b), (1, .ref (ad 46)), (2, .int (nI C)), (3, .int (nI P)), (4, .int (nI (t + 1))), (5, .int (nI t)), (8, .int (nI w)), (9, .int (nI bt)), (12, .int (nI z)), (17, .int (nI lst)), (18, .int (nI cnt)), (19, .ref q544), (20, .int (nI lf))]) X (by decide) rfl dL_law_620 ?_
          refine ek_ic (v := nI 0) X (by decide) dL_law_622 ?_
          refine ek_is (lv' := [(24, .int (nI 0)), (23, .int (nI 0)), (22, .int (nI 0)), (21, .int (nI (hK TT.2.2))), (0, .ref b), (1, .ref (ad 46)), (2, .int (nI C)), (3, .int (nI P)), (4, .int (nI (t + 1))), (5, .int (nI t)), (8, .int (nI w)), (9, .int (nI bt)), (12, .int (nI z)), (17, .int (nI lst)), (18, .int (nI cnt)), (19, .ref q544), (20, .int (nI lf))]) X (by decide) rfl dL_law_623 ?_
          refine ek_bp (v := nI 6) X (by decide) dL_law_625 ?_
          refine ek_newI X 0 rfl (List.mem_of_getElem? (i := 4) rfl) (by omega) ⟨(show ((1100 + 5000 * t + 1410) + 1) + 1 ≤ 600104 by omega), (show ((9000 + 40000 * t + 9100) + 6) + 6 ≤ 7301313 by omega)⟩ dL_law_627 (fun q627 => ?_)
          refine ek_cast (w' := (wV ad cI cJ cR (vEar cv, vSaid cv + 1, w) TT.1 TT.2.1 u TT.2.2 k) ++ [(q544, .inl (cI, 6, .inl (fun j => nI (df j)))), (q627, .inl (cI, 6, .inl ((fun _ => nI 0))))]) rfl ?_
          refine ek_dup X rfl dL_law_629 ?_
          refine ek_ic (v := nI 0) X (by decide) dL_law_630 ?_
          refine ek_ic (v := -1) X (by decide) dL_law_631 ?_
          refine ek_ast (w' := (wV ad cI cJ cR (vEar cv, vSaid cv + 1, w) TT.1 TT.2.1 u TT.2.2 k) ++ [(q544, .inl (cI, 6, .inl (fun j => nI (df j)))), (q627, .inl (cI, 6, .inl (eN ((fun _ => nI 0)) 0 (-1))))]) X 39 0 rfl rfl (by omega) (by omega) rfl dL_law_632 ?_
          refine ek_dup X rfl dL_law_633 ?_
          refine ek_ic (v := nI 1) X (by decide) dL_law_634 ?_
          refine ek_ic (v := -1) X (by decide) dL_law_635 ?_
          refine ek_ast (w' := (wV ad cI cJ cR (vEar cv, vSaid cv + 1, w) TT.1 TT.2.1 u TT.2.2 k) ++ [(q544, .inl (cI, 6, .inl (fun j => nI (df j)))), (q627, .inl (cI, 6, .inl (eN (eN ((fun _ => nI 0)) 0 (-1)) 1 (-1))))]) X 39 0 rfl rfl (by omega) (by omega) rfl dL_law_636 ?_
          refine ek_dup X rfl dL_law_637 ?_
          refine ek_ic (v := nI 2) X (by decide) dL_law_638 ?_
          refine ek_ic (v := -1) X (by decide) dL_law_639 ?_
          refine ek_ast (w' := (wV ad cI cJ cR (vEar cv, vSaid cv + 1, w) TT.1 TT.2.1 u TT.2.2 k) ++ [(q544, .inl (cI, 6, .inl (fun j => nI (df j)))), (q627, .inl (cI, 6, .inl (eN (eN (eN ((fun _ => nI 0)) 0 (-1)) 1 (-1)) 2 (-1))))]) X 39 0 rfl rfl (by omega) (by omega) rfl dL_law_640 ?_
          refine ek_dup X rfl dL_law_641 ?_
          refine ek_ic (v := nI 3) X (by decide) dL_law_642 ?_
          refine ek_ic (v := -1) X (by decide) dL_law_643 ?_
          refine ek_ast (w' := (wV ad cI cJ cR (vEar cv, vSaid cv + 1, w) TT.1 TT.2.1 u TT.2.2 k) ++ [(q544, .inl (cI, 6, .inl (fun j => nI (df j)))), (q627, .inl (cI, 6, .inl (eN (eN (eN (eN ((fun _ => nI 0)) 0 (-1)) 1 (-1)) 2 (-1)) 3 (-1))))]) X 39 0 rfl rfl (by omega) (by omega) rfl dL_law_644 ?_
          refine ek_dup X rfl dL_law_645 ?_
          refine ek_ic (v := nI 4) X (by decide) dL_law_646 ?_
          refine ek_ic (v := -1) X (by decide) dL_law_647 ?_
          refine ek_ast (w' := (wV ad cI cJ cR (vEar cv, vSaid cv + 1, w) TT.1 TT.2.1 u TT.2.2 k) ++ [(q544, .inl (cI, 6, .inl (fun j => nI (df j)))), (q627, .inl (cI, 6, .inl (eN (eN (eN (eN (eN ((fun _ => nI 0)) 0 (-1)) 1 (-1)) 2 (-1)) 3 (-1)) 4 (-1))))]) X 39 0 rfl rfl (by omega) (by omega) rfl dL_law_648 ?_
          refine ek_dup X rfl dL_law_649 ?_
          refine ek_ic (v := nI 5) X (by decide) dL_law_650 ?_
          refine ek_ic (v := -1) X (by decide) dL_law_651 ?_
          refine ek_ast (w' := (wV ad cI cJ cR (vEar cv, vSaid cv + 1, w) TT.1 TT.2.1 u TT.2.2 k) ++ [(q544, .inl (cI, 6, .inl (fun j => nI (df j)))), (q627, .inl (cI, 6, .inl (eN (eN (eN (eN (eN (eN ((fun _ => nI 0)) 0 (-1)) 1 (-1)) 2 (-1)) 3 (-1)) 4 (-1)) 5 (-1))))]) X 39 0 rfl rfl (by omega) (by omega) rfl dL_law_652 ?_
          refine ek_as (lv' := [(25, .ref q627), (24, .int (nI 0)), (23, .int (nI 0)), (22, .int (nI 0)), (21, .int (nI (hK TT.2.2))), (0, .ref b), (1, .ref (ad 46)), (2, .int (nI C)), (3, .int (nI P)), (4, .int (nI (t + 1))), (5, .int (nI t)), (8, .int (nI w)), (9, .int (nI bt)), (12, .int (nI z)), (17, .int (nI lst)), (18, .int (nI cnt)), (19, .ref q544), (20, .int (nI lf))]) X (by decide) rfl dL_law_653 ?_
          refine ek_widen (k' := (1100 + 5000 * t + 1450)) (n' := (9000 + 40000 * t + 9300)) (show (((1100 + 5000 * t + 1410) + 1) + 1) ≤ (1100 + 5000 * t + 1450) by omega) (show (((9000 + 40000 * t + 9100) + 6) + 6) ≤ (9000 + 40000 * t + 9300) by omega) ?_
          refine ek_re [5, 6, 7, 8, 9, 10, 11, 12, 13, 14, 15, 16, 4, 3, 2, 1, 0] rfl ?_
          have hff : ∀ p, p < 6 → (eN (eN (eN (eN (eN (eN ((fun _ => nI 0)) 0 (-1)) 1 (-1)) 2 (-1)) 3 (-1)) 4 (-1)) 5 (-1)) p = -1 := fun p hp => by rcases (show p = 0 ∨ p = 1 ∨ p = 2 ∨ p = 3 ∨ p = 4 ∨ p = 5 by omega) with rfl | rfl | rfl | rfl | rfl | rfl <;> rfl
          exact kk TT.1 TT.2.1 TT.2.2 T5 cnt df (eN (eN (eN (eN (eN (eN ((fun _ => nI 0)) 0 (-1)) 1 (-1)) 2 (-1)) 3 (-1)) 4 (-1)) 5 (-1)) q544 q627 hI5 hH5 (by rw [hn]; exact hE) hn1 hc6 hdg hff hz5
        · exact absurd (show (-1 : Int32) < 0 by decide) c_582
      · refine ek_top (v' := nI (j5 - 1)) (pW_pos hj0) ?_
        refine ek_Zlt X (by omega) 608 (by decide) dL_law_582 (fun c_582 => ?_) (fun c_582 => ?_)
        · exact c_582.elim
        · skip
          refine ek_al X 11 rfl dL_law_585 ?_
          refine ek_il X 13 rfl dL_law_587 ?_
          refine ek_top (v' := nI (j5 - 1)) (pW_pos hj0) ?_
          refine ek_il X 12 rfl dL_law_589 ?_
          refine ek_bp (v := nI 10) X (by decide) dL_law_591 ?_
          refine ek_Nrem X (by omega) (by omega) (by omega) dL_law_593 ?_
          refine ek_Nast (w' := (wV ad cI cJ cR (vEar cv, vSaid cv + 1, w) TT.1 TT.2.1 u TT.2.2 k) ++ [(q544, .inl (cI, 6, .inl (fun j => nI ((eN df (j5 - 1) (lf % 10)) j))))]) X 38 0 rfl rfl (by omega) (by omega) rfl dL_law_594 ?_
          refine ek_il X 12 rfl dL_law_595 ?_
          refine ek_bp (v := nI 10) X (by decide) dL_law_597 ?_
          refine ek_Ndiv X (by omega) (by omega) (by omega) dL_law_599 ?_
          refine ek_is (lv' := [(20, .int (nI (lf / 10))), (0, .ref b), (1, .ref (ad 46)), (2, .int (nI C)), (3, .int (nI P)), (4, .int (nI (t + 1))), (5, .int (nI t)), (8, .int (nI w)), (9, .int (nI bt)), (12, .int (nI z)), (17, .int (nI lst)), (18, .int (nI cnt)), (19, .ref q544), (21, .int (pW j5))]) X (by decide) rfl dL_law_600 ?_
          refine ek_inc (j := 13) (v := pW (j5 - 1)) (lv' := [(21, .int (pW (j5 - 1))), (20, .int (nI (lf / 10))), (0, .ref b), (1, .ref (ad 46)), (2, .int (nI C)), (3, .int (nI P)), (4, .int (nI (t + 1))), (5, .int (nI t)), (8, .int (nI w)), (9, .int (nI bt)), (12, .int (nI z)), (17, .int (nI lst)), (18, .int (nI cnt)), (19, .ref q544)]) X rfl (pW_pred hj0) (by decide) rfl dL_law_602 ?_
          refine ek_goto X 580 (by decide) dL_law_605 ?_
          refine ek_widen (k' := (1100 + 5000 * t + 1410)) (n' := (9000 + 40000 * t + 9100)) (show (1100 + 5000 * t + 1410) ≤ (1100 + 5000 * t + 1410) by omega) (show (9000 + 40000 * t + 9100) ≤ (9000 + 40000 * t + 9100) by omega) ?_
          refine ek_re [2, 3, 4, 5, 6, 7, 8, 9, 10, 11, 12, 13, 1, 0] rfl ?_
          exact ih_580 ((j5 - 1), lf / 10, eN df (j5 - 1) (lf % 10)) (show ((j5 - 1)) ≤ cnt ∧ (lf / 10) = w / 10 ^ (cnt - ((j5 - 1))) ∧ ∀ i5, ((j5 - 1)) ≤ i5 → i5 < cnt → (eN df (j5 - 1) (lf % 10)) i5 = w / 10 ^ (cnt - 1 - i5) % 10 from ⟨by omega, dg_fill hj0 ha_580.1 ha_580.2.1 ha_580.2.2⟩) (by show j5 - 1 < j5; omega)
    · skip
      refine ek_Ninc (j := 10) (d := 1) (lv' := [(18, .int (nI (cnt + 1))), (0, .ref b), (1, .ref (ad 46)), (2, .int (nI C)), (3, .int (nI P)), (4, .int (nI (t + 1))), (5, .int (nI t)), (8, .int (nI w)), (9, .int (nI bt)), (12, .int (nI z)), (17, .int (nI lst)), (19, .ref q544), (20, .int (nI left))]) X rfl (by decide) rfl dL_law_557 ?_
      refine ek_il X 12 rfl dL_law_560 ?_
      refine ek_bp (v := nI 10) X (by decide) dL_law_562 ?_
      refine ek_Ndiv X (by omega) (by omega) (by omega) dL_law_564 ?_
      refine ek_is (lv' := [(20, .int (nI (left / 10))), (18, .int (nI (cnt + 1))), (0, .ref b), (1, .ref (ad 46)), (2, .int (nI C)), (3, .int (nI P)), (4, .int (nI (t + 1))), (5, .int (nI t)), (8, .int (nI w)), (9, .int (nI bt)), (12, .int (nI z)), (17, .int (nI lst)), (19, .ref q544)]) X (by decide) rfl dL_law_565 ?_
      refine ek_goto X 552 (by decide) dL_law_567 ?_
      refine ek_widen (k' := (1100 + 5000 * t + 1410)) (n' := (9000 + 40000 * t + 9100)) (show (1100 + 5000 * t + 1410) ≤ (1100 + 5000 * t + 1410) by omega) (show (9000 + 40000 * t + 9100) ≤ (9000 + 40000 * t + 9100) by omega) ?_
      refine ek_re [2, 3, 4, 5, 6, 7, 8, 9, 10, 11, 1, 12, 0] rfl ?_
      exact ih_552 (left / 10, cnt + 1) (show (cnt + 1) ≤ 6 ∧ (left / 10) < 10 ^ (6 - (cnt + 1)) ∧ dgs 6 w = (cnt + 1) + dgs (6 - (cnt + 1)) (left / 10) from dg_step ha_552 c_554) (by show left / 10 < left; omega)
  · exact absurd rfl c_531
