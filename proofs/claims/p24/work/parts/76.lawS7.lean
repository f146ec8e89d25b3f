/-! ===== the law's body, S7 ===== -/
set_option maxHeartbeats 4000000 in
set_option maxRecDepth 100000 in
theorem law_S7 {p : Program} {l : Launch} {e : Env} {s9 : State} {m9 : MethodId} {args9 : Array Value} {below9 : List Frame} {meth9 : Method} {c9 : Code} {D : va_G} {cI cJ cR : ClassId} {A : Nat → Prop} {Q : State → Prop} {ad : Nat → Nat} {b L : Nat} {xs : Nat → Int32} (X : ek_X p s9 m9 args9 meth9 c9 RL cL_law 29 (some .boolean) wsL_law nestW D (tyW cI cJ cR) A A True) (hl : l.stackTraces = false) (hZ : ek_Zt A s9) (hS9 : ek_S9 A b L xs s9) {C P t : Nat} {cv : CavT} {g : SndT} {q : QueT} {u : CaveT} {h k : EchT} (hA : cAll u) (hC : cC u = C) (hP : cP u = P) (hC2 : 2 ≤ C) (hI : sOk g q) (hH : hOk h) (hKk : hOk k) (he1 : 1 ≤ vEar cv) (he : vEar cv ≤ 50) (ht : t < 24) {w bt z : Nat} (hwb : wbOk w bt) (hz60 : z ≤ 60) {lst T5 n : Nat} {dg : Nat → Nat} {ff : Nat → Int32} {qd qf : Nat} (hl9 : lst ≤ 99) (hE : jE lst bt T5 w n (vEar cv) h) (hn1 : 1 ≤ n) (hn6 : n ≤ 6) (hff : ∀ p, p < 6 → ff p = jF h p (hK h))
    (kk : ∀ al : Nat, al ≤ 1 → ((∀ p, p < n → ¬ hFi h p < 0) → al = 1) → ek_G p l e room_1 s9 m9 args9 below9 meth9 c9 29 D A A (1100 + 5000 * t + 4200) (9000 + 40000 * t + 27000) Q ((wV ad cI cJ cR cv g q u h k) ++ [(qd, .inl (cI, 6, .inl (fun j => nI (dg j)))), (qf, .inl (cI, 6, .inl ff))]) 899 [(0, .ref b), (1, .ref (ad 46)), (2, .int (nI C)), (3, .int (nI P)), (4, .int (nI (t + 1))), (5, .int (nI t)), (8, .int (nI w)), (12, .int (nI z)), (18, .int (nI n)), (21, .int (nI (hK h))), (22, .int (nI (jC h (hK h)))), (24, .int (nI (hSum h (hK h)))), (25, .ref qf), (26, .int (nI al))] []) : ek_G p l e room_1 s9 m9 args9 below9 meth9 c9 29 D A A (1100 + 5000 * t + 4000) (9000 + 40000 * t + 25000) Q ((wV ad cI cJ cR cv g q u h k) ++ [(qd, .inl (cI, 6, .inl (fun j => nI (dg j)))), (qf, .inl (cI, 6, .inl ff))]) 846 [(0, .ref b), (1, .ref (ad 46)), (2, .int (nI C)), (3, .int (nI P)), (4, .int (nI (t + 1))), (5, .int (nI t)), (8, .int (nI w)), (12, .int (nI z)), (18, .int (nI n)), (21, .int (nI (hK h))), (22, .int (nI (jC h (hK h)))), (24, .int (nI (hSum h (hK h)))), (25, .ref qf)] [] := by
  have hC12 : C ≤ 12 := by have := hA.1.1.2; omega
  have hP18 : P ≤ 18 := by have := hA.1.2.1; omega
  have hb1 := hwb.2.1
  have hb2 := hwb.2.2
  have hw9 := hwb.1.1.2
  have hk60 := hH.2.2.1
  have hs81 := hSum_le (h := h) (fun k9 hk9 => (hE.2.1 k9 hk9).1.2.2.1)
  refine ek_ic (v := nI 1) X (by decide) dL_law_846 ?_
  refine ek_is (lv' := [(26, .int (nI 1)), (0, .ref b), (1, .ref (ad 46)), (2, .int (nI C)), (3, .int (nI P)), (4, .int (nI (t + 1))), (5, .int (nI t)), (8, .int (nI w)), (12, .int (nI z)), (18, .int (nI n)), (21, .int (nI (hK h))), (22, .int (nI (jC h (hK h)))), (24, .int (nI (hSum h (hK h)))), (25, .ref qf)]) X (by decide) rfl dL_law_847 ?_
  refine ek_ic (v := nI 0) X (by decide) dL_law_849 ?_
  refine ek_is (lv' := [(27, .int (nI 0)), (26, .int (nI 1)), (0, .ref b), (1, .ref (ad 46)), (2, .int (nI C)), (3, .int (nI P)), (4, .int (nI (t + 1))), (5, .int (nI t)), (8, .int (nI w)), (12, .int (nI z)), (18, .int (nI n)), (21, .int (nI (hK h))), (22, .int (nI (jC h (hK h)))), (24, .int (nI (hSum h (hK h)))), (25, .ref qf)]) X (by decide) rfl dL_law_850 ?_
  refine ek_loopKn (σ := Nat × Nat) (fun zz => (fun (j : Nat) (al : Nat) => (1100 + 5000 * t + 4010 + 10 * j)) zz.1 zz.2) (fun zz => (fun (j : Nat) (al : Nat) => (9000 + 40000 * t + 25100 + 60 * j)) zz.1 zz.2) (fun zz => (fun (j : Nat) (al : Nat) => (j ≤ n ∧ al ≤ 1) ∧ ((∀ p, p < j → ¬ hFi h p < 0) → al = 1)) zz.1 zz.2) (fun zz => (fun (j : Nat) (al : Nat) => n - j) zz.1 zz.2) (fun zz => (fun (j : Nat) (al : Nat) => (wV ad cI cJ cR cv g q u h k) ++ [(qd, .inl (cI, 6, .inl (fun j => nI (dg j)))), (qf, .inl (cI, 6, .inl ff))]) zz.1 zz.2) (fun zz => (fun (j : Nat) (al : Nat) => [(0, .ref b), (1, .ref (ad 46)), (2, .int (nI C)), (3, .int (nI P)), (4, .int (nI (t + 1))), (5, .int (nI t)), (8, .int (nI w)), (12, .int (nI z)), (18, .int (nI n)), (21, .int (nI (hK h))), (22, .int (nI (jC h (hK h)))), (24, .int (nI (hSum h (hK h)))), (25, .ref qf), (26, .int (nI al)), (27, .int (nI j))]) zz.1 zz.2) ?_ (0, 1) ⟨⟨Nat.zero_le _, Nat.le_refl _⟩, fun _ => rfl⟩ rfl [2, 3, 4, 5, 6, 7, 8, 9, 10, 11, 12, 13, 14, 1, 0] rfl (show (1100 + 5000 * t + 4000) ≤ (1100 + 5000 * t + 4010 + 10 * 0) by omega) (show (9000 + 40000 * t + 25000) ≤ (9000 + 40000 * t + 25100 + 60 * 0) by omega)
  intro zz ha_852 ih_852
  obtain ⟨j, al⟩ := zz
  replace ha_852 : (j ≤ n ∧ al ≤ 1) ∧ ((∀ p, p < j → ¬ hFi h p < 0) → al = 1) := ha_852
  refine ek_cast (w' := (wV ad cI cJ cR cv g q u h k) ++ [(qd, .inl (cI, 6, .inl (fun j => nI (dg j)))), (qf, .inl (cI, 6, .inl ff))]) rfl ?_
  refine ek_castL (lv' := [(0, .ref b), (1, .ref (ad 46)), (2, .int (nI C)), (3, .int (nI P)), (4, .int (nI (t + 1))), (5, .int (nI t)), (8, .int (nI w)), (12, .int (nI z)), (18, .int (nI n)), (21, .int (nI (hK h))), (22, .int (nI (jC h (hK h)))), (24, .int (nI (hSum h (hK h)))), (25, .ref qf), (26, .int (nI al)), (27, .int (nI j))]) rfl ?_
  obtain ⟨⟨hj, hal1⟩, hal2⟩ := ha_852
  refine ek_il X 14 rfl dL_law_852 ?_
  refine ek_il X 8 rfl dL_law_854 ?_
  refine ek_Nge X (by omega) (by omega) 899 (by decide) dL_law_856 (fun c_856 => ?_) (fun c_856 => ?_)
  · skip
    refine ek_widen (k' := (1100 + 5000 * t + 4200)) (n' := (9000 + 40000 * t + 27000)) (show (1100 + 5000 * t + 4010 + 10 * j) ≤ (1100 + 5000 * t + 4200) by omega) (show (9000 + 40000 * t + 25100 + 60 * j) ≤ (9000 + 40000 * t + 27000) by omega) ?_
    refine ek_re [0, 1, 2, 3, 4, 5, 6, 7, 8, 9, 10, 11, 12, 13] rfl ?_
    exact kk al hal1 (fun hp => hal2 (fun p hp9 => hp p (by omega)))
  · skip
    have hpl : hPl h = n := hE.1.1
    have hfj : hFi h j = ff j := (hE.2.2.2.1.2 j (by omega)).trans (hff j (by omega)).symm
    refine ek_aln X 1 rfl dL_law_859 ?_
    refine ek_il X 14 rfl dL_law_860 ?_
    refine lx_call2 (As := [.int (nI j)]) (rest := []) (kc := 1) (ks := 6) X hZ (c_X4_first l hl D cI cJ cR ad cv g q u h k hA.1 hH j (by omega)) (fun E => by rw [show xLt j (hPl h) = 0 from by unfold xLt; rw [if_pos (by omega)]]; rintro ⟨h1, -⟩ <;> exact absurd h1 (by decide)) ⟨rfl, rfl⟩ gL_law_X4_first rfl hdV_X4_first ⟨Nat.le_of_ble_eq_true rfl, Nat.le_of_ble_eq_true rfl⟩ ⟨(show (1100 + 5000 * t + 4010 + 10 * j) + 1 ≤ 600104 by omega), (show (9000 + 40000 * t + 25100 + 60 * j) + 6 ≤ 7301313 by omega)⟩ (Nat.le_of_ble_eq_true rfl) dL_law_862 (fun v_862 hv_862 => ?_)
    obtain ⟨-, rfl⟩ := hv_862
    refine ek_al X 12 rfl dL_law_865 ?_
    refine ek_il X 14 rfl dL_law_867 ?_
    refine ek_ald X 39 0 rfl rfl (by omega) (by omega) dL_law_869 ?_
    refine ek_icmp_eq X 875 (by decide) dL_law_870 (fun c_870 => ?_) (fun c_870 => ?_)
    · skip
      refine ek_il X 13 rfl dL_law_875 ?_
      refine ek_al X 12 rfl dL_law_877 ?_
      refine ek_il X 14 rfl dL_law_879 ?_
      refine ek_ald X 39 0 rfl rfl (by omega) (by omega) dL_law_881 ?_
      refine ek_if_lt X 889 (by decide) dL_law_882 (fun c_882 => ?_) (fun c_882 => ?_)
      · skip
        refine ek_ic (v := nI 0) X (by decide) dL_law_889 ?_
        refine ek_and X dL_law_890 ?_
        refine ek_top (v' := nI 0) (and_0 hal1) ?_
        refine ek_is (lv' := [(26, .int (nI 0)), (0, .ref b), (1, .ref (ad 46)), (2, .int (nI C)), (3, .int (nI P)), (4, .int (nI (t + 1))), (5, .int (nI t)), (8, .int (nI w)), (12, .int (nI z)), (18, .int (nI n)), (21, .int (nI (hK h))), (22, .int (nI (jC h (hK h)))), (24, .int (nI (hSum h (hK h)))), (25, .ref qf), (27, .int (nI j))]) X (by decide) rfl dL_law_891 ?_
        refine ek_Ninc (j := 14) (d := 1) (lv' := [(27, .int (nI (j + 1))), (26, .int (nI 0)), (0, .ref b), (1, .ref (ad 46)), (2, .int (nI C)), (3, .int (nI P)), (4, .int (nI (t + 1))), (5, .int (nI t)), (8, .int (nI w)), (12, .int (nI z)), (18, .int (nI n)), (21, .int (nI (hK h))), (22, .int (nI (jC h (hK h)))), (24, .int (nI (hSum h (hK h)))), (25, .ref qf)]) X rfl (by decide) rfl dL_law_893 ?_
        refine ek_goto X 852 (by decide) dL_law_896 ?_
        refine ek_widen (k' := (1100 + 5000 * t + 4010 + 10 * (j + 1))) (n' := (9000 + 40000 * t + 25100 + 60 * (j + 1))) (show ((1100 + 5000 * t + 4010 + 10 * j) + 1) ≤ (1100 + 5000 * t + 4010 + 10 * (j + 1)) by omega) (show ((9000 + 40000 * t + 25100 + 60 * j) + 6) ≤ (9000 + 40000 * t + 25100 + 60 * (j + 1)) by omega) ?_
        refine ek_re [2, 3, 4, 5, 6, 7, 8, 9, 10, 11, 12, 13, 14, 1, 0] rfl ?_
        exact ih_852 (j + 1, 0) (show ((j + 1) ≤ n ∧ 0 ≤ 1) ∧ ((∀ p, p < (j + 1) → ¬ hFi h p < 0) → 0 = 1) from ⟨⟨by omega, by omega⟩, (by first | exact (fun hp => hal2 (fun p hp9 => hp p (by omega))) | exact (fun hp => absurd (by rw [hfj]; exact c_882) (hp j (by omega))))⟩) (by show n - (j + 1) < n - j; omega)
      · skip
        refine ek_ic (v := nI 1) X (by decide) dL_law_885 ?_
        refine ek_goto X 890 (by decide) dL_law_886 ?_
        refine ek_and X dL_law_890 ?_
        refine ek_top (v' := nI al) (and_1 hal1) ?_
        refine ek_is (lv' := [(26, .int (nI al)), (0, .ref b), (1, .ref (ad 46)), (2, .int (nI C)), (3, .int (nI P)), (4, .int (nI (t + 1))), (5, .int (nI t)), (8, .int (nI w)), (12, .int (nI z)), (18, .int (nI n)), (21, .int (nI (hK h))), (22, .int (nI (jC h (hK h)))), (24, .int (nI (hSum h (hK h)))), (25, .ref qf), (27, .int (nI j))]) X (by decide) rfl dL_law_891 ?_
        refine ek_Ninc (j := 14) (d := 1) (lv' := [(27, .int (nI (j + 1))), (26, .int (nI al)), (0, .ref b), (1, .ref (ad 46)), (2, .int (nI C)), (3, .int (nI P)), (4, .int (nI (t + 1))), (5, .int (nI t)), (8, .int (nI w)), (12, .int (nI z)), (18, .int (nI n)), (21, .int (nI (hK h))), (22, .int (nI (jC h (hK h)))), (24, .int (nI (hSum h (hK h)))), (25, .ref qf)]) X rfl (by decide) rfl dL_law_893 ?_
        refine ek_goto X 852 (by decide) dL_law_896 ?_
        refine ek_widen (k' := (1100 + 5000 * t + 4010 + 10 * (j + 1))) (n' := (9000 + 40000 * t + 25100 + 60 * (j + 1))) (show ((1100 + 5000 * t + 4010 + 10 * j) + 1) ≤ (1100 + 5000 * t + 4010 + 10 * (j + 1)) by omega) (show ((9000 + 40000 * t + 25100 + 60 * j) + 6) ≤ (9000 + 40000 * t + 25100 + 60 * (j + 1)) by omega) ?_
        refine ek_re [2, 3, 4, 5, 6, 7, 8, 9, 10, 11, 12, 13, 14, 1, 0] rfl ?_
        exact ih_852 (j + 1, al) (show ((j + 1) ≤ n ∧ al ≤ 1) ∧ ((∀ p, p < (j + 1) → ¬ hFi h p < 0) → al = 1) from ⟨⟨by omega, by omega⟩, (by first | exact (fun hp => hal2 (fun p hp9 => hp p (by omega))) | exact (fun hp => absurd (by rw [hfj]; exact c_882) (hp j (by omega))))⟩) (by show n - (j + 1) < n - j; omega)
    · exact absurd hfj c_870
