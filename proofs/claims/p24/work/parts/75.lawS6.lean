/-! ===== the law's body, S6 ===== -/
set_option maxHeartbeats 4000000 in
set_option maxRecDepth 100000 in
theorem law_S6 {p : Program} {l : Launch} {e : Env} {s9 : State} {m9 : MethodId} {args9 : Array Value} {below9 : List Frame} {meth9 : Method} {c9 : Code} {D : va_G} {cI cJ cR : ClassId} {A : Nat → Prop} {Q : State → Prop} {ad : Nat → Nat} {b L : Nat} {xs : Nat → Int32} (X : ek_X p s9 m9 args9 meth9 c9 RL cL_law 29 (some .boolean) wsL_law nestW D (tyW cI cJ cR) A A True) (hl : l.stackTraces = false) (hZ : ek_Zt A s9) (hS9 : ek_S9 A b L xs s9) {C P t : Nat} {cv : CavT} {g : SndT} {q : QueT} {u : CaveT} {h k : EchT} (hA : cAll u) (hC : cC u = C) (hP : cP u = P) (hC2 : 2 ≤ C) (hI : sOk g q) (hH : hOk h) (hKk : hOk k) (he1 : 1 ≤ vEar cv) (he : vEar cv ≤ 50) (ht : t < 24) {w bt z : Nat} (hwb : wbOk w bt) (hz60 : z ≤ 60) {lst T5 n : Nat} {dg : Nat → Nat} {ff : Nat → Int32} {qd qf : Nat} (hl9 : lst ≤ 99) (hE : jE lst bt T5 w n (vEar cv) h) (hn1 : 1 ≤ n) (hn6 : n ≤ 6) (hdg : ∀ p, p < n → dg p = w / 10 ^ (n - 1 - p) % 10) (hff : ∀ p, p < 6 → ff p = -1)
    (kk : ∀ f6 : Nat → Int32, (∀ p, p < 6 → f6 p = jF h p (hK h)) → ek_G p l e room_1 s9 m9 args9 below9 meth9 c9 29 D A A (1100 + 5000 * t + 4000) (9000 + 40000 * t + 25000) Q ((wV ad cI cJ cR cv g q u h k) ++ [(qd, .inl (cI, 6, .inl (fun j => nI (dg j)))), (qf, .inl (cI, 6, .inl f6))]) 846 [(0, .ref b), (1, .ref (ad 46)), (2, .int (nI C)), (3, .int (nI P)), (4, .int (nI (t + 1))), (5, .int (nI t)), (8, .int (nI w)), (12, .int (nI z)), (18, .int (nI n)), (21, .int (nI (hK h))), (22, .int (nI (jC h (hK h)))), (24, .int (nI (hSum h (hK h)))), (25, .ref qf)] []) : ek_G p l e room_1 s9 m9 args9 below9 meth9 c9 29 D A A (1100 + 5000 * t + 1450) (9000 + 40000 * t + 9300) Q ((wV ad cI cJ cR cv g q u h k) ++ [(qd, .inl (cI, 6, .inl (fun j => nI (dg j)))), (qf, .inl (cI, 6, .inl ff))]) 655 [(0, .ref b), (1, .ref (ad 46)), (2, .int (nI C)), (3, .int (nI P)), (4, .int (nI (t + 1))), (5, .int (nI t)), (8, .int (nI w)), (9, .int (nI bt)), (12, .int (nI z)), (17, .int (nI lst)), (18, .int (nI n)), (19, .ref qd), (21, .int (nI (hK h))), (22, .int (nI 0)), (23, .int (nI 0)), (24, .int (nI 0)), (25, .ref qf)] [] := by
  have hC12 : C ≤ 12 := by have := hA.1.1.2; omega
  have hP18 : P ≤ 18 := by have := hA.1.2.1; omega
  have hb1 := hwb.2.1
  have hb2 := hwb.2.2
  have hw9 := hwb.1.1.2
  have hk60 := hH.2.2.1
  have hs81 := hSum_le (h := h) (fun k9 hk9 => (hE.2.1 k9 hk9).1.2.2.1)
  refine ek_ic (v := nI 0) X (by decide) dL_law_655 ?_
  refine ek_is (lv' := [(26, .int (nI 0)), (0, .ref b), (1, .ref (ad 46)), (2, .int (nI C)), (3, .int (nI P)), (4, .int (nI (t + 1))), (5, .int (nI t)), (8, .int (nI w)), (9, .int (nI bt)), (12, .int (nI z)), (17, .int (nI lst)), (18, .int (nI n)), (19, .ref qd), (21, .int (nI (hK h))), (22, .int (nI 0)), (23, .int (nI 0)), (24, .int (nI 0)), (25, .ref qf)]) X (by decide) rfl dL_law_656 ?_
  refine ek_loopKn (σ := Nat × Nat × Nat × Nat × (Nat → Int32)) (fun zz => (fun (i : Nat) (ct : Nat) (la : Nat) (sm : Nat) (f6 : Nat → Int32) => (1100 + 5000 * t + 1460 + 40 * i)) zz.1 zz.2.1 zz.2.2.1 zz.2.2.2.1 zz.2.2.2.2) (fun zz => (fun (i : Nat) (ct : Nat) (la : Nat) (sm : Nat) (f6 : Nat → Int32) => (9000 + 40000 * t + 9400 + 240 * i)) zz.1 zz.2.1 zz.2.2.1 zz.2.2.2.1 zz.2.2.2.2) (fun zz => (fun (i : Nat) (ct : Nat) (la : Nat) (sm : Nat) (f6 : Nat → Int32) => (i ≤ hK h ∧ ct = jC h i ∧ sm = hSum h i) ∧ (∀ p, p < 6 → f6 p = jF h p i) ∧ (i = 0 → la = 0) ∧ (0 < i → la = hFa h ((i - 1) * 5))) zz.1 zz.2.1 zz.2.2.1 zz.2.2.2.1 zz.2.2.2.2) (fun zz => (fun (i : Nat) (ct : Nat) (la : Nat) (sm : Nat) (f6 : Nat → Int32) => hK h - i) zz.1 zz.2.1 zz.2.2.1 zz.2.2.2.1 zz.2.2.2.2) (fun zz => (fun (i : Nat) (ct : Nat) (la : Nat) (sm : Nat) (f6 : Nat → Int32) => (wV ad cI cJ cR cv g q u h k) ++ [(qd, .inl (cI, 6, .inl (fun j => nI (dg j)))), (qf, .inl (cI, 6, .inl f6))]) zz.1 zz.2.1 zz.2.2.1 zz.2.2.2.1 zz.2.2.2.2) (fun zz => (fun (i : Nat) (ct : Nat) (la : Nat) (sm : Nat) (f6 : Nat → Int32) => [(0, .ref b), (1, .ref (ad 46)), (2, .int (nI C)), (3, .int (nI P)), (4, .int (nI (t + 1))), (5, .int (nI t)), (8, .int (nI w)), (9, .int (nI bt)), (12, .int (nI z)), (17, .int (nI lst)), (18, .int (nI n)), (19, .ref qd), (21, .int (nI (hK h))), (22, .int (nI ct)), (23, .int (nI la)), (24, .int (nI sm)), (25, .ref qf), (26, .int (nI i))]) zz.1 zz.2.1 zz.2.2.1 zz.2.2.2.1 zz.2.2.2.2) ?_ (0, 0, 0, 0, ff) ⟨⟨Nat.zero_le _, rfl, rfl⟩, hff, fun _ => rfl, fun h9 => absurd h9 (Nat.lt_irrefl 0)⟩ rfl [1, 2, 3, 4, 5, 6, 7, 8, 9, 10, 11, 12, 13, 14, 15, 16, 17, 0] rfl (show (1100 + 5000 * t + 1450) ≤ (1100 + 5000 * t + 1460 + 40 * 0) by omega) (show (9000 + 40000 * t + 9300) ≤ (9000 + 40000 * t + 9400 + 240 * 0) by omega)
  intro zz ha_658 ih_658
  obtain ⟨i, ct, la, sm, f6⟩ := zz
  replace ha_658 : (i ≤ hK h ∧ ct = jC h i ∧ sm = hSum h i) ∧ (∀ p, p < 6 → f6 p = jF h p i) ∧ (i = 0 → la = 0) ∧ (0 < i → la = hFa h ((i - 1) * 5)) := ha_658
  refine ek_cast (w' := (wV ad cI cJ cR cv g q u h k) ++ [(qd, .inl (cI, 6, .inl (fun j => nI (dg j)))), (qf, .inl (cI, 6, .inl f6))]) rfl ?_
  refine ek_castL (lv' := [(0, .ref b), (1, .ref (ad 46)), (2, .int (nI C)), (3, .int (nI P)), (4, .int (nI (t + 1))), (5, .int (nI t)), (8, .int (nI w)), (9, .int (nI bt)), (12, .int (nI z)), (17, .int (nI lst)), (18, .int (nI n)), (19, .ref qd), (21, .int (nI (hK h))), (22, .int (nI ct)), (23, .int (nI la)), (24, .int (nI sm)), (25, .ref qf), (26, .int (nI i))]) rfl ?_
  obtain ⟨⟨hi, hct, hsm⟩, hf6, hla0, hla1⟩ := ha_658
  have hct60 : ct ≤ 60 := by have := jC_le h i; omega
  have hsm60 : sm ≤ 81 * i := by rw [hsm]; exact hs81 i hi
  refine ek_il X 17 rfl dL_law_658 ?_
  refine ek_il X 12 rfl dL_law_660 ?_
  refine ek_Nge X (by omega) (by omega) 846 (by decide) dL_law_662 (fun c_662 => ?_) (fun c_662 => ?_)
  · skip
    have hi9 : i = hK h := by omega
    rw [hi9] at hct hsm
    subst hct
    subst hsm
    refine ek_widen (k' := (1100 + 5000 * t + 4000)) (n' := (9000 + 40000 * t + 25000)) (show (1100 + 5000 * t + 1460 + 40 * i) ≤ (1100 + 5000 * t + 4000) by omega) (show (9000 + 40000 * t + 9400 + 240 * i) ≤ (9000 + 40000 * t + 25000) by omega) ?_
    refine ek_re [0, 1, 2, 3, 4, 5, 6, 8, 10, 12, 13, 15, 16] rfl ?_
    exact kk f6 (fun p hp => by rw [hf6 p hp, hi9])
  · skip
    obtain ⟨⟨⟨a1, a2⟩, ⟨a3, a4⟩, a5, a6⟩, a7⟩ := hE.2.1 i (by omega)
    have hmul : hFa h (i * 5 + 1) * bt ≤ 5 * 20 := Nat.mul_le_mul (by omega) hb2
    have hla : la ≤ hFa h (i * 5) := by
        rcases Nat.eq_zero_or_pos i with hi0 | hi0
        · rw [hla0 hi0]; exact Nat.zero_le _
        · rw [hla1 hi0]; have h9 := hE.2.2.1 (i - 1) (by omega); rw [show i - 1 + 1 = i by omega] at h9; exact h9
    have hla2 : hFa h (i * 5) ≤ 200 := a1
    have a8 : hFa h (i * 5 + 2) = dg (hFa h (i * 5 + 1)) := by rw [hdg _ a3]; exact a4
    have a9 : hFa h (i * 5 + 2) < 1024 := hH.2.2.2.2.2 _
    refine ek_aln X 1 rfl dL_law_665 ?_
    refine ek_il X 17 rfl dL_law_666 ?_
    refine ek_ic (v := nI 1) X (by decide) dL_law_668 ?_
    refine lx_call2 (As := [.int (nI i), .int (nI 1)]) (rest := []) (kc := 2) (ks := 12) X hZ (c_X4_heard l hl D cI cJ cR ad cv g q u h k hA.1 hH i 1 (by omega) (by omega)) (fun E => by rw [show xTwo i (hK h) 1 4 = 0 from by unfold xTwo; rw [if_pos (by omega)]]; rintro ⟨h1, -⟩ <;> exact absurd h1 (by decide)) ⟨rfl, rfl⟩ gL_law_X4_heard rfl hdV_X4_heard ⟨Nat.le_of_ble_eq_true rfl, Nat.le_of_ble_eq_true rfl⟩ ⟨(show (1100 + 5000 * t + 1460 + 40 * i) + 2 ≤ 600104 by omega), (show (9000 + 40000 * t + 9400 + 240 * i) + 12 ≤ 7301313 by omega)⟩ (Nat.le_of_ble_eq_true rfl) dL_law_669 (fun v_669 hv_669 => ?_)
    obtain ⟨-, rfl⟩ := hv_669
    by_cases hct4 : vEar cv ≤ hFa h (i * 5 + 3)
    · have h4 : hFa h (i * 5 + 4) = 1 := by rw [a6, if_pos hct4]
      refine ek_is (lv' := [(27, .int (nI (hFa h (i * 5 + 1)))), (0, .ref b), (1, .ref (ad 46)), (2, .int (nI C)), (3, .int (nI P)), (4, .int (nI (t + 1))), (5, .int (nI t)), (8, .int (nI w)), (9, .int (nI bt)), (12, .int (nI z)), (17, .int (nI lst)), (18, .int (nI n)), (19, .ref qd), (21, .int (nI (hK h))), (22, .int (nI ct)), (23, .int (nI la)), (24, .int (nI sm)), (25, .ref qf), (26, .int (nI i))]) X (by decide) rfl dL_law_672 ?_
      refine ek_aln X 2 rfl dL_law_674 ?_
      refine ek_il X 18 rfl dL_law_675 ?_
      refine ek_ic (v := nI 3) X (by decide) dL_law_677 ?_
      refine lx_call2 (As := [.int (nI i), .int (nI 3)]) (rest := []) (kc := 2) (ks := 12) X hZ (c_X4_heard l hl D cI cJ cR ad cv g q u h k hA.1 hH i 3 (by omega) (by omega)) (fun E => by rw [show xTwo i (hK h) 3 4 = 0 from by unfold xTwo; rw [if_pos (by omega)]]; rintro ⟨h1, -⟩ <;> exact absurd h1 (by decide)) ⟨rfl, rfl⟩ gL_law_X4_heard rfl hdV_X4_heard ⟨Nat.le_of_ble_eq_true rfl, Nat.le_of_ble_eq_true rfl⟩ ⟨(show ((1100 + 5000 * t + 1460 + 40 * i) + 2) + 2 ≤ 600104 by omega), (show ((9000 + 40000 * t + 9400 + 240 * i) + 12) + 12 ≤ 7301313 by omega)⟩ (Nat.le_of_ble_eq_true rfl) dL_law_678 (fun v_678 hv_678 => ?_)
      obtain ⟨-, rfl⟩ := hv_678
      refine ek_is (lv' := [(28, .int (nI (hFa h (i * 5 + 3)))), (27, .int (nI (hFa h (i * 5 + 1)))), (0, .ref b), (1, .ref (ad 46)), (2, .int (nI C)), (3, .int (nI P)), (4, .int (nI (t + 1))), (5, .int (nI t)), (8, .int (nI w)), (9, .int (nI bt)), (12, .int (nI z)), (17, .int (nI lst)), (18, .int (nI n)), (19, .ref qd), (21, .int (nI (hK h))), (22, .int (nI ct)), (23, .int (nI la)), (24, .int (nI sm)), (25, .ref qf), (26, .int (nI i))]) X (by decide) rfl dL_law_681 ?_
      refine ek_aln X 3 rfl dL_law_683 ?_
      refine ek_il X 19 rfl dL_law_684 ?_
      refine ek_ic (v := nI 0) X (by decide) dL_law_686 ?_
      refine lx_call2 (As := [.int (nI i), .int (nI 0)]) (rest := []) (kc := 2) (ks := 12) X hZ (c_X4_heard l hl D cI cJ cR ad cv g q u h k hA.1 hH i 0 (by omega) (by omega)) (fun E => by rw [show xTwo i (hK h) 0 4 = 0 from by unfold xTwo; rw [if_pos (by omega)]]; rintro ⟨h1, -⟩ <;> exact absurd h1 (by decide)) ⟨rfl, rfl⟩ gL_law_X4_heard rfl hdV_X4_heard ⟨Nat.le_of_ble_eq_true rfl, Nat.le_of_ble_eq_true rfl⟩ ⟨(show (((1100 + 5000 * t + 1460 + 40 * i) + 2) + 2) + 2 ≤ 600104 by omega), (show (((9000 + 40000 * t + 9400 + 240 * i) + 12) + 12) + 12 ≤ 7301313 by omega)⟩ (Nat.le_of_ble_eq_true rfl) dL_law_687 (fun v_687 hv_687 => ?_)
      obtain ⟨-, rfl⟩ := hv_687
      refine ek_top (v' := nI (hFa h (i * 5))) rfl ?_
      refine ek_il X 16 rfl dL_law_690 ?_
      refine ek_Nlt X (by omega) (by omega) 747 (by decide) dL_law_692 (fun c_692 => ?_) (fun c_692 => ?_)
      · exact absurd c_692 (by omega)
      · skip
        refine ek_aln X 3 rfl dL_law_695 ?_
        refine ek_il X 19 rfl dL_law_696 ?_
        refine ek_ic (v := nI 0) X (by decide) dL_law_698 ?_
        refine lx_call2 (As := [.int (nI i), .int (nI 0)]) (rest := []) (kc := 2) (ks := 12) X hZ (c_X4_heard l hl D cI cJ cR ad cv g q u h k hA.1 hH i 0 (by omega) (by omega)) (fun E => by rw [show xTwo i (hK h) 0 4 = 0 from by unfold xTwo; rw [if_pos (by omega)]]; rintro ⟨h1, -⟩ <;> exact absurd h1 (by decide)) ⟨rfl, rfl⟩ gL_law_X4_heard rfl hdV_X4_heard ⟨Nat.le_of_ble_eq_true rfl, Nat.le_of_ble_eq_true rfl⟩ ⟨(show ((((1100 + 5000 * t + 1460 + 40 * i) + 2) + 2) + 2) + 2 ≤ 600104 by omega), (show ((((9000 + 40000 * t + 9400 + 240 * i) + 12) + 12) + 12) + 12 ≤ 7301313 by omega)⟩ (Nat.le_of_ble_eq_true rfl) dL_law_699 (fun v_699 hv_699 => ?_)
        obtain ⟨-, rfl⟩ := hv_699
        refine ek_top (v' := nI (hFa h (i * 5))) rfl ?_
        refine ek_sp (v := nI 200) X (by decide) dL_law_702 ?_
        refine ek_Ngt X (by omega) (by omega) 747 (by decide) dL_law_705 (fun c_705 => ?_) (fun c_705 => ?_)
        · exact absurd c_705 (by omega)
        · skip
          refine ek_il X 1 rfl dL_law_708 ?_
          refine ek_Zlt X (by omega) 747 (by decide) dL_law_710 (fun c_710 => ?_) (fun c_710 => ?_)
          · exact c_710.elim
          · skip
            refine ek_il X 1 rfl dL_law_713 ?_
            refine ek_il X 12 rfl dL_law_715 ?_
            refine ek_Nge X (by omega) (by omega) 747 (by decide) dL_law_717 (fun c_717 => ?_) (fun c_717 => ?_)
            · exact absurd c_717 (by omega)
            · skip
              refine ek_aln X 3 rfl dL_law_720 ?_
              refine ek_il X 19 rfl dL_law_721 ?_
              refine ek_ic (v := nI 2) X (by decide) dL_law_723 ?_
              refine lx_call2 (As := [.int (nI i), .int (nI 2)]) (rest := []) (kc := 2) (ks := 12) X hZ (c_X4_heard l hl D cI cJ cR ad cv g q u h k hA.1 hH i 2 (by omega) (by omega)) (fun E => by rw [show xTwo i (hK h) 2 4 = 0 from by unfold xTwo; rw [if_pos (by omega)]]; rintro ⟨h1, -⟩ <;> exact absurd h1 (by decide)) ⟨rfl, rfl⟩ gL_law_X4_heard rfl hdV_X4_heard ⟨Nat.le_of_ble_eq_true rfl, Nat.le_of_ble_eq_true rfl⟩ ⟨(show (((((1100 + 5000 * t + 1460 + 40 * i) + 2) + 2) + 2) + 2) + 2 ≤ 600104 by omega), (show (((((9000 + 40000 * t + 9400 + 240 * i) + 12) + 12) + 12) + 12) + 12 ≤ 7301313 by omega)⟩ (Nat.le_of_ble_eq_true rfl) dL_law_724 (fun v_724 hv_724 => ?_)
              obtain ⟨-, rfl⟩ := hv_724
              refine ek_al X 13 rfl dL_law_727 ?_
              refine ek_il X 1 rfl dL_law_729 ?_
              refine ek_ald X 38 0 rfl rfl (by omega) (by omega) dL_law_731 ?_
              refine ek_Nne X (by omega) (by omega) 747 (by decide) dL_law_732 (fun c_732 => ?_) (fun c_732 => ?_)
              · exact absurd a8 c_732
              · skip
                refine ek_il X 0 rfl dL_law_735 ?_
                refine ek_Zlt X (by omega) 747 (by decide) dL_law_737 (fun c_737 => ?_) (fun c_737 => ?_)
                · exact c_737.elim
                · skip
                  refine ek_il X 0 rfl dL_law_740 ?_
                  refine ek_bp (v := nI 81) X (by decide) dL_law_742 ?_
                  refine ek_Nle X (by omega) (by omega) 749 (by decide) dL_law_744 (fun c_744 => ?_) (fun c_744 => ?_)
                  · skip
                    refine ek_aln X 3 rfl dL_law_749 ?_
                    refine ek_il X 19 rfl dL_law_750 ?_
                    refine ek_ic (v := nI 0) X (by decide) dL_law_752 ?_
                    refine lx_call2 (As := [.int (nI i), .int (nI 0)]) (rest := []) (kc := 2) (ks := 12) X hZ (c_X4_heard l hl D cI cJ cR ad cv g q u h k hA.1 hH i 0 (by omega) (by omega)) (fun E => by rw [show xTwo i (hK h) 0 4 = 0 from by unfold xTwo; rw [if_pos (by omega)]]; rintro ⟨h1, -⟩ <;> exact absurd h1 (by decide)) ⟨rfl, rfl⟩ gL_law_X4_heard rfl hdV_X4_heard ⟨Nat.le_of_ble_eq_true rfl, Nat.le_of_ble_eq_true rfl⟩ ⟨(show ((((((1100 + 5000 * t + 1460 + 40 * i) + 2) + 2) + 2) + 2) + 2) + 2 ≤ 600104 by omega), (show ((((((9000 + 40000 * t + 9400 + 240 * i) + 12) + 12) + 12) + 12) + 12) + 12 ≤ 7301313 by omega)⟩ (Nat.le_of_ble_eq_true rfl) dL_law_753 (fun v_753 hv_753 => ?_)
                    obtain ⟨-, rfl⟩ := hv_753
                    refine ek_top (v' := nI (hFa h (i * 5))) rfl ?_
                    refine ek_is (lv' := [(23, .int (nI (hFa h (i * 5)))), (28, .int (nI (hFa h (i * 5 + 3)))), (27, .int (nI (hFa h (i * 5 + 1)))), (0, .ref b), (1, .ref (ad 46)), (2, .int (nI C)), (3, .int (nI P)), (4, .int (nI (t + 1))), (5, .int (nI t)), (8, .int (nI w)), (9, .int (nI bt)), (12, .int (nI z)), (17, .int (nI lst)), (18, .int (nI n)), (19, .ref qd), (21, .int (nI (hK h))), (22, .int (nI ct)), (24, .int (nI sm)), (25, .ref qf), (26, .int (nI i))]) X (by decide) rfl dL_law_756 ?_
                    refine ek_il X 0 rfl dL_law_758 ?_
                    refine ek_il X 2 rfl dL_law_760 ?_
                    refine ek_il X 10 rfl dL_law_762 ?_
                    refine ek_Nmul X dL_law_764 ?_
                    refine ek_ic (v := nI 2) X (by decide) dL_law_765 ?_
                    refine ek_il X 12 rfl dL_law_766 ?_
                    refine ek_Nmul X dL_law_768 ?_
                    refine ek_Nadd X dL_law_769 ?_
                    refine ek_Nge X (by omega) (by omega) 775 (by decide) dL_law_770 (fun c_770 => ?_) (fun c_770 => ?_)
                    · skip
                      refine ek_aln X 4 rfl dL_law_775 ?_
                      refine ek_il X 19 rfl dL_law_776 ?_
                      refine ek_ic (v := nI 4) X (by decide) dL_law_778 ?_
                      refine lx_call2 (As := [.int (nI i), .int (nI 4)]) (rest := []) (kc := 2) (ks := 12) X hZ (c_X4_heard l hl D cI cJ cR ad cv g q u h k hA.1 hH i 4 (by omega) (by omega)) (fun E => by rw [show xTwo i (hK h) 4 4 = 0 from by unfold xTwo; rw [if_pos (by omega)]]; rintro ⟨h1, -⟩ <;> exact absurd h1 (by decide)) ⟨rfl, rfl⟩ gL_law_X4_heard rfl hdV_X4_heard ⟨Nat.le_of_ble_eq_true rfl, Nat.le_of_ble_eq_true rfl⟩ ⟨(show (((((((1100 + 5000 * t + 1460 + 40 * i) + 2) + 2) + 2) + 2) + 2) + 2) + 2 ≤ 600104 by omega), (show (((((((9000 + 40000 * t + 9400 + 240 * i) + 12) + 12) + 12) + 12) + 12) + 12) + 12 ≤ 7301313 by omega)⟩ (Nat.le_of_ble_eq_true rfl) dL_law_779 (fun v_779 hv_779 => ?_)
                      obtain ⟨-, rfl⟩ := hv_779
                      refine ek_il X 1 rfl dL_law_782 ?_
                      refine ek_aln X 4 rfl dL_law_784 ?_
                      refine ek_ic (v := nI 5) X (by decide) dL_law_785 ?_
                      refine lx_call2 (As := [.int (nI 5)]) (rest := [.int (nI (hFa h (i * 5 + 3))), .int (nI (hFa h (i * 5 + 4)))]) (kc := 1) (ks := 6) X hZ (c_X4_count l hl D cI cJ cR ad cv g q u h k hA.1 5 (by omega)) (fun E => by rw [show xLe 5 9 = 0 from by unfold xLe; rw [if_pos (by omega)]]; rintro ⟨h1, -⟩ <;> exact absurd h1 (by decide)) ⟨rfl, rfl⟩ gL_law_X4_count rfl hdV_X4_count ⟨Nat.le_of_ble_eq_true rfl, Nat.le_of_ble_eq_true rfl⟩ ⟨(show ((((((((1100 + 5000 * t + 1460 + 40 * i) + 2) + 2) + 2) + 2) + 2) + 2) + 2) + 1 ≤ 600104 by omega), (show ((((((((9000 + 40000 * t + 9400 + 240 * i) + 12) + 12) + 12) + 12) + 12) + 12) + 12) + 6 ≤ 7301313 by omega)⟩ (Nat.le_of_ble_eq_true rfl) dL_law_786 (fun v_786 hv_786 => ?_)
                      obtain ⟨-, rfl⟩ := hv_786
                      refine ek_top (v' := nI (vEar cv)) rfl ?_
                      refine ek_Nlt X (by omega) (by omega) 796 (by decide) dL_law_789 (fun c_789 => ?_) (fun c_789 => ?_)
                      · exact absurd c_789 (by omega)
                      · skip
                        refine ek_ic (v := nI 1) X (by decide) dL_law_792 ?_
                        refine ek_goto X 797 (by decide) dL_law_793 ?_
                        refine ek_Neq X (by omega) (by omega) 802 (by decide) dL_law_797 (fun c_797 => ?_) (fun c_797 => ?_)
                        · skip
                          refine ek_il X 17 rfl dL_law_802 ?_
                          refine ek_il X 1 rfl dL_law_804 ?_
                          refine ek_Nadd X dL_law_806 ?_
                          refine ek_is (lv' := [(24, .int (nI (sm + (hFa h (i * 5 + 3))))), (23, .int (nI (hFa h (i * 5)))), (28, .int (nI (hFa h (i * 5 + 3)))), (27, .int (nI (hFa h (i * 5 + 1)))), (0, .ref b), (1, .ref (ad 46)), (2, .int (nI C)), (3, .int (nI P)), (4, .int (nI (t + 1))), (5, .int (nI t)), (8, .int (nI w)), (9, .int (nI bt)), (12, .int (nI z)), (17, .int (nI lst)), (18, .int (nI n)), (19, .ref qd), (21, .int (nI (hK h))), (22, .int (nI ct)), (25, .ref qf), (26, .int (nI i))]) X (by decide) rfl dL_law_807 ?_
                          refine ek_aln X 5 rfl dL_law_809 ?_
                          refine ek_il X 19 rfl dL_law_810 ?_
                          refine ek_ic (v := nI 4) X (by decide) dL_law_812 ?_
                          refine lx_call2 (As := [.int (nI i), .int (nI 4)]) (rest := []) (kc := 2) (ks := 12) X hZ (c_X4_heard l hl D cI cJ cR ad cv g q u h k hA.1 hH i 4 (by omega) (by omega)) (fun E => by rw [show xTwo i (hK h) 4 4 = 0 from by unfold xTwo; rw [if_pos (by omega)]]; rintro ⟨h1, -⟩ <;> exact absurd h1 (by decide)) ⟨rfl, rfl⟩ gL_law_X4_heard rfl hdV_X4_heard ⟨Nat.le_of_ble_eq_true rfl, Nat.le_of_ble_eq_true rfl⟩ ⟨(show (((((((((1100 + 5000 * t + 1460 + 40 * i) + 2) + 2) + 2) + 2) + 2) + 2) + 2) + 1) + 2 ≤ 600104 by omega), (show (((((((((9000 + 40000 * t + 9400 + 240 * i) + 12) + 12) + 12) + 12) + 12) + 12) + 12) + 6) + 12 ≤ 7301313 by omega)⟩ (Nat.le_of_ble_eq_true rfl) dL_law_813 (fun v_813 hv_813 => ?_)
                          obtain ⟨-, rfl⟩ := hv_813
                          refine ek_Zne X (by omega) 822 (by decide) dL_law_816 (fun c_816 => ?_) (fun c_816 => ?_)
                          · skip
                            refine ek_Ninc (j := 17) (d := 1) (lv' := [(22, .int (nI (ct + 1))), (24, .int (nI (sm + (hFa h (i * 5 + 3))))), (23, .int (nI (hFa h (i * 5)))), (28, .int (nI (hFa h (i * 5 + 3)))), (27, .int (nI (hFa h (i * 5 + 1)))), (0, .ref b), (1, .ref (ad 46)), (2, .int (nI C)), (3, .int (nI P)), (4, .int (nI (t + 1))), (5, .int (nI t)), (8, .int (nI w)), (9, .int (nI bt)), (12, .int (nI z)), (17, .int (nI lst)), (18, .int (nI n)), (19, .ref qd), (21, .int (nI (hK h))), (25, .ref qf), (26, .int (nI i))]) X rfl (by decide) rfl dL_law_822 ?_
                            refine ek_al X 18 rfl dL_law_825 ?_
                            refine ek_il X 4 rfl dL_law_827 ?_
                            refine ek_ald X 39 0 rfl rfl (by omega) (by omega) dL_law_829 ?_
                            refine ek_top (v' := f6 (hFa h (i * 5 + 1))) rfl ?_
                            refine ek_if_ge X 840 (by decide) dL_law_830 (fun c_830 => ?_) (fun c_830 => ?_)
                            · skip
                              refine ek_Ninc (j := 19) (d := 1) (lv' := [(26, .int (nI (i + 1))), (22, .int (nI (ct + 1))), (24, .int (nI (sm + (hFa h (i * 5 + 3))))), (23, .int (nI (hFa h (i * 5)))), (28, .int (nI (hFa h (i * 5 + 3)))), (27, .int (nI (hFa h (i * 5 + 1)))), (0, .ref b), (1, .ref (ad 46)), (2, .int (nI C)), (3, .int (nI P)), (4, .int (nI (t + 1))), (5, .int (nI t)), (8, .int (nI w)), (9, .int (nI bt)), (12, .int (nI z)), (17, .int (nI lst)), (18, .int (nI n)), (19, .ref qd), (21, .int (nI (hK h))), (25, .ref qf)]) X rfl (by decide) rfl dL_law_840 ?_
                              refine ek_goto X 658 (by decide) dL_law_843 ?_
                              refine ek_widen (k' := (1100 + 5000 * t + 1460 + 40 * (i + 1))) (n' := (9000 + 40000 * t + 9400 + 240 * (i + 1))) (show ((((((((((1100 + 5000 * t + 1460 + 40 * i) + 2) + 2) + 2) + 2) + 2) + 2) + 2) + 1) + 2) ≤ (1100 + 5000 * t + 1460 + 40 * (i + 1)) by omega) (show ((((((((((9000 + 40000 * t + 9400 + 240 * i) + 12) + 12) + 12) + 12) + 12) + 12) + 12) + 6) + 12) ≤ (9000 + 40000 * t + 9400 + 240 * (i + 1)) by omega) ?_
                              refine ek_re [6, 7, 8, 9, 10, 11, 12, 13, 14, 15, 16, 17, 18, 1, 3, 2, 19, 0] rfl ?_
                              exact ih_658 (i + 1, ct + 1, hFa h (i * 5), sm + (hFa h (i * 5 + 3)), f6) (show ((i + 1) ≤ hK h ∧ (ct + 1) = jC h (i + 1) ∧ (sm + (hFa h (i * 5 + 3))) = hSum h (i + 1)) ∧ (∀ p, p < 6 → f6 p = jF h p (i + 1)) ∧ ((i + 1) = 0 → (hFa h (i * 5)) = 0) ∧ (0 < (i + 1) → (hFa h (i * 5)) = hFa h (((i + 1) - 1) * 5)) from ⟨⟨by omega, (by first | (rw [hct]; exact jC_1 h4) | (rw [hct]; exact jC_0 h4)), (by rw [hsm]; rfl)⟩, (by first | exact jF_keep h4 hf6 | exact jF_old (by omega) c_830 hf6 | exact jF_new h4 (by omega) c_830 hf6), (fun h9 => absurd h9 (Nat.succ_ne_zero i)), (fun _ => by rw [Nat.add_sub_cancel])⟩) (by show hK h - (i + 1) < hK h - i; omega)
                            · skip
                              refine ek_al X 18 rfl dL_law_833 ?_
                              refine ek_il X 4 rfl dL_law_835 ?_
                              refine ek_il X 2 rfl dL_law_837 ?_
                              refine ek_ast (w' := (wV ad cI cJ cR cv g q u h k) ++ [(qd, .inl (cI, 6, .inl (fun j => nI (dg j)))), (qf, .inl (cI, 6, .inl (eN f6 (hFa h (i * 5 + 1)) (nI (hFa h (i * 5))))))]) X 39 0 rfl rfl (by omega) (by omega) rfl dL_law_839 ?_
                              refine ek_Ninc (j := 19) (d := 1) (lv' := [(26, .int (nI (i + 1))), (22, .int (nI (ct + 1))), (24, .int (nI (sm + (hFa h (i * 5 + 3))))), (23, .int (nI (hFa h (i * 5)))), (28, .int (nI (hFa h (i * 5 + 3)))), (27, .int (nI (hFa h (i * 5 + 1)))), (0, .ref b), (1, .ref (ad 46)), (2, .int (nI C)), (3, .int (nI P)), (4, .int (nI (t + 1))), (5, .int (nI t)), (8, .int (nI w)), (9, .int (nI bt)), (12, .int (nI z)), (17, .int (nI lst)), (18, .int (nI n)), (19, .ref qd), (21, .int (nI (hK h))), (25, .ref qf)]) X rfl (by decide) rfl dL_law_840 ?_
                              refine ek_goto X 658 (by decide) dL_law_843 ?_
                              refine ek_widen (k' := (1100 + 5000 * t + 1460 + 40 * (i + 1))) (n' := (9000 + 40000 * t + 9400 + 240 * (i + 1))) (show ((((((((((1100 + 5000 * t + 1460 + 40 * i) + 2) + 2) + 2) + 2) + 2) + 2) + 2) + 1) + 2) ≤ (1100 + 5000 * t + 1460 + 40 * (i + 1)) by omega) (show ((((((((((9000 + 40000 * t + 9400 + 240 * i) + 12) + 12) + 12) + 12) + 12) + 12) + 12) + 6) + 12) ≤ (9000 + 40000 * t + 9400 + 240 * (i + 1)) by omega) ?_
                              refine ek_re [6, 7, 8, 9, 10, 11, 12, 13, 14, 15, 16, 17, 18, 1, 3, 2, 19, 0] rfl ?_
                              exact ih_658 (i + 1, ct + 1, hFa h (i * 5), sm + (hFa h (i * 5 + 3)), eN f6 (hFa h (i * 5 + 1)) (nI (hFa h (i * 5)))) (show ((i + 1) ≤ hK h ∧ (ct + 1) = jC h (i + 1) ∧ (sm + (hFa h (i * 5 + 3))) = hSum h (i + 1)) ∧ (∀ p, p < 6 → (eN f6 (hFa h (i * 5 + 1)) (nI (hFa h (i * 5)))) p = jF h p (i + 1)) ∧ ((i + 1) = 0 → (hFa h (i * 5)) = 0) ∧ (0 < (i + 1) → (hFa h (i * 5)) = hFa h (((i + 1) - 1) * 5)) from ⟨⟨by omega, (by first | (rw [hct]; exact jC_1 h4) | (rw [hct]; exact jC_0 h4)), (by rw [hsm]; rfl)⟩, (by first | exact jF_keep h4 hf6 | exact jF_old (by omega) c_830 hf6 | exact jF_new h4 (by omega) c_830 hf6), (fun h9 => absurd h9 (Nat.succ_ne_zero i)), (fun _ => by rw [Nat.add_sub_cancel])⟩) (by show hK h - (i + 1) < hK h - i; omega)
                          · exact absurd c_816 (by omega)
                        · exact absurd h4 c_797
                    · exact absurd c_770 (by omega)
                  · exact absurd c_744 (by omega)
    · have h4 : hFa h (i * 5 + 4) = 0 := by rw [a6, if_neg hct4]
      refine ek_is (lv' := [(27, .int (nI (hFa h (i * 5 + 1)))), (0, .ref b), (1, .ref (ad 46)), (2, .int (nI C)), (3, .int (nI P)), (4, .int (nI (t + 1))), (5, .int (nI t)), (8, .int (nI w)), (9, .int (nI bt)), (12, .int (nI z)), (17, .int (nI lst)), (18, .int (nI n)), (19, .ref qd), (21, .int (nI (hK h))), (22, .int (nI ct)), (23, .int (nI la)), (24, .int (nI sm)), (25, .ref qf), (26, .int (nI i))]) X (by decide) rfl dL_law_672 ?_
      refine ek_aln X 2 rfl dL_law_674 ?_
      refine ek_il X 18 rfl dL_law_675 ?_
      refine ek_ic (v := nI 3) X (by decide) dL_law_677 ?_
      refine lx_call2 (As := [.int (nI i), .int (nI 3)]) (rest := []) (kc := 2) (ks := 12) X hZ (c_X4_heard l hl D cI cJ cR ad cv g q u h k hA.1 hH i 3 (by omega) (by omega)) (fun E => by rw [show xTwo i (hK h) 3 4 = 0 from by unfold xTwo; rw [if_pos (by omega)]]; rintro ⟨h1, -⟩ <;> exact absurd h1 (by decide)) ⟨rfl, rfl⟩ gL_law_X4_heard rfl hdV_X4_heard ⟨Nat.le_of_ble_eq_true rfl, Nat.le_of_ble_eq_true rfl⟩ ⟨(show ((1100 + 5000 * t + 1460 + 40 * i) + 2) + 2 ≤ 600104 by omega), (show ((9000 + 40000 * t + 9400 + 240 * i) + 12) + 12 ≤ 7301313 by omega)⟩ (Nat.le_of_ble_eq_true rfl) dL_law_678 (fun v_678 hv_678 => ?_)
      obtain ⟨-, rfl⟩ := hv_678
      refine ek_is (lv' := [(28, .int (nI (hFa h (i * 5 + 3)))), (27, .int (nI (hFa h (i * 5 + 1)))), (0, .ref b), (1, .ref (ad 46)), (2, .int (nI C)), (3, .int (nI P)), (4, .int (nI (t + 1))), (5, .int (nI t)), (8, .int (nI w)), (9, .int (nI bt)), (12, .int (nI z)), (17, .int (nI lst)), (18, .int (nI n)), (19, .ref qd), (21, .int (nI (hK h))), (22, .int (nI ct)), (23, .int (nI la)), (24, .int (nI sm)), (25, .ref qf), (26, .int (nI i))]) X (by decide) rfl dL_law_681 ?_
      refine ek_aln X 3 rfl dL_law_683 ?_
      refine ek_il X 19 rfl dL_law_684 ?_
      refine ek_ic (v := nI 0) X (by decide) dL_law_686 ?_
      refine lx_call2 (As := [.int (nI i), .int (nI 0)]) (rest := []) (kc := 2) (ks := 12) X hZ (c_X4_heard l hl D cI cJ cR ad cv g q u h k hA.1 hH i 0 (by omega) (by omega)) (fun E => by rw [show xTwo i (hK h) 0 4 = 0 from by unfold xTwo; rw [if_pos (by omega)]]; rintro ⟨h1, -⟩ <;> exact absurd h1 (by decide)) ⟨rfl, rfl⟩ gL_law_X4_heard rfl hdV_X4_heard ⟨Nat.le_of_ble_eq_true rfl, Nat.le_of_ble_eq_true rfl⟩ ⟨(show (((1100 + 5000 * t + 1460 + 40 * i) + 2) + 2) + 2 ≤ 600104 by omega), (show (((9000 + 40000 * t + 9400 + 240 * i) + 12) + 12) + 12 ≤ 7301313 by omega)⟩ (Nat.le_of_ble_eq_true rfl) dL_law_687 (fun v_687 hv_687 => ?_)
      obtain ⟨-, rfl⟩ := hv_687
      refine ek_top (v' := nI (hFa h (i * 5))) rfl ?_
      refine ek_il X 16 rfl dL_law_690 ?_
      refine ek_Nlt X (by omega) (by omega) 747 (by decide) dL_law_692 (fun c_692 => ?_) (fun c_692 => ?_)
      · exact absurd c_692 (by omega)
      · skip
        refine ek_aln X 3 rfl dL_law_695 ?_
        refine ek_il X 19 rfl dL_law_696 ?_
        refine ek_ic (v := nI 0) X (by decide) dL_law_698 ?_
        refine lx_call2 (As := [.int (nI i), .int (nI 0)]) (rest := []) (kc := 2) (ks := 12) X hZ (c_X4_heard l hl D cI cJ cR ad cv g q u h k hA.1 hH i 0 (by omega) (by omega)) (fun E => by rw [show xTwo i (hK h) 0 4 = 0 from by unfold xTwo; rw [if_pos (by omega)]]; rintro ⟨h1, -⟩ <;> exact absurd h1 (by decide)) ⟨rfl, rfl⟩ gL_law_X4_heard rfl hdV_X4_heard ⟨Nat.le_of_ble_eq_true rfl, Nat.le_of_ble_eq_true rfl⟩ ⟨(show ((((1100 + 5000 * t + 1460 + 40 * i) + 2) + 2) + 2) + 2 ≤ 600104 by omega), (show ((((9000 + 40000 * t + 9400 + 240 * i) + 12) + 12) + 12) + 12 ≤ 7301313 by omega)⟩ (Nat.le_of_ble_eq_true rfl) dL_law_699 (fun v_699 hv_699 => ?_)
        obtain ⟨-, rfl⟩ := hv_699
        refine ek_top (v' := nI (hFa h (i * 5))) rfl ?_
        refine ek_sp (v := nI 200) X (by decide) dL_law_702 ?_
        refine ek_Ngt X (by omega) (by omega) 747 (by decide) dL_law_705 (fun c_705 => ?_) (fun c_705 => ?_)
        · exact absurd c_705 (by omega)
        · skip
          refine ek_il X 1 rfl dL_law_708 ?_
          refine ek_Zlt X (by omega) 747 (by decide) dL_law_710 (fun c_710 => ?_) (fun c_710 => ?_)
          · exact c_710.elim
          · skip
            refine ek_il X 1 rfl dL_law_713 ?_
            refine ek_il X 12 rfl dL_law_715 ?_
            refine ek_Nge X (by omega) (by omega) 747 (by decide) dL_law_717 (fun c_717 => ?_) (fun c_717 => ?_)
            · exact absurd c_717 (by omega)
            · skip
              refine ek_aln X 3 rfl dL_law_720 ?_
              refine ek_il X 19 rfl dL_law_721 ?_
              refine ek_ic (v := nI 2) X (by decide) dL_law_723 ?_
              refine lx_call2 (As := [.int (nI i), .int (nI 2)]) (rest := []) (kc := 2) (ks := 12) X hZ (c_X4_heard l hl D cI cJ cR ad cv g q u h k hA.1 hH i 2 (by omega) (by omega)) (fun E => by rw [show xTwo i (hK h) 2 4 = 0 from by unfold xTwo; rw [if_pos (by omega)]]; rintro ⟨h1, -⟩ <;> exact absurd h1 (by decide)) ⟨rfl, rfl⟩ gL_law_X4_heard rfl hdV_X4_heard ⟨Nat.le_of_ble_eq_true rfl, Nat.le_of_ble_eq_true rfl⟩ ⟨(show (((((1100 + 5000 * t + 1460 + 40 * i) + 2) + 2) + 2) + 2) + 2 ≤ 600104 by omega), (show (((((9000 + 40000 * t + 9400 + 240 * i) + 12) + 12) + 12) + 12) + 12 ≤ 7301313 by omega)⟩ (Nat.le_of_ble_eq_true rfl) dL_law_724 (fun v_724 hv_724 => ?_)
              obtain ⟨-, rfl⟩ := hv_724
              refine ek_al X 13 rfl dL_law_727 ?_
              refine ek_il X 1 rfl dL_law_729 ?_
              refine ek_ald X 38 0 rfl rfl (by omega) (by omega) dL_law_731 ?_
              refine ek_Nne X (by omega) (by omega) 747 (by decide) dL_law_732 (fun c_732 => ?_) (fun c_732 => ?_)
              · exact absurd a8 c_732
              · skip
                refine ek_il X 0 rfl dL_law_735 ?_
                refine ek_Zlt X (by omega) 747 (by decide) dL_law_737 (fun c_737 => ?_) (fun c_737 => ?_)
                · exact c_737.elim
                · skip
                  refine ek_il X 0 rfl dL_law_740 ?_
                  refine ek_bp (v := nI 81) X (by decide) dL_law_742 ?_
                  refine ek_Nle X (by omega) (by omega) 749 (by decide) dL_law_744 (fun c_744 => ?_) (fun c_744 => ?_)
                  · skip
                    refine ek_aln X 3 rfl dL_law_749 ?_
                    refine ek_il X 19 rfl dL_law_750 ?_
                    refine ek_ic (v := nI 0) X (by decide) dL_law_752 ?_
                    refine lx_call2 (As := [.int (nI i), .int (nI 0)]) (rest := []) (kc := 2) (ks := 12) X hZ (c_X4_heard l hl D cI cJ cR ad cv g q u h k hA.1 hH i 0 (by omega) (by omega)) (fun E => by rw [show xTwo i (hK h) 0 4 = 0 from by unfold xTwo; rw [if_pos (by omega)]]; rintro ⟨h1, -⟩ <;> exact absurd h1 (by decide)) ⟨rfl, rfl⟩ gL_law_X4_heard rfl hdV_X4_heard ⟨Nat.le_of_ble_eq_true rfl, Nat.le_of_ble_eq_true rfl⟩ ⟨(show ((((((1100 + 5000 * t + 1460 + 40 * i) + 2) + 2) + 2) + 2) + 2) + 2 ≤ 600104 by omega), (show ((((((9000 + 40000 * t + 9400 + 240 * i) + 12) + 12) + 12) + 12) + 12) + 12 ≤ 7301313 by omega)⟩ (Nat.le_of_ble_eq_true rfl) dL_law_753 (fun v_753 hv_753 => ?_)
                    obtain ⟨-, rfl⟩ := hv_753
                    refine ek_top (v' := nI (hFa h (i * 5))) rfl ?_
                    refine ek_is (lv' := [(23, .int (nI (hFa h (i * 5)))), (28, .int (nI (hFa h (i * 5 + 3)))), (27, .int (nI (hFa h (i * 5 + 1)))), (0, .ref b), (1, .ref (ad 46)), (2, .int (nI C)), (3, .int (nI P)), (4, .int (nI (t + 1))), (5, .int (nI t)), (8, .int (nI w)), (9, .int (nI bt)), (12, .int (nI z)), (17, .int (nI lst)), (18, .int (nI n)), (19, .ref qd), (21, .int (nI (hK h))), (22, .int (nI ct)), (24, .int (nI sm)), (25, .ref qf), (26, .int (nI i))]) X (by decide) rfl dL_law_756 ?_
                    refine ek_il X 0 rfl dL_law_758 ?_
                    refine ek_il X 2 rfl dL_law_760 ?_
                    refine ek_il X 10 rfl dL_law_762 ?_
                    refine ek_Nmul X dL_law_764 ?_
                    refine ek_ic (v := nI 2) X (by decide) dL_law_765 ?_
                    refine ek_il X 12 rfl dL_law_766 ?_
                    refine ek_Nmul X dL_law_768 ?_
                    refine ek_Nadd X dL_law_769 ?_
                    refine ek_Nge X (by omega) (by omega) 775 (by decide) dL_law_770 (fun c_770 => ?_) (fun c_770 => ?_)
                    · skip
                      refine ek_aln X 4 rfl dL_law_775 ?_
                      refine ek_il X 19 rfl dL_law_776 ?_
                      refine ek_ic (v := nI 4) X (by decide) dL_law_778 ?_
                      refine lx_call2 (As := [.int (nI i), .int (nI 4)]) (rest := []) (kc := 2) (ks := 12) X hZ (c_X4_heard l hl D cI cJ cR ad cv g q u h k hA.1 hH i 4 (by omega) (by omega)) (fun E => by rw [show xTwo i (hK h) 4 4 = 0 from by unfold xTwo; rw [if_pos (by omega)]]; rintro ⟨h1, -⟩ <;> exact absurd h1 (by decide)) ⟨rfl, rfl⟩ gL_law_X4_heard rfl hdV_X4_heard ⟨Nat.le_of_ble_eq_true rfl, Nat.le_of_ble_eq_true rfl⟩ ⟨(show (((((((1100 + 5000 * t + 1460 + 40 * i) + 2) + 2) + 2) + 2) + 2) + 2) + 2 ≤ 600104 by omega), (show (((((((9000 + 40000 * t + 9400 + 240 * i) + 12) + 12) + 12) + 12) + 12) + 12) + 12 ≤ 7301313 by omega)⟩ (Nat.le_of_ble_eq_true rfl) dL_law_779 (fun v_779 hv_779 => ?_)
                      obtain ⟨-, rfl⟩ := hv_779
                      refine ek_il X 1 rfl dL_law_782 ?_
                      refine ek_aln X 4 rfl dL_law_784 ?_
                      refine ek_ic (v := nI 5) X (by decide) dL_law_785 ?_
                      refine lx_call2 (As := [.int (nI 5)]) (rest := [.int (nI (hFa h (i * 5 + 3))), .int (nI (hFa h (i * 5 + 4)))]) (kc := 1) (ks := 6) X hZ (c_X4_count l hl D cI cJ cR ad cv g q u h k hA.1 5 (by omega)) (fun E => by rw [show xLe 5 9 = 0 from by unfold xLe; rw [if_pos (by omega)]]; rintro ⟨h1, -⟩ <;> exact absurd h1 (by decide)) ⟨rfl, rfl⟩ gL_law_X4_count rfl hdV_X4_count ⟨Nat.le_of_ble_eq_true rfl, Nat.le_of_ble_eq_true rfl⟩ ⟨(show ((((((((1100 + 5000 * t + 1460 + 40 * i) + 2) + 2) + 2) + 2) + 2) + 2) + 2) + 1 ≤ 600104 by omega), (show ((((((((9000 + 40000 * t + 9400 + 240 * i) + 12) + 12) + 12) + 12) + 12) + 12) + 12) + 6 ≤ 7301313 by omega)⟩ (Nat.le_of_ble_eq_true rfl) dL_law_786 (fun v_786 hv_786 => ?_)
                      obtain ⟨-, rfl⟩ := hv_786
                      refine ek_top (v' := nI (vEar cv)) rfl ?_
                      refine ek_Nlt X (by omega) (by omega) 796 (by decide) dL_law_789 (fun c_789 => ?_) (fun c_789 => ?_)
                      · skip
                        refine ek_ic (v := nI 0) X (by decide) dL_law_796 ?_
                        refine ek_Neq X (by omega) (by omega) 802 (by decide) dL_law_797 (fun c_797 => ?_) (fun c_797 => ?_)
                        · skip
                          refine ek_il X 17 rfl dL_law_802 ?_
                          refine ek_il X 1 rfl dL_law_804 ?_
                          refine ek_Nadd X dL_law_806 ?_
                          refine ek_is (lv' := [(24, .int (nI (sm + (hFa h (i * 5 + 3))))), (23, .int (nI (hFa h (i * 5)))), (28, .int (nI (hFa h (i * 5 + 3)))), (27, .int (nI (hFa h (i * 5 + 1)))), (0, .ref b), (1, .ref (ad 46)), (2, .int (nI C)), (3, .int (nI P)), (4, .int (nI (t + 1))), (5, .int (nI t)), (8, .int (nI w)), (9, .int (nI bt)), (12, .int (nI z)), (17, .int (nI lst)), (18, .int (nI n)), (19, .ref qd), (21, .int (nI (hK h))), (22, .int (nI ct)), (25, .ref qf), (26, .int (nI i))]) X (by decide) rfl dL_law_807 ?_
                          refine ek_aln X 5 rfl dL_law_809 ?_
                          refine ek_il X 19 rfl dL_law_810 ?_
                          refine ek_ic (v := nI 4) X (by decide) dL_law_812 ?_
                          refine lx_call2 (As := [.int (nI i), .int (nI 4)]) (rest := []) (kc := 2) (ks := 12) X hZ (c_X4_heard l hl D cI cJ cR ad cv g q u h k hA.1 hH i 4 (by omega) (by omega)) (fun E => by rw [show xTwo i (hK h) 4 4 = 0 from by unfold xTwo; rw [if_pos (by omega)]]; rintro ⟨h1, -⟩ <;> exact absurd h1 (by decide)) ⟨rfl, rfl⟩ gL_law_X4_heard rfl hdV_X4_heard ⟨Nat.le_of_ble_eq_true rfl, Nat.le_of_ble_eq_true rfl⟩ ⟨(show (((((((((1100 + 5000 * t + 1460 + 40 * i) + 2) + 2) + 2) + 2) + 2) + 2) + 2) + 1) + 2 ≤ 600104 by omega), (show (((((((((9000 + 40000 * t + 9400 + 240 * i) + 12) + 12) + 12) + 12) + 12) + 12) + 12) + 6) + 12 ≤ 7301313 by omega)⟩ (Nat.le_of_ble_eq_true rfl) dL_law_813 (fun v_813 hv_813 => ?_)
                          obtain ⟨-, rfl⟩ := hv_813
                          refine ek_Zne X (by omega) 822 (by decide) dL_law_816 (fun c_816 => ?_) (fun c_816 => ?_)
                          · exact absurd h4 c_816
                          · skip
                            refine ek_goto X 840 (by decide) dL_law_819 ?_
                            refine ek_Ninc (j := 19) (d := 1) (lv' := [(26, .int (nI (i + 1))), (24, .int (nI (sm + (hFa h (i * 5 + 3))))), (23, .int (nI (hFa h (i * 5)))), (28, .int (nI (hFa h (i * 5 + 3)))), (27, .int (nI (hFa h (i * 5 + 1)))), (0, .ref b), (1, .ref (ad 46)), (2, .int (nI C)), (3, .int (nI P)), (4, .int (nI (t + 1))), (5, .int (nI t)), (8, .int (nI w)), (9, .int (nI bt)), (12, .int (nI z)), (17, .int (nI lst)), (18, .int (nI n)), (19, .ref qd), (21, .int (nI (hK h))), (22, .int (nI ct)), (25, .ref qf)]) X rfl (by decide) rfl dL_law_840 ?_
                            refine ek_goto X 658 (by decide) dL_law_843 ?_
                            refine ek_widen (k' := (1100 + 5000 * t + 1460 + 40 * (i + 1))) (n' := (9000 + 40000 * t + 9400 + 240 * (i + 1))) (show ((((((((((1100 + 5000 * t + 1460 + 40 * i) + 2) + 2) + 2) + 2) + 2) + 2) + 2) + 1) + 2) ≤ (1100 + 5000 * t + 1460 + 40 * (i + 1)) by omega) (show ((((((((((9000 + 40000 * t + 9400 + 240 * i) + 12) + 12) + 12) + 12) + 12) + 12) + 12) + 6) + 12) ≤ (9000 + 40000 * t + 9400 + 240 * (i + 1)) by omega) ?_
                            refine ek_re [5, 6, 7, 8, 9, 10, 11, 12, 13, 14, 15, 16, 17, 18, 2, 1, 19, 0] rfl ?_
                            exact ih_658 (i + 1, ct, hFa h (i * 5), sm + (hFa h (i * 5 + 3)), f6) (show ((i + 1) ≤ hK h ∧ ct = jC h (i + 1) ∧ (sm + (hFa h (i * 5 + 3))) = hSum h (i + 1)) ∧ (∀ p, p < 6 → f6 p = jF h p (i + 1)) ∧ ((i + 1) = 0 → (hFa h (i * 5)) = 0) ∧ (0 < (i + 1) → (hFa h (i * 5)) = hFa h (((i + 1) - 1) * 5)) from ⟨⟨by omega, (by first | (rw [hct]; exact jC_1 h4) | (rw [hct]; exact jC_0 h4)), (by rw [hsm]; rfl)⟩, (by first | exact jF_keep h4 hf6 | exact jF_old (by omega) c_830 hf6 | exact jF_new h4 (by omega) c_830 hf6), (fun h9 => absurd h9 (Nat.succ_ne_zero i)), (fun _ => by rw [Nat.add_sub_cancel])⟩) (by show hK h - (i + 1) < hK h - i; omega)
                        · exact absurd h4 c_797
                      · exact absurd c_789 (by omega)
                    · exact absurd c_770 (by omega)
                  · exact absurd c_744 (by omega)
