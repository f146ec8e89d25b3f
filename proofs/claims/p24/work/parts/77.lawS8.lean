/-! ===== the law's body, S8 ===== -/
set_option maxHeartbeats 4000000 in
set_option maxRecDepth 100000 in
theorem law_S8 {p : Program} {l : Launch} {e : Env} {s9 : State} {m9 : MethodId} {args9 : Array Value} {below9 : List Frame} {meth9 : Method} {c9 : Code} {D : va_G} {cI cJ cR : ClassId} {A : Nat → Prop} {Q : State → Prop} {ad : Nat → Nat} {b L : Nat} {xs : Nat → Int32} (X : ek_X p s9 m9 args9 meth9 c9 RL cL_law 29 (some .boolean) wsL_law nestW D (tyW cI cJ cR) A A True) (hl : l.stackTraces = false) (hZ : ek_Zt A s9) (hS9 : ek_S9 A b L xs s9) {C P t : Nat} {cv : CavT} {g : SndT} {q : QueT} {u : CaveT} {h k : EchT} (hA : cAll u) (hC : cC u = C) (hP : cP u = P) (hC2 : 2 ≤ C) (hI : sOk g q) (hH : hOk h) (hKk : hOk k) (he1 : 1 ≤ vEar cv) (he : vEar cv ≤ 50) (ht : t < 24) {w bt z : Nat} (hwb : wbOk w bt) (hz60 : z ≤ 60) {lst T5 n : Nat} {dg : Nat → Nat} {ff : Nat → Int32} {qd qf : Nat} (hl9 : lst ≤ 99) (hE : jE lst bt T5 w n (vEar cv) h) (hn1 : 1 ≤ n) (hn6 : n ≤ 6) {al : Nat} (hal1 : al ≤ 1) (hal2 : (∀ p, p < n → ¬ hFi h p < 0) → al = 1) (hcz : hCt h = z) (hv : vSaid cv = t + 1) (hw : vWord cv = w)
    (kk : ek_G p l e room_1 s9 m9 args9 below9 meth9 c9 29 D A A (1100 + 5000 * t + 4400) (9000 + 40000 * t + 29000) Q ((wV ad cI cJ cR cv g q u h k) ++ [(qd, .inl (cI, 6, .inl (fun j => nI (dg j)))), (qf, .inl (cI, 6, .inl ff))]) 1009 [(0, .ref b), (1, .ref (ad 46)), (2, .int (nI C)), (3, .int (nI P)), (4, .int (nI (t + 1))), (5, .int (nI t))] []) : ek_G p l e room_1 s9 m9 args9 below9 meth9 c9 29 D A A (1100 + 5000 * t + 4200) (9000 + 40000 * t + 27000) Q ((wV ad cI cJ cR cv g q u h k) ++ [(qd, .inl (cI, 6, .inl (fun j => nI (dg j)))), (qf, .inl (cI, 6, .inl ff))]) 899 [(0, .ref b), (1, .ref (ad 46)), (2, .int (nI C)), (3, .int (nI P)), (4, .int (nI (t + 1))), (5, .int (nI t)), (8, .int (nI w)), (12, .int (nI z)), (18, .int (nI n)), (21, .int (nI (hK h))), (22, .int (nI (jC h (hK h)))), (24, .int (nI (hSum h (hK h)))), (25, .ref qf), (26, .int (nI al))] [] := by
  have hC12 : C ≤ 12 := by have := hA.1.1.2; omega
  have hP18 : P ≤ 18 := by have := hA.1.2.1; omega
  have hb1 := hwb.2.1
  have hb2 := hwb.2.2
  have hw9 := hwb.1.1.2
  have hk60 := hH.2.2.1
  have hs81 := hSum_le (h := h) (fun k9 hk9 => (hE.2.1 k9 hk9).1.2.2.1)
  have hct : hCt h = jC h (hK h) := hE.2.2.2.1.1
  have hct60 := jC_le h (hK h)
  have hsm60 := hs81 (hK h) (Nat.le_refl _)
  refine ek_il X 9 rfl dL_law_899 ?_
  refine ek_bp (v := nI 60) X (by decide) dL_law_901 ?_
  refine ek_Ngt X (by omega) (by omega) 982 (by decide) dL_law_903 (fun c_903 => ?_) (fun c_903 => ?_)
  · exact absurd c_903 (by omega)
  · skip
    refine ek_il X 10 rfl dL_law_906 ?_
    refine ek_aln X 1 rfl dL_law_908 ?_
    refine ek_bp (v := nI 9) X (by decide) dL_law_909 ?_
    refine lx_call2 (As := [.int (nI 9)]) (rest := [.int (nI (jC h (hK h)))]) (kc := 1) (ks := 6) X hZ (c_X4_count l hl D cI cJ cR ad cv g q u h k hA.1 9 (by omega)) (fun E => by rw [show xLe 9 9 = 0 from by unfold xLe; rw [if_pos (by omega)]]; rintro ⟨h1, -⟩ <;> exact absurd h1 (by decide)) ⟨rfl, rfl⟩ gL_law_X4_count rfl hdV_X4_count ⟨Nat.le_of_ble_eq_true rfl, Nat.le_of_ble_eq_true rfl⟩ ⟨(show (1100 + 5000 * t + 4200) + 1 ≤ 600104 by omega), (show (9000 + 40000 * t + 27000) + 6 ≤ 7301313 by omega)⟩ (Nat.le_of_ble_eq_true rfl) dL_law_911 (fun v_911 hv_911 => ?_)
    obtain ⟨-, rfl⟩ := hv_911
    refine ek_top (v' := nI (hCt h)) rfl ?_
    refine ek_Nne X (by omega) (by omega) 982 (by decide) dL_law_914 (fun c_914 => ?_) (fun c_914 => ?_)
    · exact absurd hct.symm c_914
    · skip
      refine ek_il X 10 rfl dL_law_917 ?_
      refine ek_il X 7 rfl dL_law_919 ?_
      refine ek_Nne X (by omega) (by omega) 982 (by decide) dL_law_921 (fun c_921 => ?_) (fun c_921 => ?_)
      · exact absurd (hct.symm.trans hcz) c_921
      · skip
        refine ek_aln X 1 rfl dL_law_924 ?_
        refine lx_int2 (rest := []) X (c_X4_inOrder l D cI cJ cR ad cv g q u h k hA.1 hH) gL_law_X4_inOrder rfl hdV_X4_inOrder ⟨Nat.le_of_ble_eq_true rfl, Nat.le_of_ble_eq_true rfl⟩ ⟨(show ((1100 + 5000 * t + 4200) + 1) + 0 ≤ 600104 by omega), (show ((9000 + 40000 * t + 27000) + 6) + 0 ≤ 7301313 by omega)⟩ (Nat.le_of_ble_eq_true rfl) dL_law_925 ⟨rfl, rfl⟩ (fun v_925 hv_925 => ?_)
        subst hv_925
        by_cases c_925 : hIn h
        · refine ek_top (v' := nI 1) (congrArg nI (if_pos c_925)) ?_
          refine ek_Zeq X (by omega) 936 (by decide) dL_law_928 (fun h => absurd h (by omega)) (fun _ => ?_)
          refine ek_il X 13 rfl dL_law_931 ?_
          refine ek_Zeq X (by omega) 982 (by decide) dL_law_933 (fun c_933 => ?_) (fun c_933 => ?_)
          · exact absurd (hal2 (fun p hp => hE.2.2.2.2.1 p (by rw [c_925.2, hE.1.1]; exact hp) hp)) (by omega)
          · skip
            refine ek_aln X 1 rfl dL_law_936 ?_
            refine lx_dbl2 (rest := []) X (c_X4_mean l D cI cJ cR ad cv g q u h k hA.1 hH) gL_law_X4_mean rfl hdV_X4_mean ⟨Nat.le_of_ble_eq_true rfl, Nat.le_of_ble_eq_true rfl⟩ ⟨(show ((1100 + 5000 * t + 4200) + 1) + 0 ≤ 600104 by omega), (show ((9000 + 40000 * t + 27000) + 6) + 0 ≤ 7301313 by omega)⟩ (Nat.le_of_ble_eq_true rfl) dL_law_937 ⟨rfl, rfl⟩ (fun v_937 hv_937 => ?_)
            subst hv_937
            refine ek_il X 9 rfl dL_law_940 ?_
            refine ek_Zne X (by omega) 949 (by decide) dL_law_942 (fun c_942 => ?_) (fun c_942 => ?_)
            · skip
              refine ek_il X 11 rfl dL_law_949 ?_
              refine ek_i2d X dL_law_951 ?_
              refine ek_il X 9 rfl dL_law_952 ?_
              refine ek_i2d X dL_law_954 ?_
              refine ek_ddiv X (mean_num _ _ (nI_n0 (by omega) (by omega))) dL_law_955 ?_
              refine ek_dcmp X dL_law_956 ?_
              refine ek_top (v' := nI 0) (hMean_self h hk60 _ (by unfold hMean; first | (rw [if_pos (by omega)]) | (rw [if_neg (by omega)]))) ?_
              refine ek_Zne X (by omega) 982 (by decide) dL_law_957 (fun h => absurd h (by omega)) (fun _ => ?_)
              refine ek_aln X 1 rfl dL_law_960 ?_
              refine ek_bp (v := nI 6) X (by decide) dL_law_961 ?_
              refine lx_call2 (As := [.int (nI 6)]) (rest := []) (kc := 1) (ks := 6) X hZ (c_X4_count l hl D cI cJ cR ad cv g q u h k hA.1 6 (by omega)) (fun E => by rw [show xLe 6 9 = 0 from by unfold xLe; rw [if_pos (by omega)]]; rintro ⟨h1, -⟩ <;> exact absurd h1 (by decide)) ⟨rfl, rfl⟩ gL_law_X4_count rfl hdV_X4_count ⟨Nat.le_of_ble_eq_true rfl, Nat.le_of_ble_eq_true rfl⟩ ⟨(show ((1100 + 5000 * t + 4200) + 1) + 1 ≤ 600104 by omega), (show ((9000 + 40000 * t + 27000) + 6) + 6 ≤ 7301313 by omega)⟩ (Nat.le_of_ble_eq_true rfl) dL_law_963 (fun v_963 hv_963 => ?_)
              obtain ⟨-, rfl⟩ := hv_963
              refine ek_top (v' := nI (vSaid cv)) rfl ?_
              refine ek_il X 4 rfl dL_law_966 ?_
              refine ek_Nne X (by omega) (by omega) 982 (by decide) dL_law_968 (fun c_968 => ?_) (fun c_968 => ?_)
              · exact absurd hv c_968
              · skip
                refine ek_aln X 1 rfl dL_law_971 ?_
                refine ek_bp (v := nI 7) X (by decide) dL_law_972 ?_
                refine lx_call2 (As := [.int (nI 7)]) (rest := []) (kc := 1) (ks := 6) X hZ (c_X4_count l hl D cI cJ cR ad cv g q u h k hA.1 7 (by omega)) (fun E => by rw [show xLe 7 9 = 0 from by unfold xLe; rw [if_pos (by omega)]]; rintro ⟨h1, -⟩ <;> exact absurd h1 (by decide)) ⟨rfl, rfl⟩ gL_law_X4_count rfl hdV_X4_count ⟨Nat.le_of_ble_eq_true rfl, Nat.le_of_ble_eq_true rfl⟩ ⟨(show (((1100 + 5000 * t + 4200) + 1) + 1) + 1 ≤ 600104 by omega), (show (((9000 + 40000 * t + 27000) + 6) + 6) + 6 ≤ 7301313 by omega)⟩ (Nat.le_of_ble_eq_true rfl) dL_law_974 (fun v_974 hv_974 => ?_)
                obtain ⟨-, rfl⟩ := hv_974
                refine ek_top (v' := nI (vWord cv)) rfl ?_
                refine ek_il X 6 rfl dL_law_977 ?_
                refine ek_Neq X (by omega) (by omega) 984 (by decide) dL_law_979 (fun c_979 => ?_) (fun c_979 => ?_)
                · skip
                  refine ek_il X 8 rfl dL_law_984 ?_
                  refine ek_ic (v := nI 1) X (by decide) dL_law_986 ?_
                  refine ek_Nne X (by omega) (by omega) 1009 (by decide) dL_law_987 (fun c_987 => ?_) (fun c_987 => ?_)
                  · skip
                    refine ek_widen (k' := (1100 + 5000 * t + 4400)) (n' := (9000 + 40000 * t + 29000)) (show ((((1100 + 5000 * t + 4200) + 1) + 1) + 1) ≤ (1100 + 5000 * t + 4400) by omega) (show ((((9000 + 40000 * t + 27000) + 6) + 6) + 6) ≤ (9000 + 40000 * t + 29000) by omega) ?_
                    refine ek_re [0, 1, 2, 3, 4, 5] rfl ?_
                    exact kk
                  · skip
                    have hio : hIn h ↔ 0 < jC h (hK h) := by rw [← hct]; exact j_one hE c_987
                    refine ek_aln X 1 rfl dL_law_990 ?_
                    refine lx_int2 (rest := []) X (c_X4_inOrder l D cI cJ cR ad cv g q u h k hA.1 hH) gL_law_X4_inOrder rfl hdV_X4_inOrder ⟨Nat.le_of_ble_eq_true rfl, Nat.le_of_ble_eq_true rfl⟩ ⟨(show ((((1100 + 5000 * t + 4200) + 1) + 1) + 1) + 0 ≤ 600104 by omega), (show ((((9000 + 40000 * t + 27000) + 6) + 6) + 6) + 0 ≤ 7301313 by omega)⟩ (Nat.le_of_ble_eq_true rfl) dL_law_991 ⟨rfl, rfl⟩ (fun v_991 hv_991 => ?_)
                    subst hv_991
                    by_cases c_991 : hIn h
                    · refine ek_top (v' := nI 1) (congrArg nI (if_pos c_991)) ?_
                      refine ek_il X 10 rfl dL_law_994 ?_
                      refine ek_Zle X (by omega) 1003 (by decide) dL_law_996 (fun c_996 => ?_) (fun c_996 => ?_)
                      · skip
                        refine ek_ic (v := nI 0) X (by decide) dL_law_1003 ?_
                        refine ek_Neq X (by omega) (by omega) 1009 (by decide) dL_law_1004 (fun h => absurd h (by omega)) (fun _ => ?_)
                        exfalso
                        first | exact absurd (hio.mp c_991) (by omega) | exact absurd (hio.mpr (by omega)) c_991
                      · skip
                        refine ek_ic (v := nI 1) X (by decide) dL_law_999 ?_
                        refine ek_goto X 1004 (by decide) dL_law_1000 ?_
                        refine ek_Neq X (by omega) (by omega) 1009 (by decide) dL_law_1004 (fun _ => ?_) (fun h => absurd h (by omega))
                        refine ek_widen (k' := (1100 + 5000 * t + 4400)) (n' := (9000 + 40000 * t + 29000)) (show ((((1100 + 5000 * t + 4200) + 1) + 1) + 1) ≤ (1100 + 5000 * t + 4400) by omega) (show ((((9000 + 40000 * t + 27000) + 6) + 6) + 6) ≤ (9000 + 40000 * t + 29000) by omega) ?_
                        refine ek_re [0, 1, 2, 3, 4, 5] rfl ?_
                        exact kk
                    · refine ek_top (v' := nI 0) (congrArg nI (if_neg c_991)) ?_
                      refine ek_il X 10 rfl dL_law_994 ?_
                      refine ek_Zle X (by omega) 1003 (by decide) dL_law_996 (fun c_996 => ?_) (fun c_996 => ?_)
                      · skip
                        refine ek_ic (v := nI 0) X (by decide) dL_law_1003 ?_
                        refine ek_Neq X (by omega) (by omega) 1009 (by decide) dL_law_1004 (fun _ => ?_) (fun h => absurd h (by omega))
                        refine ek_widen (k' := (1100 + 5000 * t + 4400)) (n' := (9000 + 40000 * t + 29000)) (show ((((1100 + 5000 * t + 4200) + 1) + 1) + 1) ≤ (1100 + 5000 * t + 4400) by omega) (show ((((9000 + 40000 * t + 27000) + 6) + 6) + 6) ≤ (9000 + 40000 * t + 29000) by omega) ?_
                        refine ek_re [0, 1, 2, 3, 4, 5] rfl ?_
                        exact kk
                      · skip
                        refine ek_ic (v := nI 1) X (by decide) dL_law_999 ?_
                        refine ek_goto X 1004 (by decide) dL_law_1000 ?_
                        refine ek_Neq X (by omega) (by omega) 1009 (by decide) dL_law_1004 (fun h => absurd h (by omega)) (fun _ => ?_)
                        exfalso
                        first | exact absurd (hio.mp c_991) (by omega) | exact absurd (hio.mpr (by omega)) c_991
                · exact absurd hw c_979
            · skip
              refine ek_dc0 X dL_law_945 ?_
              refine ek_goto X 956 (by decide) dL_law_946 ?_
              refine ek_dcmp X dL_law_956 ?_
              refine ek_top (v' := nI 0) (hMean_self h hk60 _ (by unfold hMean; first | (rw [if_pos (by omega)]) | (rw [if_neg (by omega)]))) ?_
              refine ek_Zne X (by omega) 982 (by decide) dL_law_957 (fun h => absurd h (by omega)) (fun _ => ?_)
              refine ek_aln X 1 rfl dL_law_960 ?_
              refine ek_bp (v := nI 6) X (by decide) dL_law_961 ?_
              refine lx_call2 (As := [.int (nI 6)]) (rest := []) (kc := 1) (ks := 6) X hZ (c_X4_count l hl D cI cJ cR ad cv g q u h k hA.1 6 (by omega)) (fun E => by rw [show xLe 6 9 = 0 from by unfold xLe; rw [if_pos (by omega)]]; rintro ⟨h1, -⟩ <;> exact absurd h1 (by decide)) ⟨rfl, rfl⟩ gL_law_X4_count rfl hdV_X4_count ⟨Nat.le_of_ble_eq_true rfl, Nat.le_of_ble_eq_true rfl⟩ ⟨(show ((1100 + 5000 * t + 4200) + 1) + 1 ≤ 600104 by omega), (show ((9000 + 40000 * t + 27000) + 6) + 6 ≤ 7301313 by omega)⟩ (Nat.le_of_ble_eq_true rfl) dL_law_963 (fun v_963 hv_963 => ?_)
              obtain ⟨-, rfl⟩ := hv_963
              refine ek_top (v' := nI (vSaid cv)) rfl ?_
              refine ek_il X 4 rfl dL_law_966 ?_
              refine ek_Nne X (by omega) (by omega) 982 (by decide) dL_law_968 (fun c_968 => ?_) (fun c_968 => ?_)
              · exact absurd hv c_968
              · skip
                refine ek_aln X 1 rfl dL_law_971 ?_
                refine ek_bp (v := nI 7) X (by decide) dL_law_972 ?_
                refine lx_call2 (As := [.int (nI 7)]) (rest := []) (kc := 1) (ks := 6) X hZ (c_X4_count l hl D cI cJ cR ad cv g q u h k hA.1 7 (by omega)) (fun E => by rw [show xLe 7 9 = 0 from by unfold xLe; rw [if_pos (by omega)]]; rintro ⟨h1, -⟩ <;> exact absurd h1 (by decide)) ⟨rfl, rfl⟩ gL_law_X4_count rfl hdV_X4_count ⟨Nat.le_of_ble_eq_true rfl, Nat.le_of_ble_eq_true rfl⟩ ⟨(show (((1100 + 5000 * t + 4200) + 1) + 1) + 1 ≤ 600104 by omega), (show (((9000 + 40000 * t + 27000) + 6) + 6) + 6 ≤ 7301313 by omega)⟩ (Nat.le_of_ble_eq_true rfl) dL_law_974 (fun v_974 hv_974 => ?_)
                obtain ⟨-, rfl⟩ := hv_974
                refine ek_top (v' := nI (vWord cv)) rfl ?_
                refine ek_il X 6 rfl dL_law_977 ?_
                refine ek_Neq X (by omega) (by omega) 984 (by decide) dL_law_979 (fun c_979 => ?_) (fun c_979 => ?_)
                · skip
                  refine ek_il X 8 rfl dL_law_984 ?_
                  refine ek_ic (v := nI 1) X (by decide) dL_law_986 ?_
                  refine ek_Nne X (by omega) (by omega) 1009 (by decide) dL_law_987 (fun c_987 => ?_) (fun c_987 => ?_)
                  · skip
                    refine ek_widen (k' := (1100 + 5000 * t + 4400)) (n' := (9000 + 40000 * t + 29000)) (show ((((1100 + 5000 * t + 4200) + 1) + 1) + 1) ≤ (1100 + 5000 * t + 4400) by omega) (show ((((9000 + 40000 * t + 27000) + 6) + 6) + 6) ≤ (9000 + 40000 * t + 29000) by omega) ?_
                    refine ek_re [0, 1, 2, 3, 4, 5] rfl ?_
                    exact kk
                  · skip
                    have hio : hIn h ↔ 0 < jC h (hK h) := by rw [← hct]; exact j_one hE c_987
                    refine ek_aln X 1 rfl dL_law_990 ?_
                    refine lx_int2 (rest := []) X (c_X4_inOrder l D cI cJ cR ad cv g q u h k hA.1 hH) gL_law_X4_inOrder rfl hdV_X4_inOrder ⟨Nat.le_of_ble_eq_true rfl, Nat.le_of_ble_eq_true rfl⟩ ⟨(show ((((1100 + 5000 * t + 4200) + 1) + 1) + 1) + 0 ≤ 600104 by omega), (show ((((9000 + 40000 * t + 27000) + 6) + 6) + 6) + 0 ≤ 7301313 by omega)⟩ (Nat.le_of_ble_eq_true rfl) dL_law_991 ⟨rfl, rfl⟩ (fun v_991 hv_991 => ?_)
                    subst hv_991
                    by_cases c_991 : hIn h
                    · refine ek_top (v' := nI 1) (congrArg nI (if_pos c_991)) ?_
                      refine ek_il X 10 rfl dL_law_994 ?_
                      refine ek_Zle X (by omega) 1003 (by decide) dL_law_996 (fun c_996 => ?_) (fun c_996 => ?_)
                      · skip
                        refine ek_ic (v := nI 0) X (by decide) dL_law_1003 ?_
                        refine ek_Neq X (by omega) (by omega) 1009 (by decide) dL_law_1004 (fun h => absurd h (by omega)) (fun _ => ?_)
                        exfalso
                        first | exact absurd (hio.mp c_991) (by omega) | exact absurd (hio.mpr (by omega)) c_991
                      · skip
                        refine ek_ic (v := nI 1) X (by decide) dL_law_999 ?_
                        refine ek_goto X 1004 (by decide) dL_law_1000 ?_
                        refine ek_Neq X (by omega) (by omega) 1009 (by decide) dL_law_1004 (fun _ => ?_) (fun h => absurd h (by omega))
                        refine ek_widen (k' := (1100 + 5000 * t + 4400)) (n' := (9000 + 40000 * t + 29000)) (show ((((1100 + 5000 * t + 4200) + 1) + 1) + 1) ≤ (1100 + 5000 * t + 4400) by omega) (show ((((9000 + 40000 * t + 27000) + 6) + 6) + 6) ≤ (9000 + 40000 * t + 29000) by omega) ?_
                        refine ek_re [0, 1, 2, 3, 4, 5] rfl ?_
                        exact kk
                    · refine ek_top (v' := nI 0) (congrArg nI (if_neg c_991)) ?_
                      refine ek_il X 10 rfl dL_law_994 ?_
                      refine ek_Zle X (by omega) 1003 (by decide) dL_law_996 (fun c_996 => ?_) (fun c_996 => ?_)
                      · skip
                        refine ek_ic (v := nI 0) X (by decide) dL_law_1003 ?_
                        refine ek_Neq X (by omega) (by omega) 1009 (by decide) dL_law_1004 (fun _ => ?_) (fun h => absurd h (by omega))
                        refine ek_widen (k' := (1100 + 5000 * t + 4400)) (n' := (9000 + 40000 * t + 29000)) (show ((((1100 + 5000 * t + 4200) + 1) + 1) + 1) ≤ (1100 + 5000 * t + 4400) by omega) (show ((((9000 + 40000 * t + 27000) + 6) + 6) + 6) ≤ (9000 + 40000 * t + 29000) by omega) ?_
                        refine ek_re [0, 1, 2, 3, 4, 5] rfl ?_
                        exact kk
                      · skip
                        refine ek_ic (v := nI 1) X (by decide) dL_law_999 ?_
                        refine ek_goto X 1004 (by decide) dL_law_1000 ?_
                        refine ek_Neq X (by omega) (by omega) 1009 (by decide) dL_law_1004 (fun h => absurd h (by omega)) (fun _ => ?_)
                        exfalso
                        first | exact absurd (hio.mp c_991) (by omega) | exact absurd (hio.mpr (by omega)) c_991
                · exact absurd hw c_979
        · refine ek_top (v' := nI 0) (congrArg nI (if_neg c_925)) ?_
          refine ek_Zeq X (by omega) 936 (by decide) dL_law_928 (fun _ => ?_) (fun h => absurd h (by omega))
          refine ek_aln X 1 rfl dL_law_936 ?_
          refine lx_dbl2 (rest := []) X (c_X4_mean l D cI cJ cR ad cv g q u h k hA.1 hH) gL_law_X4_mean rfl hdV_X4_mean ⟨Nat.le_of_ble_eq_true rfl, Nat.le_of_ble_eq_true rfl⟩ ⟨(show ((1100 + 5000 * t + 4200) + 1) + 0 ≤ 600104 by omega), (show ((9000 + 40000 * t + 27000) + 6) + 0 ≤ 7301313 by omega)⟩ (Nat.le_of_ble_eq_true rfl) dL_law_937 ⟨rfl, rfl⟩ (fun v_937 hv_937 => ?_)
          subst hv_937
          refine ek_il X 9 rfl dL_law_940 ?_
          refine ek_Zne X (by omega) 949 (by decide) dL_law_942 (fun c_942 => ?_) (fun c_942 => ?_)
          · skip
            refine ek_il X 11 rfl dL_law_949 ?_
            refine ek_i2d X dL_law_951 ?_
            refine ek_il X 9 rfl dL_law_952 ?_
            refine ek_i2d X dL_law_954 ?_
            refine ek_ddiv X (mean_num _ _ (nI_n0 (by omega) (by omega))) dL_law_955 ?_
            refine ek_dcmp X dL_law_956 ?_
            refine ek_top (v' := nI 0) (hMean_self h hk60 _ (by unfold hMean; first | (rw [if_pos (by omega)]) | (rw [if_neg (by omega)]))) ?_
            refine ek_Zne X (by omega) 982 (by decide) dL_law_957 (fun h => absurd h (by omega)) (fun _ => ?_)
            refine ek_aln X 1 rfl dL_law_960 ?_
            refine ek_bp (v := nI 6) X (by decide) dL_law_961 ?_
            refine lx_call2 (As := [.int (nI 6)]) (rest := []) (kc := 1) (ks := 6) X hZ (c_X4_count l hl D cI cJ cR ad cv g q u h k hA.1 6 (by omega)) (fun E => by rw [show xLe 6 9 = 0 from by unfold xLe; rw [if_pos (by omega)]]; rintro ⟨h1, -⟩ <;> exact absurd h1 (by decide)) ⟨rfl, rfl⟩ gL_law_X4_count rfl hdV_X4_count ⟨Nat.le_of_ble_eq_true rfl, Nat.le_of_ble_eq_true rfl⟩ ⟨(show ((1100 + 5000 * t + 4200) + 1) + 1 ≤ 600104 by omega), (show ((9000 + 40000 * t + 27000) + 6) + 6 ≤ 7301313 by omega)⟩ (Nat.le_of_ble_eq_true rfl) dL_law_963 (fun v_963 hv_963 => ?_)
            obtain ⟨-, rfl⟩ := hv_963
            refine ek_top (v' := nI (vSaid cv)) rfl ?_
            refine ek_il X 4 rfl dL_law_966 ?_
            refine ek_Nne X (by omega) (by omega) 982 (by decide) dL_law_968 (fun c_968 => ?_) (fun c_968 => ?_)
            · exact absurd hv c_968
            · skip
              refine ek_aln X 1 rfl dL_law_971 ?_
              refine ek_bp (v := nI 7) X (by decide) dL_law_972 ?_
              refine lx_call2 (As := [.int (nI 7)]) (rest := []) (kc := 1) (ks := 6) X hZ (c_X4_count l hl D cI cJ cR ad cv g q u h k hA.1 7 (by omega)) (fun E => by rw [show xLe 7 9 = 0 from by unfold xLe; rw [if_pos (by omega)]]; rintro ⟨h1, -⟩ <;> exact absurd h1 (by decide)) ⟨rfl, rfl⟩ gL_law_X4_count rfl hdV_X4_count ⟨Nat.le_of_ble_eq_true rfl, Nat.le_of_ble_eq_true rfl⟩ ⟨(show (((1100 + 5000 * t + 4200) + 1) + 1) + 1 ≤ 600104 by omega), (show (((9000 + 40000 * t + 27000) + 6) + 6) + 6 ≤ 7301313 by omega)⟩ (Nat.le_of_ble_eq_true rfl) dL_law_974 (fun v_974 hv_974 => ?_)
              obtain ⟨-, rfl⟩ := hv_974
              refine ek_top (v' := nI (vWord cv)) rfl ?_
              refine ek_il X 6 rfl dL_law_977 ?_
              refine ek_Neq X (by omega) (by omega) 984 (by decide) dL_law_979 (fun c_979 => ?_) (fun c_979 => ?_)
              · skip
                refine ek_il X 8 rfl dL_law_984 ?_
                refine ek_ic (v := nI 1) X (by decide) dL_law_986 ?_
                refine ek_Nne X (by omega) (by omega) 1009 (by decide) dL_law_987 (fun c_987 => ?_) (fun c_987 => ?_)
                · skip
                  refine ek_widen (k' := (1100 + 5000 * t + 4400)) (n' := (9000 + 40000 * t + 29000)) (show ((((1100 + 5000 * t + 4200) + 1) + 1) + 1) ≤ (1100 + 5000 * t + 4400) by omega) (show ((((9000 + 40000 * t + 27000) + 6) + 6) + 6) ≤ (9000 + 40000 * t + 29000) by omega) ?_
                  refine ek_re [0, 1, 2, 3, 4, 5] rfl ?_
                  exact kk
                · skip
                  have hio : hIn h ↔ 0 < jC h (hK h) := by rw [← hct]; exact j_one hE c_987
                  refine ek_aln X 1 rfl dL_law_990 ?_
                  refine lx_int2 (rest := []) X (c_X4_inOrder l D cI cJ cR ad cv g q u h k hA.1 hH) gL_law_X4_inOrder rfl hdV_X4_inOrder ⟨Nat.le_of_ble_eq_true rfl, Nat.le_of_ble_eq_true rfl⟩ ⟨(show ((((1100 + 5000 * t + 4200) + 1) + 1) + 1) + 0 ≤ 600104 by omega), (show ((((9000 + 40000 * t + 27000) + 6) + 6) + 6) + 0 ≤ 7301313 by omega)⟩ (Nat.le_of_ble_eq_true rfl) dL_law_991 ⟨rfl, rfl⟩ (fun v_991 hv_991 => ?_)
                  subst hv_991
                  by_cases c_991 : hIn h
                  · refine ek_top (v' := nI 1) (congrArg nI (if_pos c_991)) ?_
                    refine ek_il X 10 rfl dL_law_994 ?_
                    refine ek_Zle X (by omega) 1003 (by decide) dL_law_996 (fun c_996 => ?_) (fun c_996 => ?_)
                    · skip
                      refine ek_ic (v := nI 0) X (by decide) dL_law_1003 ?_
                      refine ek_Neq X (by omega) (by omega) 1009 (by decide) dL_law_1004 (fun h => absurd h (by omega)) (fun _ => ?_)
                      exfalso
                      first | exact absurd (hio.mp c_991) (by omega) | exact absurd (hio.mpr (by omega)) c_991
                    · skip
                      refine ek_ic (v := nI 1) X (by decide) dL_law_999 ?_
                      refine ek_goto X 1004 (by decide) dL_law_1000 ?_
                      refine ek_Neq X (by omega) (by omega) 1009 (by decide) dL_law_1004 (fun _ => ?_) (fun h => absurd h (by omega))
                      refine ek_widen (k' := (1100 + 5000 * t + 4400)) (n' := (9000 + 40000 * t + 29000)) (show ((((1100 + 5000 * t + 4200) + 1) + 1) + 1) ≤ (1100 + 5000 * t + 4400) by omega) (show ((((9000 + 40000 * t + 27000) + 6) + 6) + 6) ≤ (9000 + 40000 * t + 29000) by omega) ?_
                      refine ek_re [0, 1, 2, 3, 4, 5] rfl ?_
                      exact kk
                  · refine ek_top (v' := nI 0) (congrArg nI (if_neg c_991)) ?_
                    refine ek_il X 10 rfl dL_law_994 ?_
                    refine ek_Zle X (by omega) 1003 (by decide) dL_law_996 (fun c_996 => ?_) (fun c_996 => ?_)
                    · skip
                      refine ek_ic (v := nI 0) X (by decide) dL_law_1003 ?_
                      refine ek_Neq X (by omega) (by omega) 1009 (by decide) dL_law_1004 (fun _ => ?_) (fun h => absurd h (by omega))
                      refine ek_widen (k' := (1100 + 5000 * t + 4400)) (n' := (9000 + 40000 * t + 29000)) (show ((((1100 + 5000 * t + 4200) + 1) + 1) + 1) ≤ (1100 + 5000 * t + 4400) by omega) (show ((((9000 + 40000 * t + 27000) + 6) + 6) + 6) ≤ (9000 + 40000 * t + 29000) by omega) ?_
                      refine ek_re [0, 1, 2, 3, 4, 5] rfl ?_
                      exact kk
                    · skip
                      refine ek_ic (v := nI 1) X (by decide) dL_law_999 ?_
                      refine ek_goto X 1004 (by decide) dL_law_1000 ?_
                      refine ek_Neq X (by omega) (by omega) 1009 (by decide) dL_law_1004 (fun h => absurd h (by omega)) (fun _ => ?_)
                      exfalso
                      first | exact absurd (hio.mp c_991) (by omega) | exact absurd (hio.mpr (by omega)) c_991
              · exact absurd hw c_979
          · skip
            refine ek_dc0 X dL_law_945 ?_
            refine ek_goto X 956 (by decide) dL_law_946 ?_
            refine ek_dcmp X dL_law_956 ?_
            refine ek_top (v' := nI 0) (hMean_self h hk60 _ (by unfold hMean; first | (rw [if_pos (by omega)]) | (rw [if_neg (by omega)]))) ?_
            refine ek_Zne X (by omega) 982 (by decide) dL_law_957 (fun h => absurd h (by omega)) (fun _ => ?_)
            refine ek_aln X 1 rfl dL_law_960 ?_
            refine ek_bp (v := nI 6) X (by decide) dL_law_961 ?_
            refine lx_call2 (As := [.int (nI 6)]) (rest := []) (kc := 1) (ks := 6) X hZ (c_X4_count l hl D cI cJ cR ad cv g q u h k hA.1 6 (by omega)) (fun E => by rw [show xLe 6 9 = 0 from by unfold xLe; rw [if_pos (by omega)]]; rintro ⟨h1, -⟩ <;> exact absurd h1 (by decide)) ⟨rfl, rfl⟩ gL_law_X4_count rfl hdV_X4_count ⟨Nat.le_of_ble_eq_true rfl, Nat.le_of_ble_eq_true rfl⟩ ⟨(show ((1100 + 5000 * t + 4200) + 1) + 1 ≤ 600104 by omega), (show ((9000 + 40000 * t + 27000) + 6) + 6 ≤ 7301313 by omega)⟩ (Nat.le_of_ble_eq_true rfl) dL_law_963 (fun v_963 hv_963 => ?_)
            obtain ⟨-, rfl⟩ := hv_963
            refine ek_top (v' := nI (vSaid cv)) rfl ?_
            refine ek_il X 4 rfl dL_law_966 ?_
            refine ek_Nne X (by omega) (by omega) 982 (by decide) dL_law_968 (fun c_968 => ?_) (fun c_968 => ?_)
            · exact absurd hv c_968
            · skip
              refine ek_aln X 1 rfl dL_law_971 ?_
              refine ek_bp (v := nI 7) X (by decide) dL_law_972 ?_
              refine lx_call2 (As := [.int (nI 7)]) (rest := []) (kc := 1) (ks := 6) X hZ (c_X4_count l hl D cI cJ cR ad cv g q u h k hA.1 7 (by omega)) (fun E => by rw [show xLe 7 9 = 0 from by unfold xLe; rw [if_pos (by omega)]]; rintro ⟨h1, -⟩ <;> exact absurd h1 (by decide)) ⟨rfl, rfl⟩ gL_law_X4_count rfl hdV_X4_count ⟨Nat.le_of_ble_eq_true rfl, Nat.le_of_ble_eq_true rfl⟩ ⟨(show (((1100 + 5000 * t + 4200) + 1) + 1) + 1 ≤ 600104 by omega), (show (((9000 + 40000 * t + 27000) + 6) + 6) + 6 ≤ 7301313 by omega)⟩ (Nat.le_of_ble_eq_true rfl) dL_law_974 (fun v_974 hv_974 => ?_)
              obtain ⟨-, rfl⟩ := hv_974
              refine ek_top (v' := nI (vWord cv)) rfl ?_
              refine ek_il X 6 rfl dL_law_977 ?_
              refine ek_Neq X (by omega) (by omega) 984 (by decide) dL_law_979 (fun c_979 => ?_) (fun c_979 => ?_)
              · skip
                refine ek_il X 8 rfl dL_law_984 ?_
                refine ek_ic (v := nI 1) X (by decide) dL_law_986 ?_
                refine ek_Nne X (by omega) (by omega) 1009 (by decide) dL_law_987 (fun c_987 => ?_) (fun c_987 => ?_)
                · skip
                  refine ek_widen (k' := (1100 + 5000 * t + 4400)) (n' := (9000 + 40000 * t + 29000)) (show ((((1100 + 5000 * t + 4200) + 1) + 1) + 1) ≤ (1100 + 5000 * t + 4400) by omega) (show ((((9000 + 40000 * t + 27000) + 6) + 6) + 6) ≤ (9000 + 40000 * t + 29000) by omega) ?_
                  refine ek_re [0, 1, 2, 3, 4, 5] rfl ?_
                  exact kk
                · skip
                  have hio : hIn h ↔ 0 < jC h (hK h) := by rw [← hct]; exact j_one hE c_987
                  refine ek_aln X 1 rfl dL_law_990 ?_
                  refine lx_int2 (rest := []) X (c_X4_inOrder l D cI cJ cR ad cv g q u h k hA.1 hH) gL_law_X4_inOrder rfl hdV_X4_inOrder ⟨Nat.le_of_ble_eq_true rfl, Nat.le_of_ble_eq_true rfl⟩ ⟨(show ((((1100 + 5000 * t + 4200) + 1) + 1) + 1) + 0 ≤ 600104 by omega), (show ((((9000 + 40000 * t + 27000) + 6) + 6) + 6) + 0 ≤ 7301313 by omega)⟩ (Nat.le_of_ble_eq_true rfl) dL_law_991 ⟨rfl, rfl⟩ (fun v_991 hv_991 => ?_)
                  subst hv_991
                  by_cases c_991 : hIn h
                  · refine ek_top (v' := nI 1) (congrArg nI (if_pos c_991)) ?_
                    refine ek_il X 10 rfl dL_law_994 ?_
                    refine ek_Zle X (by omega) 1003 (by decide) dL_law_996 (fun c_996 => ?_) (fun c_996 => ?_)
                    · skip
                      refine ek_ic (v := nI 0) X (by decide) dL_law_1003 ?_
                      refine ek_Neq X (by omega) (by omega) 1009 (by decide) dL_law_1004 (fun h => absurd h (by omega)) (fun _ => ?_)
                      exfalso
                      first | exact absurd (hio.mp c_991) (by omega) | exact absurd (hio.mpr (by omega)) c_991
                    · skip
                      refine ek_ic (v := nI 1) X (by decide) dL_law_999 ?_
                      refine ek_goto X 1004 (by decide) dL_law_1000 ?_
                      refine ek_Neq X (by omega) (by omega) 1009 (by decide) dL_law_1004 (fun _ => ?_) (fun h => absurd h (by omega))
                      refine ek_widen (k' := (1100 + 5000 * t + 4400)) (n' := (9000 + 40000 * t + 29000)) (show ((((1100 + 5000 * t + 4200) + 1) + 1) + 1) ≤ (1100 + 5000 * t + 4400) by omega) (show ((((9000 + 40000 * t + 27000) + 6) + 6) + 6) ≤ (9000 + 40000 * t + 29000) by omega) ?_
                      refine ek_re [0, 1, 2, 3, 4, 5] rfl ?_
                      exact kk
                  · refine ek_top (v' := nI 0) (congrArg nI (if_neg c_991)) ?_
                    refine ek_il X 10 rfl dL_law_994 ?_
                    refine ek_Zle X (by omega) 1003 (by decide) dL_law_996 (fun c_996 => ?_) (fun c_996 => ?_)
                    · skip
                      refine ek_ic (v := nI 0) X (by decide) dL_law_1003 ?_
                      refine ek_Neq X (by omega) (by omega) 1009 (by decide) dL_law_1004 (fun _ => ?_) (fun h => absurd h (by omega))
                      refine ek_widen (k' := (1100 + 5000 * t + 4400)) (n' := (9000 + 40000 * t + 29000)) (show ((((1100 + 5000 * t + 4200) + 1) + 1) + 1) ≤ (1100 + 5000 * t + 4400) by omega) (show ((((9000 + 40000 * t + 27000) + 6) + 6) + 6) ≤ (9000 + 40000 * t + 29000) by omega) ?_
                      refine ek_re [0, 1, 2, 3, 4, 5] rfl ?_
                      exact kk
                    · skip
                      refine ek_ic (v := nI 1) X (by decide) dL_law_999 ?_
                      refine ek_goto X 1004 (by decide) dL_law_1000 ?_
                      refine ek_Neq X (by omega) (by omega) 1009 (by decide) dL_law_1004 (fun h => absurd h (by omega)) (fun _ => ?_)
                      exfalso
                      first | exact absurd (hio.mp c_991) (by omega) | exact absurd (hio.mpr (by omega)) c_991
              · exact absurd hw c_979
