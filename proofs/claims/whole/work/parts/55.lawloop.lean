/-! ===== the law: the calls without an argument, the switch, the loop, the beginning ===== -/
section LAW3
variable {p : Program} {l : Launch} {e : Env} {s9 : State} {m9 : MethodId} {args9 : Array Value} {below9 : List Frame} {meth9 : Method} {c9 : Code} {D : va_G} {cI cJ cR : ClassId} {A : Nat → Prop} {K N : Nat} {Q : State → Prop} {ad : Nat → Nat} {b : Nat}
set_option maxHeartbeats 4000000 in
set_option maxRecDepth 100000 in
theorem law_inOrder (X : ek_X p s9 m9 args9 meth9 c9 RL cL_law 9 (some .boolean) wsL_law nestW D (tyW cI cJ cR) A A True) (hl : l.stackTraces = false) (hZ : ek_Zt A s9) {L i n : Nat} {xs : Nat → Int32} (hS9 : va_X b L xs s9 s9.heap ∧ b < s9.heap.size ∧ ¬ A b ∧ L < 2147483648) (hi : i + 5 ≤ L) (hKN : K + 40 ≤ 601024 ∧ N + 400 ≤ 7293034) {cv : CavT} {g : SndT} {q : QueT} {u : CaveT} {h k : EchT} {m : MdlT} {s a : MsnT} {o : Nat → Int64} (H : rAll n cv g q u h k m s a) (kk : ∀ (cv : CavT) (g : SndT) (q : QueT) (u : CaveT) (h k : EchT) (m : MdlT) (s a : MsnT) (o : Nat → Int64), rAll (n + 1) cv g q u h k m s a → ek_G p l e room_1 s9 m9 args9 below9 meth9 c9 9 D A A (K + 40) (N + 400) Q (wG ad cI cJ cR cv g q u h k m s a o) 1440 [(4, .int (nI i)), (0, .ref b), (1, .ref (ad 46)), (2, .ref (ad 50)), (3, .ref (ad 90))] []) : ek_G p l e room_1 s9 m9 args9 below9 meth9 c9 9 D A A K N Q (wG ad cI cJ cR cv g q u h k m s a o) 840 [(4, .int (nI i)), (0, .ref b), (1, .ref (ad 46)), (2, .ref (ad 50)), (3, .ref (ad 90))] [] := by
  obtain ⟨q1, q2⟩ := q_inOrder H
  refine ek_aln X 2 rfl dL_law_840 ?_
  refine ek_doRi (ek_runV (As := []) (rest := []) X (c_X4_inOrder l D cI cJ cR ad cv g q u h k H.1.1 H.1.2.2.1) gL_law_X4_inOrder rfl hdV_X4_inOrder ⟨Nat.le_of_ble_eq_true rfl, Nat.le_of_ble_eq_true rfl⟩ ⟨by show K + 0 ≤ 601024; omega, by show N + 0 ≤ 7293034; omega⟩ [0, 1, 2, 3, 4, 5, 6, 7, 8, 9, 10, 11, 12, 13, 14, 15, 16, 17, 18, 19, 20, 21, 22, 23, 24, 25, 26, 27, 28, 29, 30, 31, 32, 33, 34, 35, 36, 37] g_CV g_nV 0 4 rfl rfl (Nat.le_of_ble_eq_true rfl) dL_law_841) (fun v hv => ?_)
  subst hv
  refine ek_aln X 3 rfl dL_law_844 ?_
  refine ek_doWi X (ek_runV (As := []) (rest := [.int (nI (if hIn h then 1 else 0))]) X (c_X6_inOrder l D cI cJ cR ad m s a H.2.1.1 H.2.1.2.1) gL_law_X6_inOrder rfl hdV_X6_inOrder ⟨Nat.le_of_ble_eq_true rfl, Nat.le_of_ble_eq_true rfl⟩ ⟨by show K + 0 ≤ 601024; omega, by show N + 0 ≤ 7293034; omega⟩ [39, 40, 41, 42, 43, 44, 45, 46, 47, 48, 49, 50, 51, 52, 53, 54, 55, 56, 57, 58, 59] g_CX g_nX 0 6 rfl rfl (Nat.le_of_ble_eq_true rfl) dL_law_845) [39, 40, 41, 42, 43, 44, 45, 46, 47, 48, 49, 50, 51, 52, 53, 54, 55, 56, 57, 58, 59] [0, 1, 2, 3, 4, 5, 6, 7, 8, 9, 10, 11, 12, 13, 14, 15, 16, 17, 18, 19, 20, 21, 22, 23, 24, 25, 26, 27, 28, 29, 30, 31, 32, 33, 34, 35, 36, 37, 38] g_CX g_aX g_nL g_dX (fun _ => wG ad cI cJ cR cv g q u h k (mThr 0 m) s a o) [0, 1, 2, 3, 4, 5, 6, 7, 8, 9, 10, 11, 12, 13, 14, 15, 16, 17, 18, 19, 20, 21, 22, 23, 24, 25, 26, 27, 28, 29, 30, 31, 32, 33, 34, 35, 36, 37, 38, 39, 40, 41, 42, 43, 44, 45, 46, 47, 48, 49, 50, 51, 52, 53, 54, 55, 56, 57, 58, 59] g_nX2 (fun _ => g_X2) (fun v u9 hv => ?_)
  subst hv
  exact ek_icmp_eq X 1440 (by decide) dL_law_848 (fun _ => ek_widen (k' := K + 40) (n' := N + 400) (by show K + 0 ≤ K + 40; omega) (by show N + 0 ≤ N + 400; omega) (kk _ _ _ _ _ _ _ _ _ _ q2)) (fun hne => absurd q1 hne)
set_option maxHeartbeats 4000000 in
set_option maxRecDepth 100000 in
theorem law_mean (X : ek_X p s9 m9 args9 meth9 c9 RL cL_law 9 (some .boolean) wsL_law nestW D (tyW cI cJ cR) A A True) (hl : l.stackTraces = false) (hZ : ek_Zt A s9) {L i n : Nat} {xs : Nat → Int32} (hS9 : va_X b L xs s9 s9.heap ∧ b < s9.heap.size ∧ ¬ A b ∧ L < 2147483648) (hi : i + 5 ≤ L) (hKN : K + 40 ≤ 601024 ∧ N + 400 ≤ 7293034) {cv : CavT} {g : SndT} {q : QueT} {u : CaveT} {h k : EchT} {m : MdlT} {s a : MsnT} {o : Nat → Int64} (H : rAll n cv g q u h k m s a) (kk : ∀ (cv : CavT) (g : SndT) (q : QueT) (u : CaveT) (h k : EchT) (m : MdlT) (s a : MsnT) (o : Nat → Int64), rAll (n + 1) cv g q u h k m s a → ek_G p l e room_1 s9 m9 args9 below9 meth9 c9 9 D A A (K + 40) (N + 400) Q (wG ad cI cJ cR cv g q u h k m s a o) 1440 [(4, .int (nI i)), (0, .ref b), (1, .ref (ad 46)), (2, .ref (ad 50)), (3, .ref (ad 90))] []) : ek_G p l e room_1 s9 m9 args9 below9 meth9 c9 9 D A A K N Q (wG ad cI cJ cR cv g q u h k m s a o) 1385 [(4, .int (nI i)), (0, .ref b), (1, .ref (ad 46)), (2, .ref (ad 50)), (3, .ref (ad 90))] [] := by
  obtain ⟨q1, q2⟩ := q_mean H
  refine ek_aln X 2 rfl dL_law_1385 ?_
  refine ek_doRd (ek_runV (As := []) (rest := []) X (c_X4_mean l D cI cJ cR ad cv g q u h k H.1.1 H.1.2.2.1) gL_law_X4_mean rfl hdV_X4_mean ⟨Nat.le_of_ble_eq_true rfl, Nat.le_of_ble_eq_true rfl⟩ ⟨by show K + 0 ≤ 601024; omega, by show N + 0 ≤ 7293034; omega⟩ [0, 1, 2, 3, 4, 5, 6, 7, 8, 9, 10, 11, 12, 13, 14, 15, 16, 17, 18, 19, 20, 21, 22, 23, 24, 25, 26, 27, 28, 29, 30, 31, 32, 33, 34, 35, 36, 37] g_CV g_nV 0 4 rfl rfl (Nat.le_of_ble_eq_true rfl) dL_law_1386) (fun v hv => ?_)
  subst hv
  refine ek_ds (lv' := [(5, .double (hMean h)), (4, .int (nI i)), (0, .ref b), (1, .ref (ad 46)), (2, .ref (ad 50)), (3, .ref (ad 90))]) X (by decide) rfl dL_law_1389 ?_
  refine ek_aln X 4 rfl dL_law_1391 ?_
  refine ek_doW X (ek_runV (As := []) (rest := []) X (c_X6_mean l D cI cJ cR ad m s a H.2.1.1 H.2.1.2.1) gL_law_X6_mean rfl hdV_X6_mean ⟨Nat.le_of_ble_eq_true rfl, Nat.le_of_ble_eq_true rfl⟩ ⟨by show K + 0 ≤ 601024; omega, by show N + 0 ≤ 7293034; omega⟩ [39, 40, 41, 42, 43, 44, 45, 46, 47, 48, 49, 50, 51, 52, 53, 54, 55, 56, 57, 58, 59] g_CX g_nX 0 6 rfl rfl (Nat.le_of_ble_eq_true rfl) dL_law_1392) [39, 40, 41, 42, 43, 44, 45, 46, 47, 48, 49, 50, 51, 52, 53, 54, 55, 56, 57, 58, 59] [0, 1, 2, 3, 4, 5, 6, 7, 8, 9, 10, 11, 12, 13, 14, 15, 16, 17, 18, 19, 20, 21, 22, 23, 24, 25, 26, 27, 28, 29, 30, 31, 32, 33, 34, 35, 36, 37, 38] g_CX (ek_at_map g_aX) g_nL g_dX (fun _ => wG ad cI cJ cR cv g q u h k (mThr 0 m) s a o) [0, 1, 2, 3, 4, 5, 6, 7, 8, 9, 10, 11, 12, 13, 14, 15, 16, 17, 18, 19, 20, 21, 22, 23, 24, 25, 26, 27, 28, 29, 30, 31, 32, 33, 34, 35, 36, 37, 38, 39, 40, 41, 42, 43, 44, 45, 46, 47, 48, 49, 50, 51, 52, 53, 54, 55, 56, 57, 58, 59] g_nX2 (fun _ => g_X2) (fun r9 u9 hv => ?_)
  obtain ⟨v, rfl, hv⟩ := hv
  subst hv
  refine ek_castS (st' := [.double (hMean h)]) (by rw [q1]; rfl) ?_
  refine ek_widen (k' := K + 40) (n' := N + 400) (by show K + 0 ≤ K + 40; omega) (by show N + 0 ≤ N + 400; omega) ?_
  refine ek_ds (lv' := [(7, .double (hMean h)), (5, .double (hMean h)), (4, .int (nI i)), (0, .ref b), (1, .ref (ad 46)), (2, .ref (ad 50)), (3, .ref (ad 90))]) X (by decide) rfl dL_law_1395 ?_
  have kg : ek_G p l e room_1 s9 m9 args9 below9 meth9 c9 9 D A A (K + 40) (N + 400) Q (wG ad cI cJ cR cv g q u h k (mThr 0 m) s a o) 1423 [(7, .double (hMean h)), (5, .double (hMean h)), (4, .int (nI i)), (0, .ref b), (1, .ref (ad 46)), (2, .ref (ad 50)), (3, .ref (ad 90))] [] := ek_goto X 1440 (by decide) dL_law_1423 (ek_re [2, 3, 4, 5, 6] rfl (kk _ _ _ _ _ _ _ _ _ _ q2))
  refine ek_dl X 1 rfl dL_law_1397 ?_
  refine ek_dl X 0 rfl dL_law_1399 ?_
  refine ek_dcmp X dL_law_1401 ?_
  refine ek_if_eq X 1423 (by decide) dL_law_1402 (fun _ => kg) (fun hne => ?_)
  refine ek_dl X 1 rfl dL_law_1405 ?_
  refine ek_dl X 1 rfl dL_law_1407 ?_
  refine ek_dcmp X dL_law_1409 ?_
  refine ek_if_eq X 1421 (by decide) dL_law_1410 (fun h0 => absurd h0 hne) (fun _ => ?_)
  refine ek_dl X 0 rfl dL_law_1413 ?_
  refine ek_dl X 0 rfl dL_law_1415 ?_
  refine ek_dcmp X dL_law_1417 ?_
  exact ek_if_ne X 1423 (by decide) dL_law_1418 (fun _ => kg) (fun h0 => absurd h0 hne)
set_option maxHeartbeats 4000000 in
set_option maxRecDepth 100000 in
theorem law_digest (X : ek_X p s9 m9 args9 meth9 c9 RL cL_law 9 (some .boolean) wsL_law nestW D (tyW cI cJ cR) A A True) (hl : l.stackTraces = false) (hZ : ek_Zt A s9) {L i n : Nat} {xs : Nat → Int32} (hS9 : va_X b L xs s9 s9.heap ∧ b < s9.heap.size ∧ ¬ A b ∧ L < 2147483648) (hi : i + 5 ≤ L) (hKN : K + 40 ≤ 601024 ∧ N + 400 ≤ 7293034) {cv : CavT} {g : SndT} {q : QueT} {u : CaveT} {h k : EchT} {m : MdlT} {s a : MsnT} {o : Nat → Int64} (H : rAll n cv g q u h k m s a) (kk : ∀ (cv : CavT) (g : SndT) (q : QueT) (u : CaveT) (h k : EchT) (m : MdlT) (s a : MsnT) (o : Nat → Int64), rAll (n + 1) cv g q u h k m s a → ek_G p l e room_1 s9 m9 args9 below9 meth9 c9 9 D A A (K + 40) (N + 400) Q (wG ad cI cJ cR cv g q u h k m s a o) 1440 [(4, .int (nI i)), (0, .ref b), (1, .ref (ad 46)), (2, .ref (ad 50)), (3, .ref (ad 90))] []) : ek_G p l e room_1 s9 m9 args9 below9 meth9 c9 9 D A A K N Q (wG ad cI cJ cR cv g q u h k m s a o) 1426 [(4, .int (nI i)), (0, .ref b), (1, .ref (ad 46)), (2, .ref (ad 50)), (3, .ref (ad 90))] [] := by
  obtain ⟨q1, q2⟩ := q_digest H
  refine ek_aln X 2 rfl dL_law_1426 ?_
  refine ek_doW X (ek_runV (As := []) (rest := []) X (c_X4_digest l D cI cJ cR ad cv g q u h k H.1.1 H.1.2.2.1) gL_law_X4_digest rfl hdV_X4_digest ⟨Nat.le_of_ble_eq_true rfl, Nat.le_of_ble_eq_true rfl⟩ ⟨by show K + 0 ≤ 601024; omega, by show N + 0 ≤ 7293034; omega⟩ [0, 1, 2, 3, 4, 5, 6, 7, 8, 9, 10, 11, 12, 13, 14, 15, 16, 17, 18, 19, 20, 21, 22, 23, 24, 25, 26, 27, 28, 29, 30, 31, 32, 33, 34, 35, 36, 37] g_CV g_nV 0 4 rfl rfl (Nat.le_of_ble_eq_true rfl) dL_law_1427) [0, 1, 2, 3, 4, 5, 6, 7, 8, 9, 10, 11, 12, 13, 14, 15, 16, 17, 18, 19, 20, 21, 22, 23, 24, 25, 26, 27, 28, 29, 30, 31, 32, 33, 34, 35, 36, 37] [38, 39, 40, 41, 42, 43, 44, 45, 46, 47, 48, 49, 50, 51, 52, 53, 54, 55, 56, 57, 58, 59] g_CV (ek_at_map g_aV) g_nRV g_dV (fun _ => wG ad cI cJ cR cv g q u h k m s a o) [22, 23, 24, 25, 26, 27, 28, 29, 30, 31, 32, 33, 34, 35, 36, 37, 38, 39, 40, 41, 42, 43, 44, 45, 46, 47, 48, 49, 50, 51, 52, 53, 54, 55, 56, 57, 58, 59, 0, 1, 2, 3, 4, 5, 6, 7, 8, 9, 10, 11, 12, 13, 14, 15, 16, 17, 18, 19, 20, 21] g_nV2 (fun _ => g_V2) (fun r9 u9 hv => ?_)
  obtain ⟨v, rfl, hv⟩ := hv
  subst hv
  refine ek_castS (st' := [.long (vDigest cv u h)]) rfl ?_
  refine ek_aln X 3 rfl dL_law_1430 ?_
  refine ek_doW X (ek_runV (As := []) (rest := [.long (vDigest cv u h)]) X (c_X6_digest l D cI cJ cR ad m s a H.2.1.1 H.2.1.2.1) gL_law_X6_digest rfl hdV_X6_digest ⟨Nat.le_of_ble_eq_true rfl, Nat.le_of_ble_eq_true rfl⟩ ⟨by show K + 0 + 0 ≤ 601024; omega, by show N + 0 + 0 ≤ 7293034; omega⟩ [39, 40, 41, 42, 43, 44, 45, 46, 47, 48, 49, 50, 51, 52, 53, 54, 55, 56, 57, 58, 59] g_CX g_nX 0 6 rfl rfl (Nat.le_of_ble_eq_true rfl) dL_law_1431) [39, 40, 41, 42, 43, 44, 45, 46, 47, 48, 49, 50, 51, 52, 53, 54, 55, 56, 57, 58, 59] [0, 1, 2, 3, 4, 5, 6, 7, 8, 9, 10, 11, 12, 13, 14, 15, 16, 17, 18, 19, 20, 21, 22, 23, 24, 25, 26, 27, 28, 29, 30, 31, 32, 33, 34, 35, 36, 37, 38] g_CX (ek_at_map g_aX) g_nL g_dX (fun _ => wG ad cI cJ cR cv g q u h k (mThr 0 m) s a o) [0, 1, 2, 3, 4, 5, 6, 7, 8, 9, 10, 11, 12, 13, 14, 15, 16, 17, 18, 19, 20, 21, 22, 23, 24, 25, 26, 27, 28, 29, 30, 31, 32, 33, 34, 35, 36, 37, 38, 39, 40, 41, 42, 43, 44, 45, 46, 47, 48, 49, 50, 51, 52, 53, 54, 55, 56, 57, 58, 59] g_nX2 (fun _ => g_X2) (fun r9 u9 hv => ?_)
  obtain ⟨v, rfl, hv⟩ := hv
  subst hv
  refine ek_castS (st' := [.long (vDigest cv u h), .long (vDigest cv u h)]) (by rw [q1]; rfl) ?_
  refine ek_widen (k' := K + 40) (n' := N + 400) (by show K + 0 + 0 ≤ K + 40; omega) (by show N + 0 + 0 ≤ N + 400; omega) ?_
  refine ek_lcmp X dL_law_1434 ?_
  refine ek_top (v' := 0) (lg_cmp_self _) ?_
  exact ek_if_eq X 1440 (by decide) dL_law_1435 (fun _ => kk _ _ _ _ _ _ _ _ _ _ q2) (fun h => absurd rfl h)
set_option maxHeartbeats 4000000 in
set_option maxRecDepth 100000 in
theorem law_switch (X : ek_X p s9 m9 args9 meth9 c9 RL cL_law 9 (some .boolean) wsL_law nestW D (tyW cI cJ cR) A A True) (hl : l.stackTraces = false) (hZ : ek_Zt A s9) {L i n : Nat} {xs : Nat → Int32} (hS9 : va_X b L xs s9 s9.heap ∧ b < s9.heap.size ∧ ¬ A b ∧ L < 2147483648) (hi : i + 5 ≤ L) (hKN : K + 40 ≤ 601024 ∧ N + 400 ≤ 7293034) {cv : CavT} {g : SndT} {q : QueT} {u : CaveT} {h k : EchT} {m : MdlT} {s a : MsnT} {o : Nat → Int64} (H : rAll n cv g q u h k m s a) (hn9 : n < 512) (t : Nat) (ht : t < 32) (kk : ∀ (cv : CavT) (g : SndT) (q : QueT) (u : CaveT) (h k : EchT) (m : MdlT) (s a : MsnT) (o : Nat → Int64), rAll (n + 1) cv g q u h k m s a → ek_G p l e room_1 s9 m9 args9 below9 meth9 c9 9 D A A (K + 40) (N + 400) Q (wG ad cI cJ cR cv g q u h k m s a o) 1440 [(4, .int (nI i)), (0, .ref b), (1, .ref (ad 46)), (2, .ref (ad 50)), (3, .ref (ad 90))] []) : ek_G p l e room_1 s9 m9 args9 below9 meth9 c9 9 D A A K N Q (wG ad cI cJ cR cv g q u h k m s a o) 39 [(4, .int (nI i)), (0, .ref b), (1, .ref (ad 46)), (2, .ref (ad 50)), (3, .ref (ad 90))] [.int (nI t)] := by
  by_cases c : 20 < t
  · exact ek_tsO X 1440 (by omega) (by omega) (by decide) dL_law_39 (ek_widen (k' := K + 40) (n' := N + 400) (by show K + 0 ≤ K + 40; omega) (by show N + 0 ≤ N + 400; omega) (kk _ _ _ _ _ _ _ _ _ _ (q_none H)))
  · rcases (show t = 0 ∨ t = 1 ∨ t = 2 ∨ t = 3 ∨ t = 4 ∨ t = 5 ∨ t = 6 ∨ t = 7 ∨ t = 8 ∨ t = 9 ∨ t = 10 ∨ t = 11 ∨ t = 12 ∨ t = 13 ∨ t = 14 ∨ t = 15 ∨ t = 16 ∨ t = 17 ∨ t = 18 ∨ t = 19 ∨ t = 20 by omega) with rfl | rfl | rfl | rfl | rfl | rfl | rfl | rfl | rfl | rfl | rfl | rfl | rfl | rfl | rfl | rfl | rfl | rfl | rfl | rfl | rfl
    · exact ek_tsN X 136 (by decide) (by omega) rfl (by decide) dL_law_39 (law_addChamber X hl hZ hS9 hi hKN H kk)
    · exact ek_tsN X 216 (by decide) (by omega) rfl (by decide) dL_law_39 (law_addPassage X hl hZ hS9 hi hKN H kk)
    · exact ek_tsN X 308 (by decide) (by omega) rfl (by decide) dL_law_39 (law_setWater X hl hZ hS9 hi hKN H kk)
    · exact ek_tsN X 364 (by decide) (by omega) rfl (by decide) dL_law_39 (law_setBats X hl hZ hS9 hi hKN H kk)
    · exact ek_tsN X 432 (by decide) (by omega) rfl (by decide) dL_law_39 (law_setClapper X hl hZ hS9 hi hKN H kk)
    · exact ek_tsN X 512 (by decide) (by omega) rfl (by decide) dL_law_39 (law_setEar X hl hZ hS9 hi hKN H kk)
    · exact ek_tsN X 568 (by decide) (by omega) rfl (by decide) dL_law_39 (law_chamber X hl hZ hS9 hi hKN H kk)
    · exact ek_tsN X 636 (by decide) (by omega) rfl (by decide) dL_law_39 (law_passage X hl hZ hS9 hi hKN H kk)
    · exact ek_tsN X 704 (by decide) (by omega) rfl (by decide) dL_law_39 (law_say X hl hZ hS9 hi hKN H hn9 kk)
    · exact ek_tsN X 772 (by decide) (by omega) rfl (by decide) dL_law_39 (law_heard X hl hZ hS9 hi hKN H kk)
    · exact ek_tsN X 840 (by decide) (by omega) rfl (by decide) dL_law_39 (law_inOrder X hl hZ hS9 hi hKN H kk)
    · exact ek_tsN X 853 (by decide) (by omega) rfl (by decide) dL_law_39 (law_first X hl hZ hS9 hi hKN H kk)
    · exact ek_tsN X 909 (by decide) (by omega) rfl (by decide) dL_law_39 (law_count X hl hZ hS9 hi hKN H kk)
    · exact ek_tsN X 965 (by decide) (by omega) rfl (by decide) dL_law_39 (law_would X hl hZ hS9 hi hKN H kk)
    · exact ek_tsN X 1045 (by decide) (by omega) rfl (by decide) dL_law_39 (law_advise X hl hZ hS9 hi hKN H kk)
    · exact ek_tsN X 1137 (by decide) (by omega) rfl (by decide) dL_law_39 (law_longest X hl hZ hS9 hi hKN H kk)
    · exact ek_tsN X 1205 (by decide) (by omega) rfl (by decide) dL_law_39 (law_quickest X hl hZ hS9 hi hKN H kk)
    · exact ek_tsN X 1261 (by decide) (by omega) rfl (by decide) dL_law_39 (law_way X hl hZ hS9 hi hKN H kk)
    · exact ek_tsN X 1329 (by decide) (by omega) rfl (by decide) dL_law_39 (law_highest X hl hZ hS9 hi hKN H kk)
    · exact ek_tsN X 1385 (by decide) (by omega) rfl (by decide) dL_law_39 (law_mean X hl hZ hS9 hi hKN H kk)
    · exact ek_tsN X 1426 (by decide) (by omega) rfl (by decide) dL_law_39 (law_digest X hl hZ hS9 hi hKN H kk)
abbrev LawS : Type := (Nat × CavT × SndT × QueT) × (CaveT × EchT × EchT) × (MdlT × MsnT × MsnT) × (Nat → Int64)
set_option maxHeartbeats 4000000 in
set_option maxRecDepth 100000 in
theorem law_loop (X : ek_X p s9 m9 args9 meth9 c9 RL cL_law 9 (some .boolean) wsL_law nestW D (tyW cI cJ cR) A A True) (hl : l.stackTraces = false) (hZ : ek_Zt A s9) {L : Nat} {xs : Nat → Int32} (hS9 : va_X b L xs s9 s9.heap ∧ b < s9.heap.size ∧ ¬ A b ∧ L < 2147483648) (hL : L ≤ 2560) (fin : ∀ (K N : Nat) (w : va_W) (lv : List (Nat × Value)), K ≤ 601024 → N ≤ 7293034 → ek_G p l e room_1 s9 m9 args9 below9 meth9 c9 9 D A A K N Q w 1447 lv [.int (nI 1)]) {cv : CavT} {g : SndT} {q : QueT} {u : CaveT} {h k : EchT} {m : MdlT} {s a : MsnT} {o : Nat → Int64} (H : rAll 0 cv g q u h k m s a) : ek_G p l e room_1 s9 m9 args9 below9 meth9 c9 9 D A A 200 8000 Q (wG ad cI cJ cR cv g q u h k m s a o) 23 [(4, .int (nI 0)), (0, .ref b), (1, .ref (ad 46)), (2, .ref (ad 50)), (3, .ref (ad 90))] [] := by
  refine ek_loopKn (σ := LawS) (fun z => 200 + 40 * z.1.1) (fun z => 8000 + 400 * z.1.1) (fun z => rAll z.1.1 z.1.2.1 z.1.2.2.1 z.1.2.2.2 z.2.1.1 z.2.1.2.1 z.2.1.2.2 z.2.2.1.1 z.2.2.1.2.1 z.2.2.1.2.2 ∧ 5 * z.1.1 ≤ L) (fun z => L - 5 * z.1.1) (fun z => wG ad cI cJ cR z.1.2.1 z.1.2.2.1 z.1.2.2.2 z.2.1.1 z.2.1.2.1 z.2.1.2.2 z.2.2.1.1 z.2.2.1.2.1 z.2.2.1.2.2 z.2.2.2) (fun z => [(4, .int (nI (5 * z.1.1))), (0, .ref b), (1, .ref (ad 46)), (2, .ref (ad 50)), (3, .ref (ad 90))]) ?_ ⟨⟨0, cv, g, q⟩, ⟨u, h, k⟩, ⟨m, s, a⟩, o⟩ ⟨H, Nat.zero_le _⟩ rfl [0, 1, 2, 3, 4] rfl (Nat.le_refl _) (Nat.le_refl _)
  clear H
  rintro ⟨⟨n, cv, g, q⟩, ⟨u, h, k⟩, ⟨m, s, a⟩, o⟩ ⟨H, hn⟩ IH
  dsimp only at H hn IH ⊢
  refine ek_il X 0 rfl dL_law_23 ?_
  refine ek_aln X 1 rfl dL_law_25 ?_
  refine ek_slen X hS9.1 hS9.2.1 hS9.2.2.1 dL_law_26 ?_
  refine ek_ic (v := nI 5) X (by decide) dL_law_27 ?_
  refine ek_sub X dL_law_28 ?_
  refine ek_icmp_gt X 1446 (by decide) dL_law_29 (fun _ => ?_) (fun hng => ?_)
  · refine ek_ic (v := nI 1) X (by decide) dL_law_1446 ?_
    exact fin _ _ _ _ (by omega) (by omega)
  · have h5 : 5 * n + 5 ≤ L := by
      by_cases c : 5 ≤ L
      · rw [pk_sub c, nI_ltI (by omega) (by omega)] at hng
        omega
      · have hn0 : n = 0 := by omega
        subst hn0
        rcases (show L = 0 ∨ L = 1 ∨ L = 2 ∨ L = 3 ∨ L = 4 by omega) with hL0 | hL0 | hL0 | hL0 | hL0
        all_goals rw [hL0] at hng; exact absurd (by decide) hng
    obtain ⟨x0, hx0, ex0⟩ := wb_of32 (xs (5 * n))
    refine ek_aln X 1 rfl dL_law_32 ?_
    refine ek_il X 0 rfl dL_law_33 ?_
    refine ek_sld X hS9.1 hS9.2.1 hS9.2.2.1 (by omega) hS9.2.2.2 dL_law_35 ?_
    rw [ex0]
    refine ek_bp (v := nI 31) X (by decide) dL_law_36 ?_
    refine ek_and X dL_law_38 ?_
    refine ek_top (v' := nI (x0 % 2 ^ 5)) (fa_mask x0 5) ?_
    refine law_switch X hl hZ hS9 h5 ⟨by omega, by omega⟩ H (by omega) (x0 % 2 ^ 5) (Nat.mod_lt _ (by decide)) ?_
    intro cv g q u h k m s a o H2
    refine ek_Ninc (lv' := [(4, .int (nI (5 * n + 5))), (0, .ref b), (1, .ref (ad 46)), (2, .ref (ad 50)), (3, .ref (ad 90))]) (j := 0) (d := 5) X rfl (by decide) rfl dL_law_1440 ?_
    refine ek_goto X 23 (by decide) dL_law_1443 ?_
    exact IH ⟨⟨n + 1, cv, g, q⟩, ⟨u, h, k⟩, ⟨m, s, a⟩, o⟩ ⟨H2, h5⟩ (by show L - 5 * (n + 1) < L - 5 * n; omega)
end LAW3
