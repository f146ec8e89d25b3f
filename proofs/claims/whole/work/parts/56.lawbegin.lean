/-! ===== the law's beginning ===== -/
def mInit : MdlT := (0, 1, 0, 0, 5, 0, eN (fun _ => 0) 1 30, fun _ => 0)
def tInit : MsnT := ((fun _ => 0, fun _ => 0, fun _ => 0, fun _ => 0), (fun _ => 0, fun _ => 0, fun _ => nI 0, fun _ => 0), (0, 0, 0, 0), (0, 0, nI 0, 0), (0, 0, -1, 0))
theorem i_e0 {k v M j : Nat} (h : v ≤ M) : eN (fun _ => (0 : Nat)) k v j ≤ M := by
  unfold eN
  split
  · exact h
  · exact Nat.zero_le _
theorem i_cOk : cOk cInit := ⟨⟨Nat.le_refl _, (by decide : 1 ≤ 12)⟩, Nat.zero_le _, Nat.zero_le _, fun _ => Nat.zero_le _, fun _ => i_e0 (Nat.le_refl _), fun _ => Nat.zero_le _, fun _ => Nat.zero_le _, fun _ => Nat.zero_le _, fun _ => Nat.zero_le _, fun _ => (by decide : 0 < 12), fun _ => (by decide : 0 < 12), fun _ => Nat.zero_le _, fun _ => Nat.zero_le _, fun _ _ => (by decide : 0 < 18)⟩
theorem i_sOk : sOk gInit qInit := ⟨Nat.zero_le _, (by decide : 0 < 4096), fun _ => Nat.zero_le _, fun _ => (by decide : 0 < 6), fun _ => (by decide : 0 < 68719476736), ⟨Nat.zero_le _, fun _ => (by decide : 0 < 2147483648)⟩, Nat.zero_le _⟩
theorem i_hOk : hOk hInit := ⟨Nat.zero_le _, (by decide : 5 ≤ 50), Nat.zero_le _, Nat.zero_le _, Nat.zero_le _, fun _ => (by decide : 0 < 1024)⟩
theorem i_mOk : mOk mInit := ⟨⟨Nat.le_refl _, (by decide : 1 ≤ 12)⟩, Nat.zero_le _, Nat.zero_le _, (by decide : 5 ≤ 50), Nat.zero_le _, Nat.zero_le _, fun _ => i_e0 (by decide : 30 ≤ 100), fun _ => (by decide : 0 < 12)⟩
theorem i_tBase : tBase tInit := ⟨fun _ => Nat.zero_le _, fun _ => (by decide : 0 < 6), fun _ => (by decide : 0 < 262144), fun _ => (by decide : 0 < 262144), fun _ => (by decide : 0 < 2147483648), fun _ => (by decide : 0 < 128), ⟨Nat.zero_le _, Nat.zero_le _, Nat.zero_le _⟩, (by decide : ¬ (-1 : Int32) = nI 0), Nat.zero_le _, Nat.zero_le _, Nat.zero_le _⟩
theorem i_rCave : rCave cInit mInit := by
  refine ⟨⟨rfl, rfl, rfl⟩, fun j hj => ⟨?_, ?_, ?_, ?_, ?_⟩, fun p hp => absurd hp (Nat.not_lt_zero _), fun p hp => absurd hp (Nat.not_lt_zero _), fun _ _ => rfl, fun _ _ p hp => absurd hp (Nat.not_lt_zero _)⟩
  · exact (eN_ne (fun _ => (0 : Nat)) 30 (show 5 * j ≠ 1 by omega)).symm
  · show eN (fun _ => (0 : Nat)) 0 30 j = eN (fun _ => (0 : Nat)) 1 30 (5 * j + 1)
    by_cases h : j = 0
    · subst h
      rfl
    · rw [eN_ne _ _ h, eN_ne _ _ (show 5 * j + 1 ≠ 1 by omega)]
  · exact (eN_ne (fun _ => (0 : Nat)) 30 (show 5 * j + 2 ≠ 1 by omega)).symm
  · exact (eN_ne (fun _ => (0 : Nat)) 30 (show 5 * j + 3 ≠ 1 by omega)).symm
  · exact (eN_ne (fun _ => (0 : Nat)) 30 (show 5 * j + 4 ≠ 1 by omega)).symm
theorem r_init : rAll 0 vInit gInit qInit cInit hInit hInit mInit tInit tInit := ⟨⟨i_cOk, i_sOk, i_hOk, i_hOk⟩, ⟨i_mOk, i_tBase, i_tBase, rfl, fun j hj => eN_ne (fun _ => (0 : Nat)) 30 (show j ≠ 1 by have h1 : 5 * 1 ≤ j := hj; omega), fun c _ _ => eN_ne (fun _ => (0 : Nat)) 30 (show 5 * c + 4 ≠ 1 by omega), Nat.le_refl _⟩, i_rCave, ⟨⟨rfl, rfl, rfl, rfl⟩, fun _ _ => rfl, fun _ _ => rfl⟩, ⟨rfl, rfl, rfl⟩, rfl, rfl⟩
theorem wV_ad {ad ad' : Nat → Nat} (h : ∀ j, j < 50 → ad j = ad' j) (cI cJ cR : ClassId) (cv : CavT) (g : SndT) (q : QueT) (u : CaveT) (h9 k : EchT) : wV ad cI cJ cR cv g q u h9 k = wV ad' cI cJ cR cv g q u h9 k := by
  have ho : (fun i => if i < 12 then some (ad (13 + i)) else none) = fun i => if i < 12 then some (ad' (13 + i)) else none := by
    funext i
    by_cases hi : i < 12
    · rw [if_pos hi, if_pos hi, h _ (by omega)]
    · rw [if_neg hi, if_neg hi]
  simp only [wV, ho, h 46 (by decide), h 32 (by decide), h 33 (by decide), h 34 (by decide), h 35 (by decide), h 30 (by decide), h 31 (by decide), h 0 (by decide), h 1 (by decide), h 2 (by decide), h 3 (by decide), h 4 (by decide), h 5 (by decide), h 6 (by decide), h 7 (by decide), h 8 (by decide), h 9 (by decide), h 10 (by decide), h 11 (by decide), h 12 (by decide), h 13 (by decide), h 14 (by decide), h 15 (by decide), h 16 (by decide), h 17 (by decide), h 18 (by decide), h 19 (by decide), h 20 (by decide), h 21 (by decide), h 22 (by decide), h 23 (by decide), h 24 (by decide), h 40 (by decide), h 41 (by decide), h 42 (by decide), h 43 (by decide), h 44 (by decide), h 45 (by decide)]
/-- where the law's world lies -/
def lwAd (u4 : Nat → Nat) (q8 : Nat) (u12 : Nat → Nat) (q17 : Nat) : Nat → Nat := fun j => if j < 50 then u4 j else ([q8, u12 0, u12 1, 0, 0, 0, 0, 0, 0, 0, u12 2, u12 3, u12 4, u12 5, u12 6, u12 7, u12 8, u12 9, u12 10, 0, u12 11, u12 12, u12 13, u12 14, u12 15, u12 16, u12 17, u12 18, u12 19, 0, 0, 0, 0, 0, 0, 0, 0, 0, 0, 0, q17] : List Nat).getD (j - 50) 0
theorem lwAd_lt {u4 : Nat → Nat} {q8 : Nat} {u12 : Nat → Nat} {q17 : Nat} (j : Nat) (h : j < 50) : u4 j = lwAd u4 q8 u12 q17 j := (if_pos h).symm
section LAW4
variable {p : Program} {l : Launch} {e : Env} {s9 : State} {m9 : MethodId} {args9 : Array Value} {below9 : List Frame} {meth9 : Method} {c9 : Code} {D : va_G} {cI cJ cR : ClassId} {A : Nat → Prop} {K N : Nat} {Q : State → Prop} {ad : Nat → Nat} {b : Nat}
set_option maxHeartbeats 4000000 in
set_option maxRecDepth 100000 in
theorem law_begin (X : ek_X p s9 m9 args9 meth9 c9 RL cL_law 9 (some .boolean) wsL_law nestW D (tyW cI cJ cR) A A True) (hl : l.stackTraces = false) (hZ : ek_Zt A s9) (hO : va_AOI s9) {L : Nat} {xs : Nat → Int32} (hS9 : va_X b L xs s9 s9.heap ∧ b < s9.heap.size ∧ ¬ A b ∧ L < 2147483648) (hL : L ≤ 2560) (fin : ∀ (K N : Nat) (w : va_W) (lv : List (Nat × Value)), K ≤ 601024 → N ≤ 7293034 → ek_G p l e room_1 s9 m9 args9 below9 meth9 c9 9 D A A K N Q w 1447 lv [.int (nI 1)]) : ek_G p l e room_1 s9 m9 args9 below9 meth9 c9 9 D A A 0 0 Q ([]) 0 [(0, .ref b)] [] := by
  refine ek_new (ci := 4) X [.null, .null, .null, .null, .int (nI 0), .int (nI 0), .int (nI 0)] inlX4 tyX4 tyX4_ok (List.mem_of_getElem? (i := 0) (by decide +kernel)) (List.mem_of_getElem? (i := 1) (by decide +kernel)) (List.mem_of_getElem? (i := 2) (by decide +kernel)) rfl (by decide) ⟨Nat.le_of_ble_eq_true rfl, Nat.le_of_ble_eq_true rfl⟩ dL_law_0 (fun q0 => ?_)
  refine ek_cast (w' := [(q0, .inr (4, [.null, .null, .null, .null, .int (nI 0), .int (nI 0), .int (nI 0)]))]) rfl ?_
  refine ek_dup X rfl dL_law_3 ?_
  refine ek_doW X (ek_runIO (rt := none) (As := []) (rest := [.ref q0]) X hO (c_X4_init l D cI cJ cR q0) gL_law_X4_init rfl (List.mem_of_getElem? (i := 2) (by decide +kernel)) (List.mem_of_getElem? (i := 7) (by decide +kernel)) (List.mem_of_getElem? (i := 8) (by decide +kernel)) rfl hd_X4_init ⟨Nat.le_of_ble_eq_true rfl, Nat.le_of_ble_eq_true rfl⟩ ⟨Nat.le_of_ble_eq_true rfl, Nat.le_of_ble_eq_true rfl⟩ [0] rfl (by decide) (Nat.le_of_ble_eq_true rfl) dL_law_4) [0] [] rfl (ek_at_map rfl) (by decide) (by decide) (fun u4 => wV u4 cI cJ cR vInit gInit qInit cInit hInit hInit) [0, 1, 2, 3, 4, 5, 6, 7, 8, 9, 10, 11, 12, 13, 14, 15, 16, 17, 18, 19, 20, 21, 22, 23, 24, 25, 26, 27, 28, 29, 30, 31, 32, 33, 34, 35, 36, 37] (by decide) (fun _ => rfl) (fun r9 u4 hp9 => ?_)
  obtain ⟨rfl, hp9⟩ := hp9
  subst hp9
  refine ek_castS (st' := [.ref (u4 46)]) rfl ?_
  refine ek_asn (lv' := [(1, .ref (u4 46)), (0, .ref b)]) X (by decide) rfl dL_law_7 ?_
  refine ek_new (ci := 6) X [.int (nI 0), .int (nI 0), .int (nI 0), .int (nI 0), .int (nI 0), .int (nI 0), .null, .null, .null, .null] inlX6 tyX6 tyX6_ok (List.mem_of_getElem? (i := 3) (by decide +kernel)) (List.mem_of_getElem? (i := 4) (by decide +kernel)) (List.mem_of_getElem? (i := 5) (by decide +kernel)) rfl (by decide) ⟨Nat.le_of_ble_eq_true rfl, Nat.le_of_ble_eq_true rfl⟩ dL_law_8 (fun q8 => ?_)
  refine ek_cast (w' := wV u4 cI cJ cR vInit gInit qInit cInit hInit hInit ++ [(q8, .inr (6, [.int (nI 0), .int (nI 0), .int (nI 0), .int (nI 0), .int (nI 0), .int (nI 0), .null, .null, .null, .null]))]) rfl ?_
  refine ek_dup X rfl dL_law_11 ?_
  refine ek_doW X (ek_runI (As := []) (rest := [.ref q8]) X (c_X6_init l D cI cJ cR q8) gL_law_X6_init rfl (List.mem_of_getElem? (i := 5) (by decide +kernel)) (List.mem_of_getElem? (i := 82) (by decide +kernel)) (List.mem_of_getElem? (i := 83) (by decide +kernel)) rfl hd_X6_init ⟨Nat.le_of_ble_eq_true rfl, Nat.le_of_ble_eq_true rfl⟩ ⟨Nat.le_of_ble_eq_true rfl, Nat.le_of_ble_eq_true rfl⟩ [38] rfl (by decide) (Nat.le_of_ble_eq_true rfl) dL_law_12) [38] [0, 1, 2, 3, 4, 5, 6, 7, 8, 9, 10, 11, 12, 13, 14, 15, 16, 17, 18, 19, 20, 21, 22, 23, 24, 25, 26, 27, 28, 29, 30, 31, 32, 33, 34, 35, 36, 37] rfl (ek_at_map rfl) (by decide) (by decide) (fun u12 => wV u4 cI cJ cR vInit gInit qInit cInit hInit hInit ++ [(q8, .inr (6, [.int (nI 0), .int (nI 1), .int (nI 0), .int (nI 0), .int (nI 5), .int (nI 0), .ref (u12 0), .ref (u12 1), .ref (u12 2), .ref (u12 11)])), ((u12 0), .inl (cI, 60, .inl (eN (fun _ => nI 0) 1 (nI 30)))), ((u12 1), .inl (cI, 72, .inl (fun _ => nI 0))), ((u12 2), .inr (5, [.int (nI 0), .int (nI 0), .int (nI 0), .int (nI 0), .int (nI 0), .int (nI 0), .int (nI 0), .int (nI 0), .int (nI 0), .int (-1), .int (nI 0), .int (nI 0), .ref (u12 3), .ref (u12 4), .ref (u12 5), .ref (u12 6), .ref (u12 7), .ref (u12 8), .ref (u12 9), .ref (u12 10), .ref q8])), ((u12 3), .inl (cI, 6, .inl (fun _ => nI 0))), ((u12 4), .inl (cI, 300, .inl (fun _ => nI 0))), ((u12 5), .inl (cI, 17, .inl (fun _ => nI 0))), ((u12 6), .inl (cI, 17, .inl (fun _ => nI 0))), ((u12 7), .inl (cI, 17, .inl (fun _ => nI 0))), ((u12 8), .inl (cI, 17, .inl (fun _ => nI 0))), ((u12 9), .inl (cI, 629, .inl (fun _ => nI 0))), ((u12 10), .inl (cI, 629, .inl (fun _ => nI 0))), ((u12 11), .inr (5, [.int (nI 0), .int (nI 0), .int (nI 0), .int (nI 0), .int (nI 0), .int (nI 0), .int (nI 0), .int (nI 0), .int (nI 0), .int (-1), .int (nI 0), .int (nI 0), .ref (u12 12), .ref (u12 13), .ref (u12 14), .ref (u12 15), .ref (u12 16), .ref (u12 17), .ref (u12 18), .ref (u12 19), .ref q8])), ((u12 12), .inl (cI, 6, .inl (fun _ => nI 0))), ((u12 13), .inl (cI, 300, .inl (fun _ => nI 0))), ((u12 14), .inl (cI, 17, .inl (fun _ => nI 0))), ((u12 15), .inl (cI, 17, .inl (fun _ => nI 0))), ((u12 16), .inl (cI, 17, .inl (fun _ => nI 0))), ((u12 17), .inl (cI, 17, .inl (fun _ => nI 0))), ((u12 18), .inl (cI, 629, .inl (fun _ => nI 0))), ((u12 19), .inl (cI, 629, .inl (fun _ => nI 0)))]) [0, 1, 2, 3, 4, 5, 6, 7, 8, 9, 10, 11, 12, 13, 14, 15, 16, 17, 18, 19, 20, 21, 22, 23, 24, 25, 26, 27, 28, 29, 30, 31, 32, 33, 34, 35, 36, 37, 38, 39, 40, 41, 42, 43, 44, 45, 46, 47, 48, 49, 50, 51, 52, 53, 54, 55, 56, 57, 58] (by decide) (fun _ => rfl) (fun r9 u12 hp9 => ?_)
  obtain ⟨rfl, -⟩ := hp9
  refine ek_castS (st' := [.ref q8]) rfl ?_
  refine ek_asn (lv' := [(2, .ref q8), (1, .ref (u4 46)), (0, .ref b)]) X (by decide) rfl dL_law_15 ?_
  refine ek_ic (v := nI 1) X (by decide) dL_law_16 ?_
  refine ek_newL X 1 rfl (List.mem_of_getElem? (i := 6) (by decide +kernel)) (by omega) ⟨Nat.le_of_ble_eq_true rfl, Nat.le_of_ble_eq_true rfl⟩ dL_law_17 (fun q17 => ?_)
  refine ek_asn (lv' := [(3, .ref q17), (2, .ref q8), (1, .ref (u4 46)), (0, .ref b)]) X (by decide) rfl dL_law_19 ?_
  refine ek_ic (v := nI 0) X (by decide) dL_law_20 ?_
  refine ek_is (lv' := [(4, .int (nI 0)), (3, .ref q17), (2, .ref q8), (1, .ref (u4 46)), (0, .ref b)]) X (by decide) rfl dL_law_21 ?_
  refine ek_widen (k' := 200) (n' := 8000) (Nat.le_of_ble_eq_true rfl) (Nat.le_of_ble_eq_true rfl) ?_
  have hr : (fun j => nI (mRo mInit j)) = eN (fun _ => nI 0) 1 (nI 30) := eN_comp nI (fun _ => 0) 1 30
  refine ek_cast (w' := (wV (lwAd u4 q8 u12 q17) cI cJ cR vInit gInit qInit cInit hInit hInit ++ (wX (lwAd u4 q8 u12 q17) cI mInit tInit tInit)) ++ [(q17, .inl (cJ, 1, .inr (.inl (fun _ => lN 0))))]) (by rw [← wV_ad (ad := u4) (fun j hj => lwAd_lt j hj)]; unfold wX; rw [hr]; rfl) ?_
  refine ek_drop (w' := wG (lwAd u4 q8 u12 q17) cI cJ cR vInit gInit qInit cInit hInit hInit mInit tInit tInit (fun _ => lN 0)) [0, 1, 2, 3, 4, 5, 6, 7, 8, 9, 10, 11, 12, 13, 14, 15, 16, 17, 18, 19, 20, 21, 22, 23, 24, 25, 26, 27, 28, 29, 30, 31, 32, 33, 34, 35, 36, 37, 59, 38, 39, 40, 41, 42, 43, 44, 45, 46, 47, 48, 49, 50, 51, 52, 53, 54, 55, 56, 57, 58] rfl (by decide) ?_
  refine ek_castL (lv' := [(4, .int (nI 0)), (3, .ref ((lwAd u4 q8 u12 q17) 90)), (2, .ref ((lwAd u4 q8 u12 q17) 50)), (1, .ref ((lwAd u4 q8 u12 q17) 46)), (0, .ref b)]) rfl ?_
  refine ek_re [0, 4, 3, 2, 1] rfl ?_
  exact law_loop X hl hZ hS9 hL fin r_init
end LAW4
