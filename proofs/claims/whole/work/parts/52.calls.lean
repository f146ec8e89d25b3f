/-! ===== pure facts: each call keeps the two sides alike ===== -/
section QC
variable {n : Nat} {cv : CavT} {g : SndT} {q : QueT} {u : CaveT} {h k : EchT} {m : MdlT} {s a : MsnT}
theorem if_le1 {P : Prop} [Decidable P] : (if P then 0 else 1 : Nat) ≤ 3 := by split <;> omega
theorem q_setWater (H : rAll n cv g q u h k m s a) (k9 : Nat) : mTh (mSetW k9 m) = xSetW k9 ∧ (xSetW k9 = 0 → nI (cW u) = nI (if k9 ≤ 30 then mW m else 0)) ∧ rAll (n + 1) cv g q (if xSetW k9 = 0 then (cC u, cP u, k9, cWal u, cHgt u, cBat u, cSyl u, cDel u, cDrs u, cFrm u, cTo u, cLen u, cNar u, cPb u, cFnd u) else u) h k (mSetW k9 m) s a := by
  by_cases c : k9 ≤ 30
  · have e1 : xSetW k9 = 0 := if_pos c
    have e2 : mSetW k9 m = (0, mC m, mP m, k9, mEar m, mSaid m, mRo m, mTu m) := if_pos c
    rw [e1, e2]
    refine ⟨rfl, fun _ => by rw [if_pos c, H.2.2.1.1.2.2], ?_⟩
    rw [if_pos rfl]
    obtain ⟨⟨⟨b1, b2, -, b4⟩, h1⟩, ⟨⟨m1, m2, -, m4, -, m6⟩, m7, m8, m9, m10, m11, m12⟩, h3, h4, h5, h6⟩ := H
    exact ⟨⟨⟨b1, b2, c, b4⟩, h1⟩, ⟨⟨m1, m2, c, m4, Nat.zero_le _, m6⟩, m7, m8, m9, m10, m11, Nat.le_succ_of_le m12⟩, rCave_water h3 0 k9 _ _, h4, h5, h6⟩
  · have e1 : xSetW k9 = 1 := if_neg c
    have e2 : mSetW k9 m = mThr 1 m := if_neg c
    rw [e1, e2]
    refine ⟨rfl, fun h => absurd h (by decide), ?_⟩
    rw [if_neg (by decide)]
    exact rAll_thr H (by omega)
theorem q_setEar (H : rAll n cv g q u h k m s a) (k9 : Nat) : mTh (mSetE k9 m) = xSetE k9 ∧ (xSetE k9 = 0 → nI (vEar cv) = nI (if 1 ≤ k9 ∧ k9 ≤ 50 then mEar m else 0)) ∧ rAll (n + 1) (if xSetE k9 = 0 then (k9, vSaid cv, vWord cv) else cv) g q u h k (mSetE k9 m) s a := by
  by_cases c : 1 ≤ k9 ∧ k9 ≤ 50
  · have e1 : xSetE k9 = 0 := if_pos c
    have e2 : mSetE k9 m = (0, mC m, mP m, mW m, k9, mSaid m, mRo m, mTu m) := if_pos c
    rw [e1, e2]
    refine ⟨rfl, fun _ => by rw [if_pos c, H.2.2.2.2.1.1], ?_⟩
    rw [if_pos rfl]
    obtain ⟨h1, ⟨⟨m1, m2, m3, -, -, m6⟩, m7, m8, m9, m10, m11, m12⟩, h3, h4, ⟨-, h5⟩, h6⟩ := H
    exact ⟨h1, ⟨⟨m1, m2, m3, c.2, Nat.zero_le _, m6⟩, m7, m8, m9, m10, m11, Nat.le_succ_of_le m12⟩, rCave_same h3 0 k9 _, h4, ⟨rfl, h5⟩, h6⟩
  · have e1 : xSetE k9 = 1 := if_neg c
    have e2 : mSetE k9 m = mThr 1 m := if_neg c
    rw [e1, e2]
    refine ⟨rfl, fun h => absurd h (by decide), ?_⟩
    rw [if_neg (by decide)]
    exact rAll_thr H (by omega)
theorem q_setBats (H : rAll n cv g q u h k m s a) (c b : Nat) : mTh (mSetB c b m) = xSetB c b (cC u) ∧ (xSetB c b (cC u) = 0 → nI (cBat u c) = nI (if c < mC m ∧ b ≤ 20 then mRo m (5 * c + 2) else 0)) ∧ rAll (n + 1) cv g q (if xSetB c b (cC u) = 0 then (cC u, cP u, cW u, cWal u, cHgt u, eN (cBat u) c b, cSyl u, cDel u, cDrs u, cFrm u, cTo u, cLen u, cNar u, cPb u, cFnd u) else u) h k (mSetB c b m) s a := by
  have hC : cC u = mC m := H.2.2.1.1.1
  rw [hC]
  by_cases c1 : c < mC m
  · by_cases c2 : b ≤ 20
    · have e1 : xSetB c b (mC m) = 0 := (if_pos c1).trans (if_pos c2)
      have e2 : mSetB c b m = (0, mC m, mP m, mW m, mEar m, mSaid m, eN (mRo m) (5 * c + 2) b, mTu m) := (if_pos c1).trans (if_pos c2)
      have h12 := H.2.1.1.1.2
      rw [e1, e2]
      refine ⟨rfl, fun _ => by rw [if_pos ⟨c1, c2⟩, (H.2.2.1.2.1 c (by omega)).2.2.1], ?_⟩
      rw [if_pos rfl]
      obtain ⟨⟨⟨b1, b2, b3, b4, b5, b6, b7⟩, h1⟩, ⟨⟨m1, m2, m3, m4, -, m6, m7, m8⟩, m9, m10, m11, m12, m13, m14⟩, h3, h4, h5, h6⟩ := H
      refine ⟨⟨⟨m1, b2, b3, b4, b5, eN_bd b6 c2, b7⟩, h1⟩, ⟨⟨m1, m2, m3, m4, Nat.zero_le _, m6, eN_bd m7 (by omega), m8⟩, m9, m10, ?_, ?_, ?_, Nat.le_succ_of_le m14⟩, ?_, h4, h5, h6⟩
      · show eN (mRo m) (5 * c + 2) b 3 = 0
        rw [eN_ne _ _ (by omega)]; exact m11
      · intro j hj
        show eN (mRo m) (5 * c + 2) b j = 0
        have hj2 : 5 * mC m ≤ j := hj
        rw [eN_ne _ _ (by omega)]; exact m12 j (by omega)
      · intro j hj z
        have z2 : eN (mRo m) (5 * c + 2) b (5 * j + 3) = 0 := z
        show eN (mRo m) (5 * c + 2) b (5 * j + 4) = 0
        rw [eN_ne _ _ (by omega)] at z2
        rw [eN_ne _ _ (by omega)]; exact m13 j hj z2
      · have h9 := rCave_bats h3 0 c b
        rw [hC] at h9; exact h9
    · have e1 : xSetB c b (mC m) = 2 := (if_pos c1).trans (if_neg c2)
      have e2 : mSetB c b m = mThr 2 m := (if_pos c1).trans (if_neg c2)
      rw [e1, e2]
      refine ⟨rfl, fun h => absurd h (by decide), ?_⟩
      rw [if_neg (by decide)]
      exact rAll_thr H (by omega)
  · have e1 : xSetB c b (mC m) = 1 := if_neg c1
    have e2 : mSetB c b m = mThr 1 m := if_neg c1
    rw [e1, e2]
    refine ⟨rfl, fun h => absurd h (by decide), ?_⟩
    rw [if_neg (by decide)]
    exact rAll_thr H (by omega)
theorem q_setClapper (H : rAll n cv g q u h k m s a) (c y d : Nat) : mTh (mSetC c y d m) = xSetC c y d (cC u) ∧ (xSetC c y d (cC u) = 0 → nI (cSyl u c) = nI (if c < mC m ∧ 0 < c ∧ y ≤ 9 ∧ d ≤ 20 then mRo m (5 * c + 3) else 0)) ∧ rAll (n + 1) cv g q (if xSetC c y d (cC u) = 0 then cClap u c y d else u) h k (mSetC c y d m) s a := by
  have hC : cC u = mC m := H.2.2.1.1.1
  rw [hC]
  by_cases c1 : c < mC m
  · by_cases c2 : 0 < c ∧ y ≤ 9 ∧ d ≤ 20
    · have e1 : xSetC c y d (mC m) = 0 := (if_pos c1).trans (if_pos c2)
      have e2 : mSetC c y d m = (0, mC m, mP m, mW m, mEar m, mSaid m, eN (eN (mRo m) (5 * c + 3) y) (5 * c + 4) (if y = 0 then 0 else d), mTu m) := (if_pos c1).trans (if_pos c2)
      have h12 := H.2.1.1.1.2
      rw [e1, e2]
      refine ⟨rfl, fun _ => by rw [if_pos ⟨c1, c2⟩, (H.2.2.1.2.1 c (by omega)).2.2.2.1], ?_⟩
      rw [if_pos rfl]
      obtain ⟨⟨hB, h1⟩, ⟨⟨m1, m2, m3, m4, -, m6, m7, m8⟩, m9, m10, m11, m12, m13, m14⟩, h3, h4, h5, h6⟩ := H
      have hy : (if y = 0 then 0 else d) ≤ 100 := by split <;> omega
      refine ⟨⟨cClap_ok hB c2.2.1 c2.2.2, h1⟩, ⟨⟨m1, m2, m3, m4, Nat.zero_le _, m6, eN_bd (eN_bd m7 (by omega)) hy, m8⟩, m9, m10, ?_, ?_, ?_, Nat.le_succ_of_le m14⟩, rCave_clap h3 0 c y d, h4, h5, h6⟩
      · show eN (eN (mRo m) (5 * c + 3) y) (5 * c + 4) (if y = 0 then 0 else d) 3 = 0
        rw [eN_ne _ _ (by omega), eN_ne _ _ (by omega)]; exact m11
      · intro j hj
        have hj2 : 5 * mC m ≤ j := hj
        show eN (eN (mRo m) (5 * c + 3) y) (5 * c + 4) (if y = 0 then 0 else d) j = 0
        rw [eN_ne _ _ (by omega), eN_ne _ _ (by omega)]; exact m12 j hj2
      · intro j hj z
        have z2 : eN (eN (mRo m) (5 * c + 3) y) (5 * c + 4) (if y = 0 then 0 else d) (5 * j + 3) = 0 := z
        show eN (eN (mRo m) (5 * c + 3) y) (5 * c + 4) (if y = 0 then 0 else d) (5 * j + 4) = 0
        rw [eN_ne _ _ (by omega)] at z2
        by_cases e : j = c
        · subst e
          rw [eN_self] at z2
          rw [eN_self, if_pos z2]
        · rw [eN_ne _ _ (by omega)] at z2
          rw [eN_ne _ _ (by omega), eN_ne _ _ (by omega)]; exact m13 j hj z2
    · have e1 : xSetC c y d (mC m) = 2 := (if_pos c1).trans (if_neg c2)
      have e2 : mSetC c y d m = mThr 2 m := (if_pos c1).trans (if_neg c2)
      rw [e1, e2]
      refine ⟨rfl, fun h => absurd h (by decide), ?_⟩
      rw [if_neg (by decide)]
      exact rAll_thr H (by omega)
  · have e1 : xSetC c y d (mC m) = 1 := if_neg c1
    have e2 : mSetC c y d m = mThr 1 m := if_neg c1
    rw [e1, e2]
    refine ⟨rfl, fun h => absurd h (by decide), ?_⟩
    rw [if_neg (by decide)]
    exact rAll_thr H (by omega)
theorem mCpy_bd {f g : Nat → Nat} {M : Nat} (h1 : ∀ j, f j ≤ M) (h2 : ∀ j, g j ≤ M) (sp dp n j : Nat) : mCpy f g sp dp n j ≤ M := by
  unfold mCpy
  split
  · exact h1 _
  · exact h2 _
theorem cAdd_ok {u : CaveT} (H : cOk u) (hc : cC u < 12) {a t b : Nat} (ha : a ≤ 100) (ht : t ≤ 30) (hb : b ≤ 20) : cOk (cAdd u a t b) := by
  obtain ⟨⟨b1, b2⟩, b3, b4, b5, b6, b7, b8⟩ := H
  exact ⟨⟨by show 1 ≤ cC u + 1; omega, by show cC u + 1 ≤ 12; omega⟩, b3, b4, eN_bd b5 ha, eN_bd b6 ht, eN_bd b7 hb, b8⟩
theorem q_addChamber (H : rAll n cv g q u h k m s a) (x t b : Nat) : mTh (mAddC x t b m) = xAddC x t b (cC u) ∧ (xAddC x t b (cC u) = 0 → nI (cC u) = nI (if (x ≤ 100 ∧ t ≤ 30 ∧ b ≤ 20) ∧ mC m < 12 then mC m else 0)) ∧ rAll (n + 1) cv g q (if xAddC x t b (cC u) = 0 then cAdd u x t b else u) h k (mAddC x t b m) s a := by
  have hC : cC u = mC m := H.2.2.1.1.1
  have h12 := H.2.1.1.1
  rw [hC]
  by_cases c1 : x ≤ 100 ∧ t ≤ 30 ∧ b ≤ 20
  · by_cases c2 : mC m = 12
    · have e1 : xAddC x t b (mC m) = 2 := (if_pos c1).trans (if_neg (by omega))
      have e2 : mAddC x t b m = mThr 2 m := (if_pos c1).trans (if_pos c2)
      rw [e1, e2]
      refine ⟨rfl, fun h => absurd h (by decide), ?_⟩
      rw [if_neg (by decide)]
      exact rAll_thr H (by omega)
    · have e1 : xAddC x t b (mC m) = 0 := (if_pos c1).trans (if_pos (by omega))
      have e2 : mAddC x t b m = (0, mC m + 1, mP m, mW m, mEar m, mSaid m, mCpy (eN (eN (eN (eN (eN (fun _ => 0) 0 x) 1 t) 2 b) 3 0) 4 0) (mRo m) 0 (5 * mC m) 5, mTu m) := (if_pos c1).trans (if_neg c2)
      rw [e1, e2]
      refine ⟨rfl, fun _ => by rw [if_pos ⟨c1, by omega⟩], ?_⟩
      rw [if_pos rfl]
      obtain ⟨⟨hB, h1⟩, ⟨⟨m1, m2, m3, m4, -, m6, m7, m8⟩, m9, m10, m11, m12, m13, m14⟩, h3, h4, h5, h6⟩ := H
      have hf : ∀ j, eN (eN (eN (eN (eN (fun _ => 0) 0 x) 1 t) 2 b) 3 0) 4 0 j ≤ 100 := eN_bd (eN_bd (eN_bd (eN_bd (eN_bd (fun _ => Nat.zero_le _) (by omega)) (by omega)) (by omega)) (by omega)) (by omega)
      refine ⟨⟨cAdd_ok hB (by omega) c1.1 c1.2.1 c1.2.2, h1⟩, ⟨⟨⟨by show 1 ≤ mC m + 1; omega, by show mC m + 1 ≤ 12; omega⟩, m2, m3, m4, Nat.zero_le _, m6, mCpy_bd hf m7 _ _ _, m8⟩, m9, m10, ?_, ?_, ?_, Nat.le_succ_of_le m14⟩, rCave_add h3 m12 (by omega) 0 x t b, h4, h5, h6⟩
      · show mCpy _ (mRo m) 0 (5 * mC m) 5 3 = 0
        rw [mCpy_out (by omega)]; exact m11
      · intro j hj
        have hj2 : 5 * (mC m + 1) ≤ j := hj
        show mCpy _ (mRo m) 0 (5 * mC m) 5 j = 0
        rw [mCpy_out (by omega)]; exact m12 j (by omega)
      · intro j hj z
        have z2 : mCpy (eN (eN (eN (eN (eN (fun _ => 0) 0 x) 1 t) 2 b) 3 0) 4 0) (mRo m) 0 (5 * mC m) 5 (5 * j + 3) = 0 := z
        show mCpy (eN (eN (eN (eN (eN (fun _ => 0) 0 x) 1 t) 2 b) 3 0) 4 0) (mRo m) 0 (5 * mC m) 5 (5 * j + 4) = 0
        by_cases e : j = mC m
        · rw [e, mCpy_in (i := 4) (by omega), eN_self]
        · rw [mCpy_out (by omega)] at z2
          rw [mCpy_out (by omega)]; exact m13 j hj z2
  · have e1 : xAddC x t b (mC m) = 1 := if_neg c1
    have e2 : mAddC x t b m = mThr 1 m := if_neg c1
    rw [e1, e2]
    refine ⟨rfl, fun h => absurd h (by decide), ?_⟩
    rw [if_neg (by decide)]
    exact rAll_thr H (by omega)
theorem eN_bdl {f : Nat → Nat} {t v M : Nat} (h : ∀ j, f j < M) (hv : v < M) (j : Nat) : eN f t v j < M := eN_lt h hv j
theorem cPass_ok {u : CaveT} (H : cOk u) (hp : cP u < 18) {x b t w : Nat} (hx : x < 12) (hb : b < 12) (hxb : ¬ x = b) (ht : t ≤ 9) (hw : w ≤ 9) : cOk (cPass u x b t w) := by
  obtain ⟨b1, b2, b3, b4, b5, b6, b7, b8, b9, b10, b11, b12, b13, b14⟩ := H
  refine ⟨b1, by show cP u + 1 ≤ 18; omega, b3, b4, b5, b6, b7, b8, ?_, eN_bdl b10 hx, eN_bdl b11 hb, eN_bd b12 ht, eN_bd b13 hw, ?_⟩
  · intro j
    show eN (eN (cDrs u) x (cDrs u x + 1)) b (eN (cDrs u) x (cDrs u x + 1) b + 1) j ≤ cP u + 1
    rw [eN_ne (cDrs u) _ (fun e => hxb e.symm)]
    have d1 := b9 x
    have d2 := b9 b
    exact eN_bd (eN_bd (fun j => Nat.le_succ_of_le (b9 j)) (by omega)) (by omega) j
  · intro i j
    show eN (eN (cPb u) x (eN (cPb u x) (cDrs u x) (cP u))) b (eN (eN (cPb u) x (eN (cPb u x) (cDrs u x) (cP u)) b) (eN (cDrs u) x (cDrs u x + 1) b) (cP u)) i j < 18
    rw [eN_ne (cPb u) _ (fun e => hxb e.symm)]
    by_cases e1 : i = b
    · rw [e1, eN_self]; exact eN_bdl (b14 b) hp j
    · rw [eN_ne _ _ e1]
      by_cases e2 : i = x
      · rw [e2, eN_self]; exact eN_bdl (b14 x) hp j
      · rw [eN_ne _ _ e2]; exact b14 i j
theorem q_addPassage (H : rAll n cv g q u h k m s a) (x b t w : Nat) : mTh (mAddP x b t w m) = xAddP x b t w (cC u) (cP u) ∧ (xAddP x b t w (cC u) (cP u) = 0 → nI (cP u) = nI (if (x < mC m ∧ b < mC m) ∧ (¬ x = b ∧ (1 ≤ t ∧ t ≤ 9) ∧ w ≤ 9) ∧ mP m < 18 then mP m else 0)) ∧ rAll (n + 1) cv g q (if xAddP x b t w (cC u) (cP u) = 0 then cPass u x b t w else u) h k (mAddP x b t w m) s a := by
  have hC : cC u = mC m := H.2.2.1.1.1
  have hP : cP u = mP m := H.2.2.1.1.2.1
  have h12 := H.2.1.1.1
  have h18 := H.2.1.1.2.1
  rw [hC, hP]
  by_cases c1 : x < mC m ∧ b < mC m
  · by_cases c2 : ¬ x = b ∧ (1 ≤ t ∧ t ≤ 9) ∧ w ≤ 9
    · by_cases c3 : mP m = 18
      · have e1 : xAddP x b t w (mC m) (mP m) = 3 := ((if_pos c1).trans (if_pos c2)).trans (if_neg (by omega))
        have e2 : mAddP x b t w m = mThr 3 m := ((if_pos c1).trans (if_pos c2)).trans (if_pos c3)
        rw [e1, e2]
        refine ⟨rfl, fun h => absurd h (by decide), ?_⟩
        rw [if_neg (by decide)]
        exact rAll_thr H (by omega)
      · have e1 : xAddP x b t w (mC m) (mP m) = 0 := ((if_pos c1).trans (if_pos c2)).trans (if_pos (by omega))
        have e2 : mAddP x b t w m = (0, mC m, mP m + 1, mW m, mEar m, mSaid m, mRo m, mCpy (eN (eN (eN (eN (fun _ => 0) 0 x) 1 b) 2 t) 3 w) (mTu m) 0 (4 * mP m) 4) := ((if_pos c1).trans (if_pos c2)).trans (if_neg c3)
        rw [e1, e2]
        refine ⟨rfl, fun _ => by rw [if_pos ⟨c1, c2, by omega⟩], ?_⟩
        rw [if_pos rfl]
        obtain ⟨⟨hB, h1⟩, ⟨⟨m1, m2, m3, m4, -, m6, m7, m8⟩, m9, m10, m11, m12, m13, m14⟩, h3, h4, h5, h6⟩ := H
        have hf : ∀ j, eN (eN (eN (eN (fun _ => 0) 0 x) 1 b) 2 t) 3 w j < 12 := eN_bdl (eN_bdl (eN_bdl (eN_bdl (fun _ => by omega) (by omega)) (by omega)) (by omega)) (by omega)
        have hm : ∀ j, mCpy (eN (eN (eN (eN (fun _ => 0) 0 x) 1 b) 2 t) 3 w) (mTu m) 0 (4 * mP m) 4 j < 12 := fun j => by
          have := mCpy_bd (M := 11) (fun j => Nat.le_of_lt_succ (hf j)) (fun j => Nat.le_of_lt_succ (m8 j)) 0 (4 * mP m) 4 j
          omega
        exact ⟨⟨cPass_ok hB (by omega) (by omega) (by omega) c2.1 c2.2.1.2 c2.2.2, h1⟩, ⟨⟨m1, by show mP m + 1 ≤ 18; omega, m3, m4, Nat.zero_le _, m6, m7, hm⟩, m9, m10, m11, m12, m13, Nat.le_succ_of_le m14⟩, rCave_pass h3 c1.1 c1.2 c2.1 0 t w, h4, h5, h6⟩
    · have e1 : xAddP x b t w (mC m) (mP m) = 2 := (if_pos c1).trans (if_neg c2)
      have e2 : mAddP x b t w m = mThr 2 m := (if_pos c1).trans (if_neg c2)
      rw [e1, e2]
      refine ⟨rfl, fun h => absurd h (by decide), ?_⟩
      rw [if_neg (by decide)]
      exact rAll_thr H (by omega)
  · have e1 : xAddP x b t w (mC m) (mP m) = 1 := if_neg c1
    have e2 : mAddP x b t w m = mThr 1 m := if_neg c1
    rw [e1, e2]
    refine ⟨rfl, fun h => absurd h (by decide), ?_⟩
    rw [if_neg (by decide)]
    exact rAll_thr H (by omega)
theorem q_chamber (H : rAll n cv g q u h k m s a) (c w : Nat) : mTh (mThr (if c < mC m ∧ w ≤ 6 then 0 else 1) m) = xTwo c (cC u) w 6 ∧ (xTwo c (cC u) w 6 = 0 → nI (cFact u c w) = nI (if c < mC m ∧ w ≤ 6 then mTold m c w else 0)) ∧ rAll (n + 1) cv g q u h k (mThr (if c < mC m ∧ w ≤ 6 then 0 else 1) m) s a := by
  have hC : cC u = mC m := H.2.2.1.1.1
  have h12 := H.2.1.1.1
  rw [hC]
  refine ⟨rfl, fun h0 => ?_, rAll_thr H if_le1⟩
  by_cases c1 : c < mC m ∧ w ≤ 6
  · rw [if_pos c1, rTold H.2.1.1 H.2.2.1 (by omega) c1.2]
  · rw [show xTwo c (mC m) w 6 = 1 from if_neg c1] at h0; exact absurd h0 (by decide)
theorem q_passage (H : rAll n cv g q u h k m s a) (p w : Nat) : mTh (mThr (if p < mP m ∧ w ≤ 4 then 0 else 1) m) = xTwo p (cP u) w 4 ∧ (xTwo p (cP u) w 4 = 0 → nI (pFact u p w) = nI (if p < mP m ∧ w ≤ 4 then mPTold m p w else 0)) ∧ rAll (n + 1) cv g q u h k (mThr (if p < mP m ∧ w ≤ 4 then 0 else 1) m) s a := by
  have hP : cP u = mP m := H.2.2.1.1.2.1
  rw [hP]
  refine ⟨rfl, fun h0 => ?_, rAll_thr H if_le1⟩
  by_cases c1 : p < mP m ∧ w ≤ 4
  · rw [if_pos c1, rPTold H.2.1.1 H.2.2.1 c1.1 c1.2]
  · rw [show xTwo p (mP m) w 4 = 1 from if_neg c1] at h0; exact absurd h0 (by decide)
theorem q_heard (H : rAll n cv g q u h k m s a) (i w : Nat) : mTh (mThr (if i < tK s ∧ w ≤ 4 then 0 else 1) m) = xTwo i (hK h) w 4 ∧ (xTwo i (hK h) w 4 = 0 → nI (hFa h (i * 5 + w)) = nI (if i < tK s ∧ w ≤ 4 then tHe s (5 * i + w) else 0)) ∧ rAll (n + 1) cv g q u h k (mThr (if i < tK s ∧ w ≤ 4 then 0 else 1) m) s a := by
  have hK : hK h = tK s := H.2.2.2.1.1.1
  rw [hK]
  refine ⟨rfl, fun h0 => ?_, rAll_thr H if_le1⟩
  by_cases c1 : i < tK s ∧ w ≤ 4
  · rw [if_pos c1, H.2.2.2.1.2.1 (i * 5 + w) (by omega), Nat.mul_comm i 5]
  · rw [show xTwo i (tK s) w 4 = 1 from if_neg c1] at h0; exact absurd h0 (by decide)
theorem q_first (H : rAll n cv g q u h k m s a) (i : Nat) : mTh (mThr (if i < tPl s then 0 else 1) m) = xLt i (hPl h) ∧ (xLt i (hPl h) = 0 → hFi h i = if i < tPl s then tFi s i else nI 0) ∧ rAll (n + 1) cv g q u h k (mThr (if i < tPl s then 0 else 1) m) s a := by
  have hP : hPl h = tPl s := H.2.2.2.1.1.2.2.1
  have h6 := H.1.2.2.1.1
  rw [hP]
  refine ⟨rfl, fun h0 => ?_, rAll_thr H if_le1⟩
  by_cases c1 : i < tPl s
  · rw [if_pos c1, H.2.2.2.1.2.2 i (by omega)]
  · rw [show xLt i (tPl s) = 1 from if_neg c1] at h0; exact absurd h0 (by decide)
theorem q_count (H : rAll n cv g q u h k m s a) (w : Nat) : mTh (mThr (if w ≤ 9 then 0 else 1) m) = xLe w 9 ∧ (xLe w 9 = 0 → nI (vCtd cv u h w) = nI (if w ≤ 9 then mCtd m s w else 0)) ∧ rAll (n + 1) cv g q u h k (mThr (if w ≤ 9 then 0 else 1) m) s a := by
  refine ⟨rfl, fun h0 => ?_, rAll_thr H if_le1⟩
  by_cases c1 : w ≤ 9
  · rw [if_pos c1, rCtd H.2.1.1 H.2.2.1 H.2.2.2.1 H.2.2.2.2.1]
  · rw [show xLe w 9 = 1 from if_neg c1] at h0; exact absurd h0 (by decide)
theorem q_way (H : rAll n cv g q u h k m s a) (x b : Nat) : mTh (mThr (if x < mC m ∧ b < mC m then 0 else 1) m) = xWay x b (cC u) ∧ (xWay x b (cC u) = 0 → wayOf u x b = if x < mC m ∧ b < mC m then mShort m x b (mW m) else nI 0) ∧ rAll (n + 1) cv g q (if xWay x b (cC u) = 0 then cSetF u (wayOf u x) else u) h k (mThr (if x < mC m ∧ b < mC m then 0 else 1) m) s a := by
  have hC : cC u = mC m := H.2.2.1.1.1
  have h12 := H.2.1.1.1
  rw [hC]
  refine ⟨rfl, fun h0 => ?_, ?_⟩
  · by_cases c1 : x < mC m ∧ b < mC m
    · rw [if_pos c1, rWay H.2.1.1 H.1.1 H.2.2.1.to0 (by omega) (by omega)]
    · rw [show xWay x b (mC m) = 1 from if_neg c1] at h0; exact absurd h0 (by decide)
  · have H2 := rAll_thr H (t := if x < mC m ∧ b < mC m then 0 else 1) if_le1
    by_cases e : xWay x b (mC m) = 0
    · rw [if_pos e]
      obtain ⟨h1, h2, ⟨r1, r2⟩, h4⟩ := H2
      exact ⟨h1, h2, ⟨r1, r2⟩, h4⟩
    · rw [if_neg e]; exact H2
theorem q_highest (H : rAll n cv g q u h k m s a) (c : Nat) : mTh (mThr (if c < mC m then 0 else 1) m) = xLt c (cC u) ∧ (xLt c (cC u) = 0 → upOf u c = if c < mC m then mHigh m c 31 else nI 0) ∧ rAll (n + 1) cv g q (if xLt c (cC u) = 0 then cSetF u (upOf u) else u) h k (mThr (if c < mC m then 0 else 1) m) s a := by
  have hC : cC u = mC m := H.2.2.1.1.1
  have h12 := H.2.1.1.1
  rw [hC]
  refine ⟨rfl, fun h0 => ?_, ?_⟩
  · by_cases c1 : c < mC m
    · rw [if_pos c1, rHigh H.2.1.1 H.1.1 H.2.2.1.to0 (by omega)]
    · rw [show xLt c (mC m) = 1 from if_neg c1] at h0; exact absurd h0 (by decide)
  · have H2 := rAll_thr H (t := if c < mC m then 0 else 1) if_le1
    by_cases e : xLt c (mC m) = 0
    · rw [if_pos e]
      obtain ⟨h1, h2, ⟨r1, r2⟩, h4⟩ := H2
      exact ⟨h1, h2, ⟨r1, r2⟩, h4⟩
    · rw [if_neg e]; exact H2
theorem q_say (H : rAll n cv g q u h k m s a) (hn : n < 512) (w b : Nat) : mTh (mSayM w b m) = xSay w b ∧ (xSay w b = 0 → nI (hCt (gThrough u w b (vEar cv) g q h).2.2) = nI (if wbOk w b then tCt (tThrough (mThr 0 m) w b s) else 0)) ∧ rAll (n + 1) (if xSay w b = 0 then (vEar cv, vSaid cv + 1, w) else cv) (if xSay w b = 0 then (gThrough u w b (vEar cv) g q h).1 else g) (if xSay w b = 0 then (gThrough u w b (vEar cv) g q h).2.1 else q) u (if xSay w b = 0 then (gThrough u w b (vEar cv) g q h).2.2 else h) k (mSayM w b m) (mSayS w b m s) a := by
  have he := rAll_he H
  by_cases c : wbOk w b
  · have e1 : xSay w b = 0 := if_pos c
    have e2 : mSayM w b m = (0, mC m, mP m, mW m, mEar m, mSaid m + 1, mRo m, mTu m) := if_pos c
    have e3 : mSayS w b m s = tThrough m w b s := (if_pos c).trans (tThrough_thr 0 m w b s)
    obtain ⟨⟨hB, hI, hH, hK⟩, ⟨hM, m7, m8, m9, m10, m11, m12⟩, h3, h4, ⟨t1, t2, t3⟩, h6, h7⟩ := H
    obtain ⟨r1, r2⟩ := rWord hM m9 m7 h3 h6 t1 c.1 c.2.2 g q h
    obtain ⟨z1, z2⟩ := gThrough_ok (w := w) (b := b) hB hI hH c.2.2 he
    rw [e1, e2, e3]
    refine ⟨rfl, fun _ => by rw [if_pos c, tThrough_thr, r1.1.1.2.1], ?_⟩
    rw [if_pos rfl, if_pos rfl, if_pos rfl, if_pos rfl]
    exact ⟨⟨hB, z1, z2, hK⟩, ⟨⟨hM.1, hM.2.1, hM.2.2.1, hM.2.2.2.1, Nat.zero_le _, by show mSaid m + 1 ≤ 512; omega, hM.2.2.2.2.2.2⟩, tBase_thr hM m7 m9 c.1, m8, m9, m10, m11, Nat.succ_le_succ m12⟩, rCave_same h3 0 _ _, r1.1, ⟨t1, congrArg (· + 1) t2, (tThrough_keep m w b s).2.symm⟩, (tThrough_kc m w b s).trans h6, h7⟩
  · have e1 : xSay w b = 1 := if_neg c
    have e2 : mSayM w b m = mThr 1 m := if_neg c
    have e3 : mSayS w b m s = s := if_neg c
    rw [e1, e2, e3]
    refine ⟨rfl, fun h => absurd h (by decide), ?_⟩
    rw [if_neg (by decide), if_neg (by decide), if_neg (by decide), if_neg (by decide)]
    exact rAll_thr H (by omega)
theorem q_would (H : rAll n cv g q u h k m s a) (w b x : Nat) : mTh (mThr (if wbOk w b then (if x ≤ 3 then 0 else 2) else 1) m) = xWould w b x ∧ (xWould w b x = 0 → vWould (gThrough u w b (vEar cv) g q k).1 (gThrough u w b (vEar cv) g q k).2.2 x = if wbOk w b ∧ x ≤ 3 then mWould (tThrough (mThr 0 m) w b a) x else nI 0) ∧ rAll (n + 1) cv (if xWould w b x = 0 then (gThrough u w b (vEar cv) g q k).1 else g) (if xWould w b x = 0 then (gThrough u w b (vEar cv) g q k).2.1 else q) u h (if xWould w b x = 0 then (gThrough u w b (vEar cv) g q k).2.2 else k) (mThr (if wbOk w b then (if x ≤ 3 then 0 else 2) else 1) m) s (if wbOk w b ∧ x ≤ 3 then tThrough (mThr 0 m) w b a else a) := by
  have he := rAll_he H
  refine ⟨rfl, ?_⟩
  have hle : (if wbOk w b then (if x ≤ 3 then 0 else 2) else 1 : Nat) ≤ 3 := by
    split
    · split <;> omega
    · omega
  have H2 := rAll_thr H hle
  by_cases c : wbOk w b ∧ x ≤ 3
  · have e1 : xWould w b x = 0 := (if_pos c.1).trans (if_pos c.2)
    obtain ⟨⟨hB, hI, hH, hK⟩, ⟨hM, m7, m8, m9, m10, m11, m12⟩, h3, h4, ⟨t1, t2, t3⟩, h6, h7⟩ := H
    obtain ⟨r1, r2⟩ := rWord hM m9 m8 h3 h7 t1 c.1.1 c.1.2.2 g q k
    obtain ⟨z1, z2⟩ := gThrough_ok (w := w) (b := b) hB hI hK c.1.2.2 he
    rw [e1, if_pos c, if_pos c, if_pos rfl, if_pos rfl, if_pos rfl, tThrough_thr]
    obtain ⟨-, ⟨g1, g2, -, g4⟩, g5, g6, g7, g8, -⟩ := H2
    exact ⟨fun _ => rWould r1 r2 x, ⟨hB, z1, hH, z2⟩, ⟨g1, g2, tBase_thr hM m8 m9 c.1.1, g4⟩, g5, g6, g7, g8, (tThrough_kc m w b a).trans h7⟩
  · have e1 : ¬ xWould w b x = 0 := fun h => by
      unfold xWould at h
      by_cases c1 : wbOk w b
      · rw [if_pos c1, if_neg (fun c2 => c ⟨c1, c2⟩)] at h; omega
      · rw [if_neg c1] at h; omega
    rw [if_neg c, if_neg c, if_neg e1, if_neg e1, if_neg e1]
    exact ⟨fun h => absurd h e1, H2⟩
theorem q_quickest (H : rAll n cv g q u h k m s a) (w : Nat) : mTh (mThr (if wdOk w then 0 else 1) m) = xQuick w ∧ (xQuick w = 0 → (vQuick u (vEar cv) w 20 1 (g, q, k)).1 = if wdOk w then (mQuick (mThr 0 m) w 20 1 a).1 else nI 0) ∧ rAll (n + 1) cv (if xQuick w = 0 then (vQuick u (vEar cv) w 20 1 (g, q, k)).2.1 else g) (if xQuick w = 0 then (vQuick u (vEar cv) w 20 1 (g, q, k)).2.2.1 else q) u h (if xQuick w = 0 then (vQuick u (vEar cv) w 20 1 (g, q, k)).2.2.2 else k) (mThr (if wdOk w then 0 else 1) m) s (if wdOk w then (mQuick (mThr 0 m) w 20 1 a).2 else a) := by
  refine ⟨rfl, ?_⟩
  have H2 := rAll_thr H (t := if wdOk w then 0 else 1) if_le1
  by_cases c : wdOk w
  · have e1 : xQuick w = 0 := if_pos c
    obtain ⟨⟨hB, hI, hH, hK⟩, ⟨hM, m7, m8, m9, m10, m11, m12⟩, h3, h4, ⟨t1, t2, t3⟩, h6, h7⟩ := H
    obtain ⟨r1, ⟨r2, r3⟩, r4, r5⟩ := rQuick hB hM m9 h3 t1 c 20 1 g q k a (by omega) hI hK m8 h7
    rw [if_pos c] at H2
    rw [e1, if_pos c, if_pos c, if_pos c, if_pos rfl, if_pos rfl, if_pos rfl, mQuick_thr]
    obtain ⟨-, ⟨g1, g2, -, g4⟩, g5, g6, g7, g8, -⟩ := H2
    exact ⟨fun _ => r1, ⟨hB, r2, hH, r3⟩, ⟨g1, g2, r4, g4⟩, g5, g6, g7, g8, r5⟩
  · have e1 : ¬ xQuick w = 0 := fun h => by
      rw [show xQuick w = 1 from if_neg c] at h; exact absurd h (by decide)
    rw [if_neg c] at H2
    rw [if_neg c, if_neg c, if_neg c, if_neg e1, if_neg e1, if_neg e1]
    exact ⟨fun h => absurd h e1, H2⟩
theorem q_longest (H : rAll n cv g q u h k m s a) (y b : Nat) : mTh (mThr (if (1 ≤ y ∧ y ≤ 9) ∧ 1 ≤ b ∧ b ≤ 20 then 0 else 1) m) = xLong y b ∧ (xLong y b = 0 → nI (vLong u (vEar cv) y b 6 1 0 (g, q, k)).1 = nI (if (1 ≤ y ∧ y ≤ 9) ∧ 1 ≤ b ∧ b ≤ 20 then (mLong (mThr 0 m) y b 6 1 0 a).1 else 0)) ∧ rAll (n + 1) cv (if xLong y b = 0 then (vLong u (vEar cv) y b 6 1 0 (g, q, k)).2.1 else g) (if xLong y b = 0 then (vLong u (vEar cv) y b 6 1 0 (g, q, k)).2.2.1 else q) u h (if xLong y b = 0 then (vLong u (vEar cv) y b 6 1 0 (g, q, k)).2.2.2 else k) (mThr (if (1 ≤ y ∧ y ≤ 9) ∧ 1 ≤ b ∧ b ≤ 20 then 0 else 1) m) s (if (1 ≤ y ∧ y ≤ 9) ∧ 1 ≤ b ∧ b ≤ 20 then (mLong (mThr 0 m) y b 6 1 0 a).2 else a) := by
  refine ⟨rfl, ?_⟩
  have H2 := rAll_thr H (t := if (1 ≤ y ∧ y ≤ 9) ∧ 1 ≤ b ∧ b ≤ 20 then 0 else 1) if_le1
  by_cases c : (1 ≤ y ∧ y ≤ 9) ∧ 1 ≤ b ∧ b ≤ 20
  · have e1 : xLong y b = 0 := if_pos c
    obtain ⟨⟨hB, hI, hH, hK⟩, ⟨hM, m7, m8, m9, m10, m11, m12⟩, h3, h4, ⟨t1, t2, t3⟩, h6, h7⟩ := H
    obtain ⟨r1, ⟨r2, r3⟩, r4, r5⟩ := rLong hB hM m9 h3 t1 c.1 c.2.2 6 1 0 g q k a (by omega) (by omega) hI hK m8 h7
    rw [if_pos c] at H2
    rw [e1, if_pos c, if_pos c, if_pos c, if_pos rfl, if_pos rfl, if_pos rfl, mLong_thr]
    obtain ⟨-, ⟨g1, g2, -, g4⟩, g5, g6, g7, g8, -⟩ := H2
    exact ⟨fun _ => congrArg nI r1, ⟨hB, r2, hH, r3⟩, ⟨g1, g2, r4, g4⟩, g5, g6, g7, g8, r5⟩
  · have e1 : ¬ xLong y b = 0 := fun h => by
      rw [show xLong y b = 1 from if_neg c] at h; exact absurd h (by decide)
    rw [if_neg c] at H2
    rw [if_neg c, if_neg c, if_neg c, if_neg e1, if_neg e1, if_neg e1]
    exact ⟨fun h => absurd h e1, H2⟩
theorem q_advise (H : rAll n cv g q u h k m s a) (w b y d : Nat) : mTh (mThr (if wbOk w b ∧ (1 ≤ y ∧ y ≤ 9) ∧ d ≤ 20 then 0 else 1) m) = xAdv w b y d ∧ (xAdv w b y d = 0 → (vAdv (vEar cv) w b y d (cC u - 1) 1 (u, g, q, k)).1 = if wbOk w b ∧ (1 ≤ y ∧ y ≤ 9) ∧ d ≤ 20 then (mAdv (mThr 0 m) w b y d (mC m - 1) (-1) a).1 else nI 0) ∧ rAll (n + 1) cv (if xAdv w b y d = 0 then (vAdv (vEar cv) w b y d (cC u - 1) 1 (u, g, q, k)).2.2.1 else g) (if xAdv w b y d = 0 then (vAdv (vEar cv) w b y d (cC u - 1) 1 (u, g, q, k)).2.2.2.1 else q) (if xAdv w b y d = 0 then (vAdv (vEar cv) w b y d (cC u - 1) 1 (u, g, q, k)).2.1 else u) h (if xAdv w b y d = 0 then (vAdv (vEar cv) w b y d (cC u - 1) 1 (u, g, q, k)).2.2.2.2 else k) (mThr (if wbOk w b ∧ (1 ≤ y ∧ y ≤ 9) ∧ d ≤ 20 then 0 else 1) m) s (if wbOk w b ∧ (1 ≤ y ∧ y ≤ 9) ∧ d ≤ 20 then tInst (-1) 0 0 (mAdv (mThr 0 m) w b y d (mC m - 1) (-1) a).2 else a) := by
  refine ⟨rfl, ?_⟩
  have H2 := rAll_thr H (t := if wbOk w b ∧ (1 ≤ y ∧ y ≤ 9) ∧ d ≤ 20 then 0 else 1) if_le1
  by_cases c : wbOk w b ∧ (1 ≤ y ∧ y ≤ 9) ∧ d ≤ 20
  · have e1 : xAdv w b y d = 0 := if_pos c
    obtain ⟨⟨hB, hI, hH, hK⟩, ⟨hM, m7, m8, m9, m10, m11, m12⟩, h3, h4, ⟨t1, t2, t3⟩, h6, h7⟩ := H
    have hC1 := hM.1.1
    obtain ⟨r1, r2⟩ := rAdvM hB hM m9 h3 c.1.1 c.1.2.2 c.2.1 c.2.2 g q k (mC m - 1) (-1) a (by omega) m8
    obtain ⟨v1, ⟨v2, v3⟩, v4, v5⟩ := rAdvV hM m9 m11 m8 c.1.1 c.1.2.2 c.2.1 c.2.2 h3 g q k (mC m - 1) 1 u g q k (by omega) (by omega) hB h3 hI hK
    rw [e1, if_pos c, if_pos c, if_pos rfl, if_pos rfl, if_pos rfl, if_pos rfl, mAdv_thr, t1, h3.1.1]
    obtain ⟨-, ⟨g1, g2, -, g4⟩, -, g6, g7, g8, -⟩ := H2
    rw [if_pos c] at g1 g4 g7
    rw [if_pos c]
    exact ⟨fun _ => v1.trans r1.symm, ⟨v2, v4, hH, v5⟩, ⟨g1, g2, tInst_base r2 (fun e => by cases e) (by omega) (by omega), g4⟩, rCave_same v3 0 _ _, g6, g7, g8, rfl⟩
  · have e1 : ¬ xAdv w b y d = 0 := fun h => by
      rw [show xAdv w b y d = 1 from if_neg c] at h; exact absurd h (by decide)
    rw [if_neg e1, if_neg e1, if_neg e1, if_neg e1]
    refine ⟨fun h => absurd h e1, ?_⟩
    rw [if_neg c] at H2 ⊢
    rw [if_neg c]
    exact H2
theorem q_inOrder (H : rAll n cv g q u h k m s a) : nI (if hIn h then 1 else 0) = nI (if tIn s then 1 else 0) ∧ rAll (n + 1) cv g q u h k (mThr 0 m) s a := by
  have e : hIn h ↔ tIn s := by
    show (0 < hPl h ∧ hOr h = hPl h) ↔ (0 < tPl s ∧ tOr s = tPl s)
    rw [H.2.2.2.1.1.2.2.1, H.2.2.2.1.1.2.2.2]
  exact ⟨congrArg nI (if_eqN e), rAll_thr H (by omega)⟩
theorem q_mean (H : rAll n cv g q u h k m s a) : hMean h = mMean s ∧ rAll (n + 1) cv g q u h k (mThr 0 m) s a := ⟨rMean H.2.2.2.1, rAll_thr H (by omega)⟩
theorem q_digest (H : rAll n cv g q u h k m s a) : vDigest cv u h = mDigest (mThr 0 m) s ∧ rAll (n + 1) cv g q u h k (mThr 0 m) s a := ⟨by rw [mDigest_thr]; exact rDigest H.2.1.1 H.2.2.1 H.2.2.2.1 H.2.2.2.2.1, rAll_thr H (by omega)⟩
theorem q_none (H : rAll n cv g q u h k m s a) : rAll (n + 1) cv g q u h k m s a := by
  obtain ⟨h1, ⟨m1, m2, m3, m4, m5, m6, m7⟩, h2⟩ := H
  exact ⟨h1, ⟨m1, m2, m3, m4, m5, m6, Nat.le_succ_of_le m7⟩, h2⟩
end QC
