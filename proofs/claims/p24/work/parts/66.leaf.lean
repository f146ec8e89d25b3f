/-! ===== the law's leaves: below, cell, word ===== -/
theorem hd_L_below : yL_below.cls ≠ "java/lang/invoke/MethodHandle" ∧ yL_below.cls ≠ "java/lang/invoke/VarHandle" ∧ (parseMethodDescriptor yL_below.desc).map (fun d => d.parameters.length) = some 2 := by decide +kernel
theorem hd_L_cell : yL_cell.cls ≠ "java/lang/invoke/MethodHandle" ∧ yL_cell.cls ≠ "java/lang/invoke/VarHandle" ∧ (parseMethodDescriptor yL_cell.desc).map (fun d => d.parameters.length) = some 2 := by decide +kernel
theorem hd_L_word : yL_word.cls ≠ "java/lang/invoke/MethodHandle" ∧ yL_word.cls ≠ "java/lang/invoke/VarHandle" ∧ (parseMethodDescriptor yL_word.desc).map (fun d => d.parameters.length) = some 1 := by decide +kernel
theorem hd_L_cave : yL_cave.cls ≠ "java/lang/invoke/MethodHandle" ∧ yL_cave.cls ≠ "java/lang/invoke/VarHandle" ∧ (parseMethodDescriptor yL_cave.desc).map (fun d => d.parameters.length) = some 1 := by decide +kernel
abbrev rm_L_below : Room := { frames := 1, cells := 0, slots := 0, locals := 12 }
theorem c_L_below (l : Launch) (D : va_G) (cI cJ cR : ClassId) (x9 : Int32) (n : Nat) (h0 : 0 < n) (hn : n < 2147483648) : ek_R l yL_below wsL_below rm_L_below D (tyW cI cJ cR) nestW [.int x9, .int (nI n)] [] (fun r9 => ∃ v : Int32, r9 = some (.int v) ∧ ∃ r, r < n ∧ v = nI r) := by
  refine ek_R.of (cc := cL_below) (maxL := 2) (ret := some .int) (by decide) rfl (Nat.le_of_ble_eq_true rfl) ?_
  intro p9 e9 s9 m9 args9 below9 meth9 c9 X
  obtain ⟨x, hx, rfl⟩ := wb_of32 x9
  refine ek_castL (lv' := [(0, .int (nI x)), (1, .int (nI n))]) rfl ?_
  refine ek_iln X 0 rfl dL_below_0 ?_
  refine ek_ldc (v := 2147483647) X (List.mem_of_getElem? (i := 1) rfl) dL_below_1 ?_
  refine ek_top (v' := nI (2 ^ 31 - 1)) (by decide) ?_
  refine ek_and X dL_below_3 ?_
  refine ek_top (v' := nI (x % 2 ^ 31)) (fa_mask x 31) ?_
  refine ek_iln X 1 rfl dL_below_4 ?_
  refine ek_Nrem X (Nat.mod_lt _ (by decide)) h0 hn dL_below_5 ?_
  exact ek_retiR X ⟨_, rfl, _, Nat.mod_lt _ h0, rfl⟩ dL_below_6
abbrev rm_L_cell : Room := { frames := 1, cells := 0, slots := 0, locals := 12 }
theorem c_L_cell (l : Launch) (D : va_G) (cI cJ cR : ClassId) (b L : Nat) (xs : Nat → Int32) (hL : L < 2147483648) (k : Nat) (hk : k < 2147483648) : ek_RS l yL_cell wsL_cell rm_L_cell D (tyW cI cJ cR) nestW [.ref b, .int (nI k)] b L xs (fun r9 => ∃ v : Int32, r9 = some (.int v) ∧ True) := by
  refine ek_RS.of (cc := cL_cell) (maxL := 2) (ret := some .int) hL (by decide) rfl (Nat.le_of_ble_eq_true rfl) ?_
  intro p9 e9 s9 m9 args9 below9 meth9 c9 X hS9
  refine ek_castL (lv' := [(0, .ref b), (1, .int (nI k))]) rfl ?_
  refine ek_iln X 1 rfl dL_cell_0 ?_
  refine ek_aln X 0 rfl dL_cell_1 ?_
  refine ek_slen X hS9 dL_cell_2 ?_
  refine ek_Nge X hk hL 12 (by decide) dL_cell_3 (fun _ => ?_) (fun hlt => ?_)
  · refine ek_ldc (v := 790386105) X (List.mem_of_getElem? (i := 1) rfl) dL_cell_12 ?_
    refine ek_iln X 1 rfl dL_cell_14 ?_
    refine ek_ic (v := nI 3) X (by decide) dL_cell_15 ?_
    refine ek_Nadd X dL_cell_16 ?_
    refine ek_mul X dL_cell_17 ?_
    exact ek_retiR X ⟨_, rfl, trivial⟩ dL_cell_18
  · refine ek_aln X 0 rfl dL_cell_6 ?_
    refine ek_iln X 1 rfl dL_cell_7 ?_
    refine ek_sld X hS9 hlt dL_cell_8 ?_
    refine ek_goto X 18 (by decide) dL_cell_9 ?_
    exact ek_retiR X ⟨_, rfl, trivial⟩ dL_cell_18
/-- a row of c digits, 1 to 9 each -/
def wR : Nat → Nat → Prop
  | 0, n => n = 0
  | c + 1, n => wR c (n / 10) ∧ 1 ≤ n % 10
theorem wR_lt : ∀ c n, wR c n → n < 10 ^ c
  | 0, n, h => by
    have h0 : n = 0 := h
    rw [h0]
    decide
  | c + 1, n, h => by
    have := wR_lt c (n / 10) h.1
    rw [Nat.pow_succ]
    omega
theorem wR_dig : ∀ c n i, wR c n → i < c → 1 ≤ n / 10 ^ i % 10
  | 0, n, i, _, hi => absurd hi (Nat.not_lt_zero i)
  | c + 1, n, 0, h, _ => by
    rw [Nat.pow_zero, Nat.div_one]
    exact h.2
  | c + 1, n, i + 1, h, hi => by
    have := wR_dig c (n / 10) i h.1 (by omega)
    rw [Nat.pow_succ, Nat.mul_comm, ← Nat.div_div_eq_div_mul]
    exact this
theorem dgs_low : ∀ f c n, n < 10 ^ c → dgs f n ≤ c
  | 0, c, n, _ => Nat.zero_le c
  | f + 1, 0, n, h => by
    have h0 : n = 0 := by
      rw [Nat.pow_zero] at h
      omega
    rw [h0]
    exact Nat.le_refl 0
  | f + 1, c + 1, n, h => by
    rw [Nat.pow_succ] at h
    have := dgs_low f c (n / 10) (by omega)
    unfold dgs
    split <;> omega
theorem wR_ok {c n : Nat} (h : wR (c + 1) n) (hc : c + 1 ≤ 6) : wdOk n := by
  have h1 := wR_lt _ _ h
  have h2 : 10 ^ (c + 1) ≤ 10 ^ 6 := Nat.pow_le_pow_right (by decide) hc
  have h3 := h.2
  have h4 : (10 : Nat) ^ 6 = 1000000 := by decide
  exact ⟨⟨by omega, by omega⟩, fun i hi => wR_dig _ _ i h (Nat.lt_of_lt_of_le hi (dgs_low 6 _ _ h1))⟩
theorem pW_dec : ∀ i, nI i + Int32.ofInt (-1) = pW i
  | 0 => by decide
  | i + 1 => by
    rw [show Int32.ofInt (-1) = -1 by decide]
    exact (sb_m1 (Nat.succ_pos i)).trans (by show nI (i + 1 - 1) = if i + 1 = 0 then -1 else nI (i + 1 - 1); rw [if_neg (Nat.succ_ne_zero i)])
abbrev rm_L_word : Room := { frames := 2, cells := 0, slots := 0, locals := 33 }
set_option maxHeartbeats 4000000 in
theorem c_L_word (l : Launch) (D : va_G) (cI cJ cR : ClassId) (x9 : Int32) : ek_R l yL_word wsL_word rm_L_word D (tyW cI cJ cR) nestW [.int x9] [] (fun r9 => ∃ v : Int32, r9 = some (.int v) ∧ ∃ w, wdOk w ∧ v = nI w) := by
  refine ek_R.of (cc := cL_word) (maxL := 3) (ret := some .int) (by decide) rfl (Nat.le_of_ble_eq_true rfl) ?_
  intro p9 e9 s9 m9 args9 below9 meth9 c9 X
  refine ek_castL (lv' := [(0, .int x9)]) rfl ?_
  refine ek_ic (v := nI 0) X (by decide) dL_word_0 ?_
  refine ek_isn (lv' := [(1, .int (nI 0)), (0, .int x9)]) X (by decide) rfl dL_word_1 ?_
  refine ek_iln X 1 rfl dL_word_2 ?_
  refine ek_bp (v := nI 6) X (by decide) dL_word_3 ?_
  refine ek_doRi (ek_runS (As := [.int x9, .int (nI 6)]) (rest := []) X (c_L_below l D cI cJ cR x9 6 (by decide) (by decide)) gL_word_L_below rfl hd_L_below ⟨Nat.le_of_ble_eq_true rfl, Nat.le_of_ble_eq_true rfl⟩ ⟨Nat.le_of_ble_eq_true rfl, Nat.le_of_ble_eq_true rfl⟩ [] rfl (by decide) (Nat.le_of_ble_eq_true rfl) dL_word_5) (fun v hv => ?_)
  obtain ⟨r, hr, rfl⟩ := hv
  refine ek_isn (lv' := [(2, .int (nI r)), (1, .int (nI 0)), (0, .int x9)]) X (by decide) rfl dL_word_8 ?_
  refine ek_castL (lv' := [(2, .int (pW (r + 1))), (1, .int (nI 0)), (0, .int x9)]) (by rw [show pW (r + 1) = nI r from (if_neg (Nat.succ_ne_zero r)).trans rfl]) ?_
  refine ek_loopAt (σ := Nat × Nat) (fun z => ∃ c, c + z.1 = r + 1 ∧ wR c z.2) (fun z => z.1) (fun _ => []) (fun z => [(2, .int (pW z.1)), (1, .int (nI z.2)), (0, .int x9)]) ?_ (r + 1, 0) ⟨0, by omega, rfl⟩ rfl [0, 1, 2] rfl
  rintro ⟨j, row⟩ ⟨c, hc, hw⟩ IH
  dsimp only at hc hw IH ⊢
  cases j with
  | zero =>
    refine ek_iln X 0 rfl dL_word_9 ?_
    refine ek_if_lt X 54 (by decide) dL_word_10 (fun _ => ?_) (fun h => absurd (show (-1 : Int32) < 0 by decide) h)
    refine ek_iln X 1 rfl dL_word_54 ?_
    have hc2 : c = r + 1 := by omega
    subst hc2
    exact ek_retiR X ⟨_, rfl, row, wR_ok hw (by omega), rfl⟩ dL_word_55
  | succ i =>
    refine ek_castL (lv' := [(2, .int (nI i)), (1, .int (nI row)), (0, .int x9)]) (by rw [show pW (i + 1) = nI i from (if_neg (Nat.succ_ne_zero i)).trans rfl]) ?_
    refine ek_iln X 0 rfl dL_word_9 ?_
    refine ek_Zlt X (by omega) 54 (by decide) dL_word_10 (fun h => h.elim) (fun _ => ?_)
    refine ek_bp (v := nI 10) X (by decide) dL_word_13 ?_
    refine ek_iln X 1 rfl dL_word_15 ?_
    refine ek_Nmul X dL_word_16 ?_
    refine ek_ic (v := nI 1) X (by decide) dL_word_17 ?_
    refine ek_Nadd X dL_word_18 ?_
    refine ek_iln X 2 rfl dL_word_19 ?_
    refine ek_ic (v := nI 3) X (by decide) dL_word_20 ?_
    refine ek_iln X 0 rfl dL_word_21 ?_
    refine ek_Nmul X dL_word_22 ?_
    refine ek_ic (v := nI 2) X (by decide) dL_word_23 ?_
    refine ek_Nadd X dL_word_24 ?_
    refine ek_shr X dL_word_25 ?_
    refine ek_iln X 2 rfl dL_word_26 ?_
    refine ek_bp (v := nI 20) X (by decide) dL_word_27 ?_
    refine ek_shr X dL_word_29 ?_
    refine ek_ic (v := nI 4) X (by decide) dL_word_30 ?_
    have tail : ∀ (y9 : Int32) (n : Nat), 0 < n → n ≤ 9 → ek_G p9 l e9 rm_L_word s9 m9 args9 below9 meth9 c9 3 D (fun _ => False) (fun _ => True) 0 0 (ek_Er (fun r9 => ∃ v : Int32, r9 = some (.int v) ∧ ∃ w, wdOk w ∧ v = nI w) below9 args9 s9 rm_L_word.cells rm_L_word.slots) [] 43 [(2, .int (nI i)), (1, .int (nI row)), (0, .int x9)] [.int (nI n), .int y9, .int (nI (10 * row + 1))] := by
      intro y9 n h0 h9
      refine ek_doRi (ek_runS (As := [.int y9, .int (nI n)]) (rest := [.int (nI (10 * row + 1))]) X (c_L_below l D cI cJ cR y9 n h0 (by omega)) gL_word_L_below rfl hd_L_below ⟨Nat.le_of_ble_eq_true rfl, Nat.le_of_ble_eq_true rfl⟩ ⟨Nat.le_of_ble_eq_true rfl, Nat.le_of_ble_eq_true rfl⟩ [] rfl (by decide) (Nat.le_of_ble_eq_true rfl) dL_word_43) (fun v hv => ?_)
      obtain ⟨r2, hr2, rfl⟩ := hv
      refine ek_Nadd X dL_word_46 ?_
      refine ek_isn (lv' := [(1, .int (nI (10 * row + 1 + r2))), (2, .int (nI i)), (0, .int x9)]) X (by decide) rfl dL_word_47 ?_
      refine ek_inc (j := 1) (v := pW i) (lv' := [(2, .int (pW i)), (1, .int (nI (10 * row + 1 + r2))), (0, .int x9)]) X rfl (pW_dec i) (by decide) rfl dL_word_48 ?_
      refine ek_goto X 9 (by decide) dL_word_51 ?_
      refine IH (i, 10 * row + 1 + r2) ⟨c + 1, by show c + 1 + i = r + 1; omega, ?_⟩ (by show i < i + 1; omega)
      exact ⟨by rw [show (10 * row + 1 + r2) / 10 = row by omega]; exact hw, by show 1 ≤ (10 * row + 1 + r2) % 10; omega⟩
    refine ek_doRi (ek_runS (As := [.int (x9 >>> (nI 20 &&& 31)), .int (nI 4)]) (rest := [.int (x9 >>> (nI (3 * i + 2) &&& 31)), .int (nI (10 * row + 1))]) X (c_L_below l D cI cJ cR _ 4 (by decide) (by decide)) gL_word_L_below rfl hd_L_below ⟨Nat.le_of_ble_eq_true rfl, Nat.le_of_ble_eq_true rfl⟩ ⟨Nat.le_of_ble_eq_true rfl, Nat.le_of_ble_eq_true rfl⟩ [] rfl (by decide) (Nat.le_of_ble_eq_true rfl) dL_word_31) (fun v hv => ?_)
    obtain ⟨r1, hr1, rfl⟩ := hv
    refine ek_Zne X (by omega) 42 (by decide) dL_word_34 (fun _ => ?_) (fun _ => ?_)
    · refine ek_ic (v := nI 3) X (by decide) dL_word_42 ?_
      exact tail _ 3 (by decide) (by decide)
    · refine ek_bp (v := nI 9) X (by decide) dL_word_37 ?_
      refine ek_goto X 43 (by decide) dL_word_39 ?_
      exact tail _ 9 (by decide) (by decide)
