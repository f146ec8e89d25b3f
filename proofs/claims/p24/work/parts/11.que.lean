/-! ===== EchoCave.Comings ===== -/
theorem sh_and (k : Nat) (hk : k < 32) : ((nI k &&& 31).toBitVec.smod 32).toNat = k := by
  have h : ∀ k : Fin 32, ((nI k.val &&& 31).toBitVec.smod 32).toNat = k.val := by decide +kernel
  exact h ⟨k, hk⟩
theorem nI_tb {n : Nat} (h : n < 4294967296) : (nI n).toBitVec.toNat = n := pk_tn h
theorem nI_inj {x : Int32} {n : Nat} (h : x.toBitVec.toNat = n) : x = nI n := by
  rw [← Int32.toBitVec_inj]
  apply BitVec.eq_of_toNat_eq
  have h2 : n < 4294967296 := by rw [← h]; exact x.toBitVec.isLt
  rw [h, nI_tb h2]
theorem nI_or {a b : Nat} (k : Nat) (hb : b < 2 ^ k) (ha : a % 2 ^ k = 0) (h : a + b < 4294967296) : nI a ||| nI b = nI (a + b) := by
  apply nI_inj
  rw [Int32.toBitVec_or, BitVec.toNat_or, nI_tb (by omega), nI_tb (by omega)]
  obtain ⟨c, rfl⟩ : ∃ c, a = 2 ^ k * c := ⟨a / 2 ^ k, by have := Nat.div_add_mod a (2 ^ k); omega⟩
  exact (Nat.two_pow_add_eq_or_of_lt hb c).symm
abbrev pkC (t c r b z : Nat) : Nat := t * 2097152 + c * 131072 + r * 4096 + b * 128 + z
theorem pk_val (t c r b z : Nat) (x : Int32) (ht : t ≤ 200) (hc : c < 16) (hr : r < 32) (hb : b < 32) (hz : z < 128) (hx : x + nI 1 = nI b) : (((((nI t <<< (nI 21 &&& 31)) ||| (nI c <<< (nI 17 &&& 31))) ||| (nI r <<< (nI 12 &&& 31))) ||| ((x + nI 1) <<< (nI 7 &&& 31))) ||| nI z) = nI (pkC t c r b z) := by
  rw [hx, pk_shlN _ 21 (sh_and 21 (by omega)) (by omega), pk_shlN _ 17 (sh_and 17 (by omega)) (by omega), pk_shlN _ 12 (sh_and 12 (by omega)) (by omega), pk_shlN _ 7 (sh_and 7 (by omega)) (by omega)]
  rw [nI_or 21 (by omega) (by omega) (by omega), nI_or 17 (by omega) (by omega) (by omega), nI_or 12 (by omega) (by omega) (by omega), nI_or 7 (by omega) (by omega) (by omega)]
theorem pk_and2 {n : Nat} (h : n < 2147483648) (k : Nat) {m : Nat} (hm : m = 2 ^ k - 1) (hm2 : m < 4294967296) : nI n &&& nI m = nI (n % 2 ^ k) := pk_andN (by omega) k (by rw [nI_tb hm2, hm])
theorem pk_shr2 {n : Nat} (h : n < 2147483648) (k : Nat) (hk : k < 32) : nI n >>> (nI k &&& 31) = nI (n / 2 ^ k) := pk_shrN h _ k (sh_and k hk)

abbrev rm_X1_pack : Room := { frames := 1, cells := 0, slots := 0, locals := 12 }
set_option maxHeartbeats 4000000 in
set_option maxRecDepth 100000 in
theorem c_X1_pack (l : Launch) (D : va_G) (cI cJ cR : ClassId) (t c r b z : Nat) (x : Int32) (ht : t ≤ 200) (hc : c < 16) (hr : r < 32) (hb : b < 32) (hz : z < 128) (hx : x + nI 1 = nI b) : ek_R l yX1_pack wsX1_pack rm_X1_pack D (tyW cI cJ cR) nestW [.int (nI t), .int (nI c), .int (nI r), .int x, .int (nI z)] ([]) (fun r9 => ∃ v : Int32, r9 = some (.int v) ∧ v = nI (pkC t c r b z)) := by
  refine ek_R.of (cc := cX1_pack) (maxL := 5) (ret := (some .int)) (by decide) rfl (Nat.le_of_ble_eq_true rfl) ?_
  intro p9 e9 s9 m9 args9 below9 meth9 c9 X
  refine ek_castL (lv' := [(0, .int (nI t)), (1, .int (nI c)), (2, .int (nI r)), (3, .int x), (4, .int (nI z))]) rfl ?_
  refine ek_iln X 0 rfl dX1_pack_0 ?_
  refine ek_bp (v := nI 21) X (by decide) dX1_pack_1 ?_
  refine ek_shl X dX1_pack_3 ?_
  refine ek_iln X 1 rfl dX1_pack_4 ?_
  refine ek_bp (v := nI 17) X (by decide) dX1_pack_5 ?_
  refine ek_shl X dX1_pack_7 ?_
  refine ek_or X dX1_pack_8 ?_
  refine ek_iln X 2 rfl dX1_pack_9 ?_
  refine ek_bp (v := nI 12) X (by decide) dX1_pack_10 ?_
  refine ek_shl X dX1_pack_12 ?_
  refine ek_or X dX1_pack_13 ?_
  refine ek_iln X 3 rfl dX1_pack_14 ?_
  refine ek_ic (v := nI 1) X (by decide) dX1_pack_15 ?_
  refine ek_add X dX1_pack_16 ?_
  refine ek_bp (v := nI 7) X (by decide) dX1_pack_17 ?_
  refine ek_shl X dX1_pack_19 ?_
  refine ek_or X dX1_pack_20 ?_
  refine ek_il X 4 rfl dX1_pack_21 ?_
  refine ek_or X dX1_pack_23 ?_
  exact ek_retiR X ⟨_, rfl, (pk_val t c r b z x ht hc hr hb hz hx)⟩ dX1_pack_24

abbrev rm_X1_timeOf : Room := { frames := 1, cells := 0, slots := 0, locals := 12 }
set_option maxHeartbeats 4000000 in
set_option maxRecDepth 100000 in
theorem c_X1_timeOf (l : Launch) (D : va_G) (cI cJ cR : ClassId) (x : Nat) (hx : x < 2147483648) : ek_R l yX1_timeOf wsX1_timeOf rm_X1_timeOf D (tyW cI cJ cR) nestW [.int (nI x)] ([]) (fun r9 => ∃ v : Int32, r9 = some (.int v) ∧ v = nI (x / 2 ^ 21)) := by
  refine ek_R.of (cc := cX1_timeOf) (maxL := 1) (ret := (some .int)) (by decide) rfl (Nat.le_of_ble_eq_true rfl) ?_
  intro p9 e9 s9 m9 args9 below9 meth9 c9 X
  refine ek_castL (lv' := [(0, .int (nI x))]) rfl ?_
  refine ek_iln X 0 rfl dX1_timeOf_0 ?_
  refine ek_bp (v := nI 21) X (by decide) dX1_timeOf_1 ?_
  refine ek_shr X dX1_timeOf_3 ?_
  exact ek_retiR X ⟨_, rfl, (pk_shr2 hx 21 (by omega))⟩ dX1_timeOf_4

abbrev rm_X1_chamberOf : Room := { frames := 1, cells := 0, slots := 0, locals := 12 }
set_option maxHeartbeats 4000000 in
set_option maxRecDepth 100000 in
theorem c_X1_chamberOf (l : Launch) (D : va_G) (cI cJ cR : ClassId) (x : Nat) (hx : x < 2147483648) : ek_R l yX1_chamberOf wsX1_chamberOf rm_X1_chamberOf D (tyW cI cJ cR) nestW [.int (nI x)] ([]) (fun r9 => ∃ v : Int32, r9 = some (.int v) ∧ v = nI (x / 2 ^ 17 % 2 ^ 4)) := by
  refine ek_R.of (cc := cX1_chamberOf) (maxL := 1) (ret := (some .int)) (by decide) rfl (Nat.le_of_ble_eq_true rfl) ?_
  intro p9 e9 s9 m9 args9 below9 meth9 c9 X
  refine ek_castL (lv' := [(0, .int (nI x))]) rfl ?_
  refine ek_iln X 0 rfl dX1_chamberOf_0 ?_
  refine ek_bp (v := nI 17) X (by decide) dX1_chamberOf_1 ?_
  refine ek_shr X dX1_chamberOf_3 ?_
  refine ek_top (v' := nI (x / 2 ^ 17)) (pk_shr2 hx 17 (by omega)) ?_
  refine ek_bp (v := nI 15) X (by decide) dX1_chamberOf_4 ?_
  refine ek_and X dX1_chamberOf_6 ?_
  exact ek_retiR X ⟨_, rfl, (pk_and2 (by omega) 4 rfl (by omega))⟩ dX1_chamberOf_7

abbrev rm_X1_runOf : Room := { frames := 1, cells := 0, slots := 0, locals := 12 }
set_option maxHeartbeats 4000000 in
set_option maxRecDepth 100000 in
theorem c_X1_runOf (l : Launch) (D : va_G) (cI cJ cR : ClassId) (x : Nat) (hx : x < 2147483648) : ek_R l yX1_runOf wsX1_runOf rm_X1_runOf D (tyW cI cJ cR) nestW [.int (nI x)] ([]) (fun r9 => ∃ v : Int32, r9 = some (.int v) ∧ v = nI (x / 2 ^ 12 % 2 ^ 5)) := by
  refine ek_R.of (cc := cX1_runOf) (maxL := 1) (ret := (some .int)) (by decide) rfl (Nat.le_of_ble_eq_true rfl) ?_
  intro p9 e9 s9 m9 args9 below9 meth9 c9 X
  refine ek_castL (lv' := [(0, .int (nI x))]) rfl ?_
  refine ek_iln X 0 rfl dX1_runOf_0 ?_
  refine ek_bp (v := nI 12) X (by decide) dX1_runOf_1 ?_
  refine ek_shr X dX1_runOf_3 ?_
  refine ek_top (v' := nI (x / 2 ^ 12)) (pk_shr2 hx 12 (by omega)) ?_
  refine ek_bp (v := nI 31) X (by decide) dX1_runOf_4 ?_
  refine ek_and X dX1_runOf_6 ?_
  exact ek_retiR X ⟨_, rfl, (pk_and2 (by omega) 5 rfl (by omega))⟩ dX1_runOf_7

abbrev rm_X1_passageOf : Room := { frames := 1, cells := 0, slots := 0, locals := 12 }
set_option maxHeartbeats 4000000 in
set_option maxRecDepth 100000 in
theorem c_X1_passageOf (l : Launch) (D : va_G) (cI cJ cR : ClassId) (x : Nat) (hx : x < 2147483648) : ek_R l yX1_passageOf wsX1_passageOf rm_X1_passageOf D (tyW cI cJ cR) nestW [.int (nI x)] ([]) (fun r9 => ∃ v : Int32, r9 = some (.int v) ∧ v = nI (x / 2 ^ 7 % 2 ^ 5) - nI 1) := by
  refine ek_R.of (cc := cX1_passageOf) (maxL := 1) (ret := (some .int)) (by decide) rfl (Nat.le_of_ble_eq_true rfl) ?_
  intro p9 e9 s9 m9 args9 below9 meth9 c9 X
  refine ek_castL (lv' := [(0, .int (nI x))]) rfl ?_
  refine ek_iln X 0 rfl dX1_passageOf_0 ?_
  refine ek_bp (v := nI 7) X (by decide) dX1_passageOf_1 ?_
  refine ek_shr X dX1_passageOf_3 ?_
  refine ek_top (v' := nI (x / 2 ^ 7)) (pk_shr2 hx 7 (by omega)) ?_
  refine ek_bp (v := nI 31) X (by decide) dX1_passageOf_4 ?_
  refine ek_and X dX1_passageOf_6 ?_
  refine ek_top (v' := nI (x / 2 ^ 7 % 2 ^ 5)) (pk_and2 (by omega) 5 rfl (by omega)) ?_
  refine ek_ic (v := nI 1) X (by decide) dX1_passageOf_7 ?_
  refine ek_sub X dX1_passageOf_8 ?_
  exact ek_retiR X ⟨_, rfl, rfl⟩ dX1_passageOf_9

abbrev rm_X1_strengthOf : Room := { frames := 1, cells := 0, slots := 0, locals := 12 }
set_option maxHeartbeats 4000000 in
set_option maxRecDepth 100000 in
theorem c_X1_strengthOf (l : Launch) (D : va_G) (cI cJ cR : ClassId) (x : Nat) (hx : x < 2147483648) : ek_R l yX1_strengthOf wsX1_strengthOf rm_X1_strengthOf D (tyW cI cJ cR) nestW [.int (nI x)] ([]) (fun r9 => ∃ v : Int32, r9 = some (.int v) ∧ v = nI (x % 2 ^ 7)) := by
  refine ek_R.of (cc := cX1_strengthOf) (maxL := 1) (ret := (some .int)) (by decide) rfl (Nat.le_of_ble_eq_true rfl) ?_
  intro p9 e9 s9 m9 args9 below9 meth9 c9 X
  refine ek_castL (lv' := [(0, .int (nI x))]) rfl ?_
  refine ek_iln X 0 rfl dX1_strengthOf_0 ?_
  refine ek_bp (v := nI 127) X (by decide) dX1_strengthOf_1 ?_
  refine ek_and X dX1_strengthOf_3 ?_
  exact ek_retiR X ⟨_, rfl, (pk_and2 (by omega) 7 rfl (by omega))⟩ dX1_strengthOf_4

abbrev qOk (q : QueT) : Prop := qN q ≤ 629 ∧ ∀ j, qH q j < 2147483648
def qUp : Nat → (Nat → Nat) → Nat → Nat → Nat → Nat
  | 0, h, t, x => eN h t x
  | f + 1, h, t, x => if 0 < t ∧ x < h ((t - 1) / 2) then qUp f (eN h t (h ((t - 1) / 2))) ((t - 1) / 2) x else eN h t x
def qPut (q : QueT) (x : Nat) : QueT := (qN q + 1, qUp (qN q) (qH q) (qN q) x)
abbrev qSon (n : Nat) (h : Nat → Nat) (t : Nat) : Nat := if 2 * t + 1 + 1 < n ∧ h (2 * t + 1 + 1) < h (2 * t + 1) then 2 * t + 1 + 1 else 2 * t + 1
def qSink (n : Nat) : Nat → (Nat → Nat) → Nat → Nat → Nat → Nat
  | 0, h, t, x => eN h t x
  | f + 1, h, t, x => if 2 * t + 1 < n then (if x < h (qSon n h t) then eN h t x else qSink n f (eN h t (h (qSon n h t))) (qSon n h t) x) else eN h t x
theorem qSink_s (n f : Nat) (h : Nat → Nat) (t x : Nat) : qSink n (f + 1) h t x = if 2 * t + 1 < n then (if x < h (qSon n h t) then eN h t x else qSink n f (eN h t (h (qSon n h t))) (qSon n h t) x) else eN h t x := rfl
def qTake (q : QueT) : QueT := (qN q - 1, qSink (qN q - 1) (qN q - 1) (qH q) 0 (qH q (qN q - 1)))
theorem eN_lt {h : Nat → Nat} {t v M : Nat} (h1 : ∀ j, h j < M) (h2 : v < M) (j : Nat) : eN h t v j < M := by
  by_cases hj : j = t
  · subst hj; rw [eN_self]; exact h2
  · rw [eN_ne _ _ hj]; exact h1 j

theorem hin_X1_clear_X1 : ∀ x ∈ wsX10, x ∈ wsX1_clear := fun x h => List.mem_cons_of_mem _ (List.mem_append_right _ h)
abbrev rm_X1_clear : Room := { frames := 1, cells := 0, slots := 0, locals := 12 }
set_option maxHeartbeats 4000000 in
set_option maxRecDepth 100000 in
theorem c_X1_clear (l : Launch) (D : va_G) (cI cJ cR : ClassId) (ad : Nat → Nat) (q : QueT) : ek_M (S := Unit) l yX1_clear wsX1_clear rm_X1_clear D (tyW cI cJ cR) nestW [.ref (ad 30)] (wQ ad cI q) (fun r9 _ => r9 = none ∧ True) (fun _ => wQ ad cI (0, qH q)) := by
  refine ek_M.of (cc := cX1_clear) (maxL := 1) (ret := none) (by decide) rfl (Nat.le_of_ble_eq_true rfl) ?_
  intro p9 e9 s9 m9 args9 below9 meth9 c9 A X hin
  refine ek_castL (lv' := [(0, .ref (ad 30))]) rfl ?_
  refine ek_aln X 0 rfl dX1_clear_0 ?_
  refine ek_ic (v := nI 0) X (by decide) dX1_clear_1 ?_
  refine ek_put (w' := wQ ad cI (0, qH q)) X hin_X1_clear_X1 tyX1 tyX1_ok nmX1 0 rfl rfl 1 (by decide) (List.mem_of_getElem? (i := 1) rfl) rfl rfl rfl rfl (Nat.le_of_ble_eq_true rfl) rfl dX1_clear_2 ?_
  exact ek_retv X () ⟨rfl, trivial⟩ rfl dX1_clear_5

theorem hin_X1_isEmpty_X1 : ∀ x ∈ wsX10, x ∈ wsX1_isEmpty := fun x h => List.mem_cons_of_mem _ (List.mem_append_right _ h)
abbrev rm_X1_isEmpty : Room := { frames := 1, cells := 0, slots := 0, locals := 12 }
set_option maxHeartbeats 4000000 in
set_option maxRecDepth 100000 in
theorem c_X1_isEmpty (l : Launch) (D : va_G) (cI cJ cR : ClassId) (ad : Nat → Nat) (q : QueT) (hq : qOk q) : ek_R l yX1_isEmpty wsX1_isEmpty rm_X1_isEmpty D (tyW cI cJ cR) nestW [.ref (ad 30)] (wQ ad cI q) (fun r9 => ∃ v : Int32, r9 = some (.int v) ∧ v = nI (if qN q = 0 then 1 else 0)) := by
  refine ek_R.of (cc := cX1_isEmpty) (maxL := 1) (ret := (some .boolean)) (by decide) rfl (Nat.le_of_ble_eq_true rfl) ?_
  intro p9 e9 s9 m9 args9 below9 meth9 c9 X
  obtain ⟨hq1, hq2⟩ := id hq
  refine ek_castL (lv' := [(0, .ref (ad 30))]) rfl ?_
  refine ek_aln X 0 rfl dX1_isEmpty_0 ?_
  refine ek_get X hin_X1_isEmpty_X1 0 rfl rfl 1 (by decide) (List.mem_of_getElem? (i := 1) rfl) rfl dX1_isEmpty_1 ?_
  refine ek_Zne X (by omega) 11 (by decide) dX1_isEmpty_4 (fun c_4 => ?_) (fun c_4 => ?_)
  · skip
    refine ek_ic (v := nI 0) X (by decide) dX1_isEmpty_11 ?_
    exact ek_retzR X (by decide) ⟨_, rfl, (by first | exact (congrArg nI (if_pos (by omega))).symm | exact (congrArg nI (if_neg (by omega))).symm)⟩ dX1_isEmpty_12
  · skip
    refine ek_ic (v := nI 1) X (by decide) dX1_isEmpty_7 ?_
    refine ek_goto X 12 (by decide) dX1_isEmpty_8 ?_
    exact ek_retzR X (by decide) ⟨_, rfl, (by first | exact (congrArg nI (if_pos (by omega))).symm | exact (congrArg nI (if_neg (by omega))).symm)⟩ dX1_isEmpty_12

theorem hin_X1_put_X1 : ∀ x ∈ wsX10, x ∈ wsX1_put := fun x h => List.mem_cons_of_mem _ (List.mem_append_right _ h)
abbrev rm_X1_put : Room := { frames := 1, cells := 0, slots := 0, locals := 12 }
set_option maxHeartbeats 4000000 in
set_option maxRecDepth 100000 in
theorem c_X1_put (l : Launch) (D : va_G) (cI cJ cR : ClassId) (ad : Nat → Nat) (q : QueT) (x : Nat) (hq : qOk q) (hs : qN q < 629) (hx : x < 2147483648) : ek_M (S := Unit) l yX1_put wsX1_put rm_X1_put D (tyW cI cJ cR) nestW [.ref (ad 30), .int (nI x)] (wQ ad cI q) (fun r9 _ => r9 = none ∧ True) (fun _ => wQ ad cI (qPut q x)) := by
  refine ek_M.of (cc := cX1_put) (maxL := 3) (ret := none) (by decide) rfl (Nat.le_of_ble_eq_true rfl) ?_
  intro p9 e9 s9 m9 args9 below9 meth9 c9 A X hin
  obtain ⟨hq1, hq2⟩ := id hq
  refine ek_castL (lv' := [(0, .ref (ad 30)), (1, .int (nI x))]) rfl ?_
  refine ek_aln X 0 rfl dX1_put_0 ?_
  refine ek_get X hin_X1_put_X1 0 rfl rfl 1 (by decide) (List.mem_of_getElem? (i := 1) rfl) rfl dX1_put_1 ?_
  refine ek_aln X 0 rfl dX1_put_4 ?_
  refine ek_get X hin_X1_put_X1 0 rfl rfl 0 (by decide) (List.mem_of_getElem? (i := 2) rfl) rfl dX1_put_5 ?_
  refine ek_alen X 1 0 rfl rfl dX1_put_8 ?_
  refine ek_Nlt X (by omega) (by omega) 13 (by decide) dX1_put_9 (fun c_9 => ?_) (fun c_9 => ?_)
  · skip
    refine ek_aln X 0 rfl dX1_put_13 ?_
    refine ek_get X hin_X1_put_X1 0 rfl rfl 1 (by decide) (List.mem_of_getElem? (i := 1) rfl) rfl dX1_put_14 ?_
    refine ek_isn (lv' := [(2, .int (nI (qN q))), (0, .ref (ad 30)), (1, .int (nI x))]) X (by decide) rfl dX1_put_17 ?_
    refine ek_aln X 1 rfl dX1_put_18 ?_
    refine ek_dup X rfl dX1_put_19 ?_
    refine ek_get X hin_X1_put_X1 0 rfl rfl 1 (by decide) (List.mem_of_getElem? (i := 1) rfl) rfl dX1_put_20 ?_
    refine ek_ic (v := nI 1) X (by decide) dX1_put_23 ?_
    refine ek_Nadd X dX1_put_24 ?_
    refine ek_put (w' := wQ ad cI ((qN q) + 1, qH q)) X hin_X1_put_X1 tyX1 tyX1_ok nmX1 0 rfl rfl 1 (by decide) (List.mem_of_getElem? (i := 1) rfl) rfl rfl rfl rfl (Nat.le_of_ble_eq_true rfl) rfl dX1_put_25 ?_
    refine ek_loopAt (σ := Nat × (Nat → Nat)) (fun zz => (fun (t : Nat) (h : Nat → Nat) => t ≤ qN q ∧ (∀ j, h j < 2147483648) ∧ ∃ f, t ≤ f ∧ qUp f h t x = qUp (qN q) (qH q) (qN q) x) zz.1 zz.2) (fun zz => (fun (t : Nat) (h : Nat → Nat) => t) zz.1 zz.2) (fun zz => (fun (t : Nat) (h : Nat → Nat) => wQ ad cI ((qN q) + 1, h)) zz.1 zz.2) (fun zz => (fun (t : Nat) (h : Nat → Nat) => [(0, .ref (ad 30)), (1, .int (nI x)), (2, .int (nI t))]) zz.1 zz.2) ?_ (qN q, qH q) ⟨Nat.le_refl _, hq2, qN q, Nat.le_refl _, rfl⟩ rfl [1, 2, 0] rfl
    intro zz ha_28 ih_28
    obtain ⟨t, h⟩ := zz
    replace ha_28 : t ≤ qN q ∧ (∀ j, h j < 2147483648) ∧ ∃ f, t ≤ f ∧ qUp f h t x = qUp (qN q) (qH q) (qN q) x := ha_28
    refine ek_cast (w' := wQ ad cI ((qN q) + 1, h)) rfl ?_
    refine ek_castL (lv' := [(0, .ref (ad 30)), (1, .int (nI x)), (2, .int (nI t))]) rfl ?_
    have bh := ha_28.2.1 ((t - 1) / 2)
    refine ek_iln X 2 rfl dX1_put_28 ?_
    refine ek_Zle X (by omega) 71 (by decide) dX1_put_29 (fun c_29 => ?_) (fun c_29 => ?_)
    · skip
      refine ek_aln X 0 rfl dX1_put_71 ?_
      refine ek_get X hin_X1_put_X1 0 rfl rfl 0 (by decide) (List.mem_of_getElem? (i := 2) rfl) rfl dX1_put_72 ?_
      refine ek_iln X 2 rfl dX1_put_75 ?_
      refine ek_iln X 1 rfl dX1_put_76 ?_
      refine ek_Nast (w' := wQ ad cI ((qN q) + 1, eN h t x)) X 1 0 rfl rfl (by omega) (by omega) rfl dX1_put_77 ?_
      exact ek_retv X () ⟨rfl, trivial⟩ (by obtain ⟨h1, h2, f, h3, h4⟩ := ha_28; show _ = wQ ad cI (qN q + 1, qUp (qN q) (qH q) (qN q) x); rw [← h4]; cases f with | zero => rfl | succ f => unfold qUp; rw [if_neg (by omega)]) dX1_put_78
    · skip
      refine ek_aln X 0 rfl dX1_put_32 ?_
      refine ek_get X hin_X1_put_X1 0 rfl rfl 0 (by decide) (List.mem_of_getElem? (i := 2) rfl) rfl dX1_put_33 ?_
      refine ek_iln X 2 rfl dX1_put_36 ?_
      refine ek_ic (v := nI 1) X (by decide) dX1_put_37 ?_
      refine ek_Nsub X (by omega) dX1_put_38 ?_
      refine ek_ic (v := nI 2) X (by decide) dX1_put_39 ?_
      refine ek_Ndiv X (by omega) (by omega) (by omega) dX1_put_40 ?_
      refine ek_ald X 1 0 rfl rfl (by omega) (by omega) dX1_put_41 ?_
      refine ek_top (v' := nI (h ((t - 1) / 2))) rfl ?_
      refine ek_iln X 1 rfl dX1_put_42 ?_
      refine ek_Nle X (by omega) (by omega) 71 (by decide) dX1_put_43 (fun c_43 => ?_) (fun c_43 => ?_)
      · skip
        refine ek_aln X 0 rfl dX1_put_71 ?_
        refine ek_get X hin_X1_put_X1 0 rfl rfl 0 (by decide) (List.mem_of_getElem? (i := 2) rfl) rfl dX1_put_72 ?_
        refine ek_iln X 2 rfl dX1_put_75 ?_
        refine ek_iln X 1 rfl dX1_put_76 ?_
        refine ek_Nast (w' := wQ ad cI ((qN q) + 1, eN h t x)) X 1 0 rfl rfl (by omega) (by omega) rfl dX1_put_77 ?_
        exact ek_retv X () ⟨rfl, trivial⟩ (by obtain ⟨h1, h2, f, h3, h4⟩ := ha_28; show _ = wQ ad cI (qN q + 1, qUp (qN q) (qH q) (qN q) x); rw [← h4]; cases f with | zero => rfl | succ f => unfold qUp; rw [if_neg (by omega)]) dX1_put_78
      · skip
        refine ek_aln X 0 rfl dX1_put_46 ?_
        refine ek_get X hin_X1_put_X1 0 rfl rfl 0 (by decide) (List.mem_of_getElem? (i := 2) rfl) rfl dX1_put_47 ?_
        refine ek_iln X 2 rfl dX1_put_50 ?_
        refine ek_aln X 0 rfl dX1_put_51 ?_
        refine ek_get X hin_X1_put_X1 0 rfl rfl 0 (by decide) (List.mem_of_getElem? (i := 2) rfl) rfl dX1_put_52 ?_
        refine ek_iln X 2 rfl dX1_put_55 ?_
        refine ek_ic (v := nI 1) X (by decide) dX1_put_56 ?_
        refine ek_Nsub X (by omega) dX1_put_57 ?_
        refine ek_ic (v := nI 2) X (by decide) dX1_put_58 ?_
        refine ek_Ndiv X (by omega) (by omega) (by omega) dX1_put_59 ?_
        refine ek_ald X 1 0 rfl rfl (by omega) (by omega) dX1_put_60 ?_
        refine ek_top (v' := nI (h ((t - 1) / 2))) rfl ?_
        refine ek_Nast (w' := wQ ad cI ((qN q) + 1, eN h t (h ((t - 1) / 2)))) X 1 0 rfl rfl (by omega) (by omega) rfl dX1_put_61 ?_
        refine ek_iln X 2 rfl dX1_put_62 ?_
        refine ek_ic (v := nI 1) X (by decide) dX1_put_63 ?_
        refine ek_Nsub X (by omega) dX1_put_64 ?_
        refine ek_ic (v := nI 2) X (by decide) dX1_put_65 ?_
        refine ek_Ndiv X (by omega) (by omega) (by omega) dX1_put_66 ?_
        refine ek_isn (lv' := [(2, .int (nI ((t - 1) / 2))), (0, .ref (ad 30)), (1, .int (nI x))]) X (by decide) rfl dX1_put_67 ?_
        refine ek_goto X 28 (by decide) dX1_put_68 ?_
        refine ek_re [1, 2, 0] rfl ?_
        exact ih_28 ((t - 1) / 2, eN h t (h ((t - 1) / 2))) (show ((t - 1) / 2) ≤ qN q ∧ (∀ j, (eN h t (h ((t - 1) / 2))) j < 2147483648) ∧ ∃ f, ((t - 1) / 2) ≤ f ∧ qUp f (eN h t (h ((t - 1) / 2))) ((t - 1) / 2) x = qUp (qN q) (qH q) (qN q) x from (by obtain ⟨h1, h2, f, h3, h4⟩ := ha_28; obtain ⟨f, rfl⟩ : ∃ z, f = z + 1 := ⟨f - 1, by omega⟩; exact ⟨by omega, fun j => eN_lt h2 (h2 _) j, f, by omega, by rw [← h4]; exact (if_pos ⟨by omega, by omega⟩).symm⟩)) (by show (t - 1) / 2 < t; omega)
  · exact absurd hs (by omega)

theorem hin_X1_sink_X1 : ∀ x ∈ wsX10, x ∈ wsX1_sink := fun x h => List.mem_cons_of_mem _ (List.mem_append_right _ h)
abbrev rm_X1_sink : Room := { frames := 1, cells := 0, slots := 0, locals := 12 }
set_option maxHeartbeats 4000000 in
set_option maxRecDepth 100000 in
theorem c_X1_sink (l : Launch) (D : va_G) (cI cJ cR : ClassId) (ad : Nat → Nat) (q : QueT) (x : Nat) (hq : qOk q) (hs : qN q < 629) (hx : x < 2147483648) : ek_M (S := Unit) l yX1_sink wsX1_sink rm_X1_sink D (tyW cI cJ cR) nestW [.ref (ad 30), .int (nI x)] (wQ ad cI q) (fun r9 _ => r9 = none ∧ True) (fun _ => wQ ad cI (qN q, qSink (qN q) (qN q) (qH q) 0 x)) := by
  refine ek_M.of (cc := cX1_sink) (maxL := 4) (ret := none) (by decide) rfl (Nat.le_of_ble_eq_true rfl) ?_
  intro p9 e9 s9 m9 args9 below9 meth9 c9 A X hin
  obtain ⟨hq1, hq2⟩ := id hq
  refine ek_castL (lv' := [(0, .ref (ad 30)), (1, .int (nI x))]) rfl ?_
  refine ek_ic (v := nI 0) X (by decide) dX1_sink_0 ?_
  refine ek_isn (lv' := [(2, .int (nI 0)), (0, .ref (ad 30)), (1, .int (nI x))]) X (by decide) rfl dX1_sink_1 ?_
  refine ek_ic (v := nI 1) X (by decide) dX1_sink_2 ?_
  refine ek_isn (lv' := [(3, .int (nI 1)), (2, .int (nI 0)), (0, .ref (ad 30)), (1, .int (nI x))]) X (by decide) rfl dX1_sink_3 ?_
  refine ek_loopAt (σ := Nat × Nat × (Nat → Nat)) (fun zz => (fun (t : Nat) (k : Nat) (h : Nat → Nat) => k = 2 * t + 1 ∧ t < 629 ∧ (∀ j, h j < 2147483648) ∧ ∃ f, qN q ≤ t + f ∧ qSink (qN q) f h t x = qSink (qN q) (qN q) (qH q) 0 x) zz.1 zz.2.1 zz.2.2) (fun zz => (fun (t : Nat) (k : Nat) (h : Nat → Nat) => qN q - t) zz.1 zz.2.1 zz.2.2) (fun zz => (fun (t : Nat) (k : Nat) (h : Nat → Nat) => wQ ad cI (qN q, h)) zz.1 zz.2.1 zz.2.2) (fun zz => (fun (t : Nat) (k : Nat) (h : Nat → Nat) => [(0, .ref (ad 30)), (1, .int (nI x)), (2, .int (nI t)), (3, .int (nI k))]) zz.1 zz.2.1 zz.2.2) ?_ (0, 1, qH q) ⟨rfl, by omega, hq2, qN q, by omega, rfl⟩ rfl [2, 3, 1, 0] rfl
  intro zz ha_4 ih_4
  obtain ⟨t, k, h⟩ := zz
  replace ha_4 : k = 2 * t + 1 ∧ t < 629 ∧ (∀ j, h j < 2147483648) ∧ ∃ f, qN q ≤ t + f ∧ qSink (qN q) f h t x = qSink (qN q) (qN q) (qH q) 0 x := ha_4
  refine ek_cast (w' := wQ ad cI (qN q, h)) rfl ?_
  refine ek_castL (lv' := [(0, .ref (ad 30)), (1, .int (nI x)), (2, .int (nI t)), (3, .int (nI k))]) rfl ?_
  have bh := ha_4.2.2.1
  have bk := bh k
  have bk1 := bh (k + 1)
  have hk := ha_4.1
  refine ek_iln X 3 rfl dX1_sink_4 ?_
  refine ek_aln X 0 rfl dX1_sink_5 ?_
  refine ek_get X hin_X1_sink_X1 0 rfl rfl 1 (by decide) (List.mem_of_getElem? (i := 1) rfl) rfl dX1_sink_6 ?_
  refine ek_top (v' := nI (qN q)) rfl ?_
  refine ek_Nge X (by omega) (by omega) 78 (by decide) dX1_sink_9 (fun c_9 => ?_) (fun c_9 => ?_)
  · skip
    refine ek_aln X 0 rfl dX1_sink_78 ?_
    refine ek_get X hin_X1_sink_X1 0 rfl rfl 0 (by decide) (List.mem_of_getElem? (i := 2) rfl) rfl dX1_sink_79 ?_
    refine ek_iln X 2 rfl dX1_sink_82 ?_
    refine ek_iln X 1 rfl dX1_sink_83 ?_
    refine ek_Nast (w' := wQ ad cI (qN q, eN h t x)) X 1 0 rfl rfl (by omega) (by omega) rfl dX1_sink_84 ?_
    exact ek_retv X () ⟨rfl, trivial⟩ (by obtain ⟨h1, h1b, h2, f, h3, h4⟩ := ha_4; subst h1; show _ = wQ ad cI (qN q, qSink (qN q) (qN q) (qH q) 0 x); rw [← h4]; cases f with | zero => rfl | succ f => rw [qSink_s]; first | rw [if_neg (by omega)] | (rw [if_pos (by omega), show qSon (qN q) h t = 2 * t + 1 + 1 from if_pos ⟨by omega, by omega⟩, if_pos (by omega)]) | (rw [if_pos (by omega), show qSon (qN q) h t = 2 * t + 1 from if_neg (by omega), if_pos (by omega)])) dX1_sink_85
  · skip
    refine ek_iln X 3 rfl dX1_sink_12 ?_
    refine ek_ic (v := nI 1) X (by decide) dX1_sink_13 ?_
    refine ek_Nadd X dX1_sink_14 ?_
    refine ek_aln X 0 rfl dX1_sink_15 ?_
    refine ek_get X hin_X1_sink_X1 0 rfl rfl 1 (by decide) (List.mem_of_getElem? (i := 1) rfl) rfl dX1_sink_16 ?_
    refine ek_top (v' := nI (qN q)) rfl ?_
    refine ek_Nge X (by omega) (by omega) 42 (by decide) dX1_sink_19 (fun c_19 => ?_) (fun c_19 => ?_)
    · skip
      refine ek_aln X 0 rfl dX1_sink_42 ?_
      refine ek_get X hin_X1_sink_X1 0 rfl rfl 0 (by decide) (List.mem_of_getElem? (i := 2) rfl) rfl dX1_sink_43 ?_
      refine ek_iln X 3 rfl dX1_sink_46 ?_
      refine ek_ald X 1 0 rfl rfl (by omega) (by omega) dX1_sink_47 ?_
      refine ek_top (v' := nI (h k)) rfl ?_
      refine ek_iln X 1 rfl dX1_sink_48 ?_
      refine ek_Nle X (by omega) (by omega) 55 (by decide) dX1_sink_49 (fun c_49 => ?_) (fun c_49 => ?_)
      · skip
        refine ek_aln X 0 rfl dX1_sink_55 ?_
        refine ek_get X hin_X1_sink_X1 0 rfl rfl 0 (by decide) (List.mem_of_getElem? (i := 2) rfl) rfl dX1_sink_56 ?_
        refine ek_iln X 2 rfl dX1_sink_59 ?_
        refine ek_aln X 0 rfl dX1_sink_60 ?_
        refine ek_get X hin_X1_sink_X1 0 rfl rfl 0 (by decide) (List.mem_of_getElem? (i := 2) rfl) rfl dX1_sink_61 ?_
        refine ek_iln X 3 rfl dX1_sink_64 ?_
        refine ek_ald X 1 0 rfl rfl (by omega) (by omega) dX1_sink_65 ?_
        refine ek_top (v' := nI (h k)) rfl ?_
        refine ek_Nast (w' := wQ ad cI (qN q, eN h t (h k))) X 1 0 rfl rfl (by omega) (by omega) rfl dX1_sink_66 ?_
        refine ek_iln X 3 rfl dX1_sink_67 ?_
        refine ek_isn (lv' := [(2, .int (nI k)), (0, .ref (ad 30)), (1, .int (nI x)), (3, .int (nI k))]) X (by decide) rfl dX1_sink_68 ?_
        refine ek_ic (v := nI 2) X (by decide) dX1_sink_69 ?_
        refine ek_iln X 0 rfl dX1_sink_70 ?_
        refine ek_Nmul X dX1_sink_71 ?_
        refine ek_ic (v := nI 1) X (by decide) dX1_sink_72 ?_
        refine ek_Nadd X dX1_sink_73 ?_
        refine ek_isn (lv' := [(3, .int (nI ((2 * k) + 1))), (2, .int (nI k)), (0, .ref (ad 30)), (1, .int (nI x))]) X (by decide) rfl dX1_sink_74 ?_
        refine ek_goto X 4 (by decide) dX1_sink_75 ?_
        refine ek_re [2, 3, 1, 0] rfl ?_
        exact ih_4 (k, (2 * k) + 1, eN h t (h k)) (show ((2 * k) + 1) = 2 * k + 1 ∧ k < 629 ∧ (∀ j, (eN h t (h k)) j < 2147483648) ∧ ∃ f, qN q ≤ k + f ∧ qSink (qN q) f (eN h t (h k)) k x = qSink (qN q) (qN q) (qH q) 0 x from (by obtain ⟨h1, h1b, h2, f, h3, h4⟩ := ha_4; subst h1; obtain ⟨f, rfl⟩ : ∃ z, f = z + 1 := ⟨f - 1, by omega⟩; refine ⟨rfl, by omega, fun j => eN_lt h2 (h2 _) j, f, by omega, ?_⟩; rw [← h4, qSink_s, if_pos (by omega)]; first | (rw [show qSon (qN q) h t = 2 * t + 1 + 1 from if_pos ⟨by omega, by omega⟩, if_neg (by omega)]; try rfl) | (rw [show qSon (qN q) h t = 2 * t + 1 from if_neg (by omega), if_neg (by omega)]; try rfl))) (by show qN q - _ < qN q - t; omega)
      · skip
        refine ek_goto X 78 (by decide) dX1_sink_52 ?_
        refine ek_aln X 0 rfl dX1_sink_78 ?_
        refine ek_get X hin_X1_sink_X1 0 rfl rfl 0 (by decide) (List.mem_of_getElem? (i := 2) rfl) rfl dX1_sink_79 ?_
        refine ek_iln X 2 rfl dX1_sink_82 ?_
        refine ek_iln X 1 rfl dX1_sink_83 ?_
        refine ek_Nast (w' := wQ ad cI (qN q, eN h t x)) X 1 0 rfl rfl (by omega) (by omega) rfl dX1_sink_84 ?_
        exact ek_retv X () ⟨rfl, trivial⟩ (by obtain ⟨h1, h1b, h2, f, h3, h4⟩ := ha_4; subst h1; show _ = wQ ad cI (qN q, qSink (qN q) (qN q) (qH q) 0 x); rw [← h4]; cases f with | zero => rfl | succ f => rw [qSink_s]; first | rw [if_neg (by omega)] | (rw [if_pos (by omega), show qSon (qN q) h t = 2 * t + 1 + 1 from if_pos ⟨by omega, by omega⟩, if_pos (by omega)]) | (rw [if_pos (by omega), show qSon (qN q) h t = 2 * t + 1 from if_neg (by omega), if_pos (by omega)])) dX1_sink_85
    · skip
      refine ek_aln X 0 rfl dX1_sink_22 ?_
      refine ek_get X hin_X1_sink_X1 0 rfl rfl 0 (by decide) (List.mem_of_getElem? (i := 2) rfl) rfl dX1_sink_23 ?_
      refine ek_iln X 3 rfl dX1_sink_26 ?_
      refine ek_ic (v := nI 1) X (by decide) dX1_sink_27 ?_
      refine ek_Nadd X dX1_sink_28 ?_
      refine ek_ald X 1 0 rfl rfl (by omega) (by omega) dX1_sink_29 ?_
      refine ek_top (v' := nI (h (k + 1))) rfl ?_
      refine ek_aln X 0 rfl dX1_sink_30 ?_
      refine ek_get X hin_X1_sink_X1 0 rfl rfl 0 (by decide) (List.mem_of_getElem? (i := 2) rfl) rfl dX1_sink_31 ?_
      refine ek_iln X 3 rfl dX1_sink_34 ?_
      refine ek_ald X 1 0 rfl rfl (by omega) (by omega) dX1_sink_35 ?_
      refine ek_top (v' := nI (h k)) rfl ?_
      refine ek_Nge X (by omega) (by omega) 42 (by decide) dX1_sink_36 (fun c_36 => ?_) (fun c_36 => ?_)
      · skip
        refine ek_aln X 0 rfl dX1_sink_42 ?_
        refine ek_get X hin_X1_sink_X1 0 rfl rfl 0 (by decide) (List.mem_of_getElem? (i := 2) rfl) rfl dX1_sink_43 ?_
        refine ek_iln X 3 rfl dX1_sink_46 ?_
        refine ek_ald X 1 0 rfl rfl (by omega) (by omega) dX1_sink_47 ?_
        refine ek_top (v' := nI (h k)) rfl ?_
        refine ek_iln X 1 rfl dX1_sink_48 ?_
        refine ek_Nle X (by omega) (by omega) 55 (by decide) dX1_sink_49 (fun c_49 => ?_) (fun c_49 => ?_)
        · skip
          refine ek_aln X 0 rfl dX1_sink_55 ?_
          refine ek_get X hin_X1_sink_X1 0 rfl rfl 0 (by decide) (List.mem_of_getElem? (i := 2) rfl) rfl dX1_sink_56 ?_
          refine ek_iln X 2 rfl dX1_sink_59 ?_
          refine ek_aln X 0 rfl dX1_sink_60 ?_
          refine ek_get X hin_X1_sink_X1 0 rfl rfl 0 (by decide) (List.mem_of_getElem? (i := 2) rfl) rfl dX1_sink_61 ?_
          refine ek_iln X 3 rfl dX1_sink_64 ?_
          refine ek_ald X 1 0 rfl rfl (by omega) (by omega) dX1_sink_65 ?_
          refine ek_top (v' := nI (h k)) rfl ?_
          refine ek_Nast (w' := wQ ad cI (qN q, eN h t (h k))) X 1 0 rfl rfl (by omega) (by omega) rfl dX1_sink_66 ?_
          refine ek_iln X 3 rfl dX1_sink_67 ?_
          refine ek_isn (lv' := [(2, .int (nI k)), (0, .ref (ad 30)), (1, .int (nI x)), (3, .int (nI k))]) X (by decide) rfl dX1_sink_68 ?_
          refine ek_ic (v := nI 2) X (by decide) dX1_sink_69 ?_
          refine ek_iln X 0 rfl dX1_sink_70 ?_
          refine ek_Nmul X dX1_sink_71 ?_
          refine ek_ic (v := nI 1) X (by decide) dX1_sink_72 ?_
          refine ek_Nadd X dX1_sink_73 ?_
          refine ek_isn (lv' := [(3, .int (nI ((2 * k) + 1))), (2, .int (nI k)), (0, .ref (ad 30)), (1, .int (nI x))]) X (by decide) rfl dX1_sink_74 ?_
          refine ek_goto X 4 (by decide) dX1_sink_75 ?_
          refine ek_re [2, 3, 1, 0] rfl ?_
          exact ih_4 (k, (2 * k) + 1, eN h t (h k)) (show ((2 * k) + 1) = 2 * k + 1 ∧ k < 629 ∧ (∀ j, (eN h t (h k)) j < 2147483648) ∧ ∃ f, qN q ≤ k + f ∧ qSink (qN q) f (eN h t (h k)) k x = qSink (qN q) (qN q) (qH q) 0 x from (by obtain ⟨h1, h1b, h2, f, h3, h4⟩ := ha_4; subst h1; obtain ⟨f, rfl⟩ : ∃ z, f = z + 1 := ⟨f - 1, by omega⟩; refine ⟨rfl, by omega, fun j => eN_lt h2 (h2 _) j, f, by omega, ?_⟩; rw [← h4, qSink_s, if_pos (by omega)]; first | (rw [show qSon (qN q) h t = 2 * t + 1 + 1 from if_pos ⟨by omega, by omega⟩, if_neg (by omega)]; try rfl) | (rw [show qSon (qN q) h t = 2 * t + 1 from if_neg (by omega), if_neg (by omega)]; try rfl))) (by show qN q - _ < qN q - t; omega)
        · skip
          refine ek_goto X 78 (by decide) dX1_sink_52 ?_
          refine ek_aln X 0 rfl dX1_sink_78 ?_
          refine ek_get X hin_X1_sink_X1 0 rfl rfl 0 (by decide) (List.mem_of_getElem? (i := 2) rfl) rfl dX1_sink_79 ?_
          refine ek_iln X 2 rfl dX1_sink_82 ?_
          refine ek_iln X 1 rfl dX1_sink_83 ?_
          refine ek_Nast (w' := wQ ad cI (qN q, eN h t x)) X 1 0 rfl rfl (by omega) (by omega) rfl dX1_sink_84 ?_
          exact ek_retv X () ⟨rfl, trivial⟩ (by obtain ⟨h1, h1b, h2, f, h3, h4⟩ := ha_4; subst h1; show _ = wQ ad cI (qN q, qSink (qN q) (qN q) (qH q) 0 x); rw [← h4]; cases f with | zero => rfl | succ f => rw [qSink_s]; first | rw [if_neg (by omega)] | (rw [if_pos (by omega), show qSon (qN q) h t = 2 * t + 1 + 1 from if_pos ⟨by omega, by omega⟩, if_pos (by omega)]) | (rw [if_pos (by omega), show qSon (qN q) h t = 2 * t + 1 from if_neg (by omega), if_pos (by omega)])) dX1_sink_85
      · skip
        refine ek_Ninc (j := 3) (d := 1) (lv' := [(3, .int (nI (k + 1))), (0, .ref (ad 30)), (1, .int (nI x)), (2, .int (nI t))]) X rfl (by decide) rfl dX1_sink_39 ?_
        refine ek_aln X 1 rfl dX1_sink_42 ?_
        refine ek_get X hin_X1_sink_X1 0 rfl rfl 0 (by decide) (List.mem_of_getElem? (i := 2) rfl) rfl dX1_sink_43 ?_
        refine ek_iln X 0 rfl dX1_sink_46 ?_
        refine ek_ald X 1 0 rfl rfl (by omega) (by omega) dX1_sink_47 ?_
        refine ek_top (v' := nI (h (k + 1))) rfl ?_
        refine ek_iln X 2 rfl dX1_sink_48 ?_
        refine ek_Nle X (by omega) (by omega) 55 (by decide) dX1_sink_49 (fun c_49 => ?_) (fun c_49 => ?_)
        · skip
          refine ek_aln X 1 rfl dX1_sink_55 ?_
          refine ek_get X hin_X1_sink_X1 0 rfl rfl 0 (by decide) (List.mem_of_getElem? (i := 2) rfl) rfl dX1_sink_56 ?_
          refine ek_iln X 3 rfl dX1_sink_59 ?_
          refine ek_aln X 1 rfl dX1_sink_60 ?_
          refine ek_get X hin_X1_sink_X1 0 rfl rfl 0 (by decide) (List.mem_of_getElem? (i := 2) rfl) rfl dX1_sink_61 ?_
          refine ek_iln X 0 rfl dX1_sink_64 ?_
          refine ek_ald X 1 0 rfl rfl (by omega) (by omega) dX1_sink_65 ?_
          refine ek_top (v' := nI (h (k + 1))) rfl ?_
          refine ek_Nast (w' := wQ ad cI (qN q, eN h t (h (k + 1)))) X 1 0 rfl rfl (by omega) (by omega) rfl dX1_sink_66 ?_
          refine ek_iln X 0 rfl dX1_sink_67 ?_
          refine ek_isn (lv' := [(2, .int (nI (k + 1))), (3, .int (nI (k + 1))), (0, .ref (ad 30)), (1, .int (nI x))]) X (by decide) rfl dX1_sink_68 ?_
          refine ek_ic (v := nI 2) X (by decide) dX1_sink_69 ?_
          refine ek_iln X 0 rfl dX1_sink_70 ?_
          refine ek_Nmul X dX1_sink_71 ?_
          refine ek_ic (v := nI 1) X (by decide) dX1_sink_72 ?_
          refine ek_Nadd X dX1_sink_73 ?_
          refine ek_isn (lv' := [(3, .int (nI ((2 * (k + 1)) + 1))), (2, .int (nI (k + 1))), (0, .ref (ad 30)), (1, .int (nI x))]) X (by decide) rfl dX1_sink_74 ?_
          refine ek_goto X 4 (by decide) dX1_sink_75 ?_
          refine ek_re [2, 3, 1, 0] rfl ?_
          exact ih_4 (k + 1, (2 * (k + 1)) + 1, eN h t (h (k + 1))) (show ((2 * (k + 1)) + 1) = 2 * (k + 1) + 1 ∧ (k + 1) < 629 ∧ (∀ j, (eN h t (h (k + 1))) j < 2147483648) ∧ ∃ f, qN q ≤ (k + 1) + f ∧ qSink (qN q) f (eN h t (h (k + 1))) (k + 1) x = qSink (qN q) (qN q) (qH q) 0 x from (by obtain ⟨h1, h1b, h2, f, h3, h4⟩ := ha_4; subst h1; obtain ⟨f, rfl⟩ : ∃ z, f = z + 1 := ⟨f - 1, by omega⟩; refine ⟨rfl, by omega, fun j => eN_lt h2 (h2 _) j, f, by omega, ?_⟩; rw [← h4, qSink_s, if_pos (by omega)]; first | (rw [show qSon (qN q) h t = 2 * t + 1 + 1 from if_pos ⟨by omega, by omega⟩, if_neg (by omega)]; try rfl) | (rw [show qSon (qN q) h t = 2 * t + 1 from if_neg (by omega), if_neg (by omega)]; try rfl))) (by show qN q - _ < qN q - t; omega)
        · skip
          refine ek_goto X 78 (by decide) dX1_sink_52 ?_
          refine ek_aln X 1 rfl dX1_sink_78 ?_
          refine ek_get X hin_X1_sink_X1 0 rfl rfl 0 (by decide) (List.mem_of_getElem? (i := 2) rfl) rfl dX1_sink_79 ?_
          refine ek_iln X 3 rfl dX1_sink_82 ?_
          refine ek_iln X 2 rfl dX1_sink_83 ?_
          refine ek_Nast (w' := wQ ad cI (qN q, eN h t x)) X 1 0 rfl rfl (by omega) (by omega) rfl dX1_sink_84 ?_
          exact ek_retv X () ⟨rfl, trivial⟩ (by obtain ⟨h1, h1b, h2, f, h3, h4⟩ := ha_4; subst h1; show _ = wQ ad cI (qN q, qSink (qN q) (qN q) (qH q) 0 x); rw [← h4]; cases f with | zero => rfl | succ f => rw [qSink_s]; first | rw [if_neg (by omega)] | (rw [if_pos (by omega), show qSon (qN q) h t = 2 * t + 1 + 1 from if_pos ⟨by omega, by omega⟩, if_pos (by omega)]) | (rw [if_pos (by omega), show qSon (qN q) h t = 2 * t + 1 from if_neg (by omega), if_pos (by omega)])) dX1_sink_85

theorem hin_X1_takeNext_X1 : ∀ x ∈ wsX10, x ∈ wsX1_takeNext := fun x h => List.mem_cons_of_mem _ (List.mem_append_right _ h)
abbrev rm_X1_takeNext : Room := { frames := 2, cells := 0, slots := 0, locals := 35 }
set_option maxHeartbeats 4000000 in
set_option maxRecDepth 100000 in
theorem c_X1_takeNext (l : Launch) (D : va_G) (cI cJ cR : ClassId) (ad : Nat → Nat) (q : QueT) (hq : qOk q) (hs : 0 < qN q) : ek_M (S := Unit) l yX1_takeNext wsX1_takeNext rm_X1_takeNext D (tyW cI cJ cR) nestW [.ref (ad 30)] (wQ ad cI q) (fun r9 _ => ∃ v : Int32, r9 = some (.int v) ∧ v = nI (qH q 0)) (fun _ => wQ ad cI (qTake q)) := by
  refine ek_M.of (cc := cX1_takeNext) (maxL := 2) (ret := (some .int)) (by decide) rfl (Nat.le_of_ble_eq_true rfl) ?_
  intro p9 e9 s9 m9 args9 below9 meth9 c9 A X hin
  obtain ⟨hq1, hq2⟩ := id hq
  have b0 := hq2 0
  have b1 := hq2 (qN q - 1)
  refine ek_castL (lv' := [(0, .ref (ad 30))]) rfl ?_
  refine ek_aln X 0 rfl dX1_takeNext_0 ?_
  refine ek_get X hin_X1_takeNext_X1 0 rfl rfl 0 (by decide) (List.mem_of_getElem? (i := 1) rfl) rfl dX1_takeNext_1 ?_
  refine ek_ic (v := nI 0) X (by decide) dX1_takeNext_4 ?_
  refine ek_ald X 1 0 rfl rfl (by omega) (by omega) dX1_takeNext_5 ?_
  refine ek_isn (lv' := [(1, .int (nI ((qH q) 0))), (0, .ref (ad 30))]) X (by decide) rfl dX1_takeNext_6 ?_
  refine ek_aln X 1 rfl dX1_takeNext_7 ?_
  refine ek_get X hin_X1_takeNext_X1 0 rfl rfl 1 (by decide) (List.mem_of_getElem? (i := 2) rfl) rfl dX1_takeNext_8 ?_
  refine ek_Zle X (by omega) 37 (by decide) dX1_takeNext_11 (fun c_11 => ?_) (fun c_11 => ?_)
  · exact absurd hs (by omega)
  · skip
    refine ek_aln X 1 rfl dX1_takeNext_14 ?_
    refine ek_dup X rfl dX1_takeNext_15 ?_
    refine ek_get X hin_X1_takeNext_X1 0 rfl rfl 1 (by decide) (List.mem_of_getElem? (i := 2) rfl) rfl dX1_takeNext_16 ?_
    refine ek_ic (v := nI 1) X (by decide) dX1_takeNext_19 ?_
    refine ek_Nsub X (by omega) dX1_takeNext_20 ?_
    refine ek_put (w' := wQ ad cI ((qN q) - 1, qH q)) X hin_X1_takeNext_X1 tyX1 tyX1_ok nmX1 0 rfl rfl 1 (by decide) (List.mem_of_getElem? (i := 2) rfl) rfl rfl rfl rfl (Nat.le_of_ble_eq_true rfl) rfl dX1_takeNext_21 ?_
    refine ek_aln X 1 rfl dX1_takeNext_24 ?_
    refine ek_aln X 1 rfl dX1_takeNext_25 ?_
    refine ek_get X hin_X1_takeNext_X1 0 rfl rfl 0 (by decide) (List.mem_of_getElem? (i := 1) rfl) rfl dX1_takeNext_26 ?_
    refine ek_aln X 1 rfl dX1_takeNext_29 ?_
    refine ek_get X hin_X1_takeNext_X1 0 rfl rfl 1 (by decide) (List.mem_of_getElem? (i := 2) rfl) rfl dX1_takeNext_30 ?_
    refine ek_top (v' := nI ((qN q) - 1)) rfl ?_
    refine ek_ald X 1 0 rfl rfl (by omega) (by omega) dX1_takeNext_33 ?_
    refine ek_top (v' := nI ((qH q) ((qN q) - 1))) rfl ?_
    refine ek_doWv X (ek_runV (As := [.int (nI ((qH q) ((qN q) - 1)))]) (rest := []) X (c_X1_sink l D cI cJ cR ad (((qN q) - 1, qH q)) ((qH q) ((qN q) - 1)) ⟨by show qN q - 1 ≤ 629; omega, hq2⟩ (by show qN q - 1 < 629; omega) (by omega)) gX1_takeNext_X1_sink rfl hdV_X1_sink ⟨Nat.le_of_ble_eq_true rfl, Nat.le_of_ble_eq_true rfl⟩ ⟨Nat.le_of_ble_eq_true rfl, Nat.le_of_ble_eq_true rfl⟩ [0, 1] rfl (by decide) 0 1 rfl rfl (Nat.le_of_ble_eq_true rfl) dX1_takeNext_34) [0, 1] [] rfl rfl (by decide) (by decide) (fun _ => wQ ad cI ((qN q) - 1, qSink ((qN q) - 1) ((qN q) - 1) (qH q) 0 ((qH q) ((qN q) - 1)))) [0, 1] (by decide) (fun _ => rfl) (fun u_34 hv_34 => ?_)
    refine ek_iln X 0 rfl dX1_takeNext_37 ?_
    exact ek_reti X () ⟨_, rfl, rfl⟩ rfl dX1_takeNext_38
