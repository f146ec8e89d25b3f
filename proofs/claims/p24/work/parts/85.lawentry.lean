/-! ===== what the law's entry gives ===== -/
theorem lw_str {own tx : String} {k : Nat} {args : Array Value} {s : State} (h : (Cond.stringRef own k tx).before args s = true) : ∃ a, vk_R own k tx a s := by
  have hcur : ∃ cur, s.vm.findClass own = some cur := by
    have h1 := h
    simp only [Cond.before, Cond.holds, Cond.value] at h1
    cases hc : s.vm.findClass own with
    | none => simp [hc] at h1
    | some cur => exact ⟨cur, rfl⟩
  obtain ⟨cur, hcur⟩ := hcur
  obtain ⟨k', cf, i, a, -, -, -, -, -, hev⟩ := Cond.stringRef_spec hcur h
  exact ⟨a, vk_R.of h hev⟩
theorem lw_arrI {args : Array Value} {s : State} (h : (Cond.arrayClass .int).before args s = true) : ∃ c, ArrOfT s c .int ∧ va_RA s c .int := by
  obtain ⟨c, k, comp, h1, h2, h3⟩ := Cond.arrayClass_spec h
  exact ⟨c, fun n z => ⟨fun k h => (by cases h), k, h2, comp, h3⟩, h1⟩
theorem lw_arrJ {args : Array Value} {s : State} (h : (Cond.arrayClass .long).before args s = true) : ∃ c, ArrOfT s c .long ∧ va_RA s c .long := by
  obtain ⟨c, k, comp, h1, h2, h3⟩ := Cond.arrayClass_spec h
  exact ⟨c, fun n z => ⟨fun k h => (by cases h), k, h2, comp, h3⟩, h1⟩
theorem lw_arrR {args : Array Value} {s : State} (h : (Cond.arrayOver (.array .int)).before args s = true) : ∃ c, ArrOfT s c (.array .int) ∧ va_RA s c (.array .int) := by
  obtain ⟨comp, c, k, -, h2, h3, h1⟩ := Cond.arrayOver_specA h
  exact ⟨c, fun n z => ⟨fun k h => (by cases h), k, h2, comp, h3⟩, h1⟩
theorem nestW_tbl : ∀ w ∈ nestW, w ∈ lw_tbl := by decide +kernel
theorem nestW_tab : ∀ w ∈ nestW, w.onTables = true := by decide +kernel
def lwD (c0 c1 c2 c3 c4 : ClassId) (i0 i1 i2 i3 i4 : Nat → Nat) : va_G := (fun c => match c with | 0 => c0 | 1 => c1 | 2 => c2 | 3 => c3 | _ => c4, fun c => match c with | 0 => i0 | 1 => i1 | 2 => i2 | 3 => i3 | _ => i4)
/-- the classes, the kinds of arrays, the links -/
theorem lw_known {s : State} {args : Array Value} (hts : ∀ w ∈ lw_tbl, w.before args s = true) : ∃ (D : va_G) (cI cJ cR : ClassId), va_K D vwCl (tyW cI cJ cR) s ∧ ek_N nestW s := by
  obtain ⟨c0, i0, h0⟩ := u_known (C := RX0) (T := TX0) (N := 15) (n := 15) hts inX0 (hts _ (by decide +kernel))
  obtain ⟨c1, i1, h1⟩ := u_known (C := RX1) (T := TX1) (N := 2) (n := 2) hts inX1 (hts _ (by decide +kernel))
  obtain ⟨c2, i2, h2⟩ := u_known (C := RX2) (T := TX2) (N := 8) (n := 8) hts inX2 (hts _ (by decide +kernel))
  obtain ⟨c3, i3, h3⟩ := u_known (C := RX3) (T := TX3) (N := 7) (n := 7) hts inX3 (hts _ (by decide +kernel))
  obtain ⟨c4, i4, h4⟩ := u_known (C := RX4) (T := TX4) (N := 7) (n := 7) hts inX4 (hts _ (by decide +kernel))
  obtain ⟨cI, gI⟩ := lw_arrI (hts (.arrayClass .int) (by decide +kernel))
  obtain ⟨cJ, gJ⟩ := lw_arrJ (hts (.arrayClass .long) (by decide +kernel))
  obtain ⟨cR, gR⟩ := lw_arrR (hts (.arrayOver (.array .int)) (by decide +kernel))
  refine ⟨lwD c0 c1 c2 c3 c4 i0 i1 i2 i3 i4, cI, cJ, cR, ⟨?_, ?_⟩, nestW_ok, fun w hw => va_Nw.of (nestW_tab w hw) (hts w (nestW_tbl w hw))⟩
  · intro c q hq
    match c, hq with
    | 0, hq => cases hq; exact h0
    | 1, hq => cases hq; exact h1
    | 2, hq => cases hq; exact h2
    | 3, hq => cases hq; exact h3
    | 4, hq => cases hq; exact h4
    | c + 5, hq => exact absurd hq (by simp)
  · intro k q hq
    match k, hq with
    | 0, hq => cases hq; exact gI
    | 1, hq => cases hq; exact gJ
    | 2, hq => cases hq; exact gR
    | k + 3, hq => exact absurd hq (by simp)
/-- what a throw needs, at the law's entry -/
theorem lw_Zt {s : State} {args : Array Value} (hts : ∀ w ∈ lw_tbl, w.before args s = true) (hgv : (Jvm.Cond.and given_1 narrow_1).before args s = true) : ek_Zt (fun q => s.heap.size ≤ q) s := by
  have hq := flat_of_before _ hgv
  have hA : ∀ a : Nat, a < s.heap.size → ¬ (fun q => s.heap.size ≤ q) a := fun a h => Nat.not_le.mpr h
  refine ⟨⟨vx_Zqof (hts _ (by decide +kernel)) (hts _ (by decide +kernel)) (hq _ (by decide +kernel)) hA, vx_Zqof (hts _ (by decide +kernel)) (hts _ (by decide +kernel)) (hq _ (by decide +kernel)) hA⟩, ⟨⟨va_Nw.of rfl (hts _ (by decide +kernel)), va_Nw.of rfl (hts _ (by decide +kernel)), va_Nw.of rfl (hts _ (by decide +kernel))⟩, va_Nw.of rfl (hts _ (by decide +kernel)), va_Nw.of rfl (hts _ (by decide +kernel)), va_Nw.of rfl (hts _ (by decide +kernel))⟩, ⟨lw_str (hts _ (by decide +kernel)), lw_str (hts _ (by decide +kernel)), lw_str (hts _ (by decide +kernel)), lw_str (hts _ (by decide +kernel))⟩, trivial⟩
/-- from the law's entry to its end -/
theorem law_whole {p : Program} {e : Env} {s : State} {m : MethodId} {below : List Frame} {meth : Method} {c : Code} {Q : State → Prop} (l : Launch) (hflags : l.flags = flags0) {b L : Nat} {xs : Nat → Int32} (hL : L ≤ 260) (hx : p.tables.exec = Jvm.exec) (hb : c.code = code) (hr : meth.sig.returnType = ret) (hml : c.maxLocals = 29) (hown : s.vm.findClass RL = some m.cls) (hts : ∀ w ∈ lw_tbl, w.before #[Value.ref b] s = true) (hX : va_X b L xs s s.heap) (hbl : b < s.heap.size) (hlocks : meth.locks = false) (hgv : (Jvm.Cond.and given_1 narrow_1).before #[Value.ref b] s = true)
    (fin : ∀ (H : Heap) (ls : Array Slot), W p l e room_1 s m #[Value.ref b] below meth c H [] 600104 7301313 Q (F0 m 1016 ls [.int 1])) : W p l e room_1 s m #[Value.ref b] below meth c s.heap [] 0 0 Q (entryFrame m ([Value.ref b] : List Value).toArray 29) := by
  have hl : l.stackTraces = false := by
    show (!l.flags.contains noTraceFlag) = false
    rw [hflags]
    decide +kernel
  obtain ⟨D, cI, cJ, cR, hK, hN⟩ := lw_known hts
  have hX9 : ek_X p s m #[Value.ref b] meth c RL cL_law 29 (some .boolean) wsL_law nestW D (tyW cI cJ cR) (fun q => s.heap.size ≤ q) (fun q => s.heap.size ≤ q) True := ⟨⟨hx, hb, hml, hown, fun w h => hts w (wsL_law_in w h)⟩, hK, hlocks, hr, hN, fun _ => ⟨fun _ => Iff.rfl, fun q h => h⟩⟩
  have hO : va_AOI s := hts (.arrayOver (.array .int)) (by decide +kernel)
  have body := law_begin (l := l) (e := e) (below9 := below) (Q := Q) hX9 hl (lw_Zt hts hgv) ⟨hX, hbl, fun h => Nat.not_le.mpr hbl h, by omega⟩ hO (fun K N w lv hK9 hN9 H locs ls hP hD hS hlv => va_forget hS.2.2 (W.widen hK9 hN9 (fin H ls)))
  rw [lg_entry_eq]
  exact body s.heap [] _ (fun k q h => absurd h (by simp)) ⟨fun i j p q h => absurd h (by simp), fun k q h => absurd h (by simp)⟩ va_S.rf (lv_entry [Value.ref b] (Nat.le_of_ble_eq_true rfl))
