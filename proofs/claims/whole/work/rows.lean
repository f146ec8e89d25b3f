section
-- ===== PART A: goes FIRST, ahead of the names: the tables' words, and 'selects' of the private methods out of them =====
/-- a private method of a class that the tables say can be made, by its rows of tables_1 -/
def lw_okq (q : MethodName × Nat) : Prop := (q.1.cls ≠ "java/lang/invoke/MethodHandle" ∧ q.1.cls ≠ "java/lang/invoke/VarHandle") ∧ Cond.instantiable q.1.cls q.2 ∈ tables_1 ∧ Cond.privateMethod q.1 ∈ tables_1 ∧ Cond.instanceMethod q.1 ∈ tables_1
theorem lw_p0 : lw_okq (⟨"EchoCave", "countFact", "(I)I"⟩, 7) := ⟨⟨by decide +kernel, by decide +kernel⟩, List.mem_of_getElem? (i := 18) (by decide +kernel), List.mem_of_getElem? (i := 221) (by decide +kernel), List.mem_of_getElem? (i := 222) (by decide +kernel)⟩
theorem lw_p1 : lw_okq (⟨"EchoCave$Cave", "openDoors", "(I)I"⟩, 15) := ⟨⟨by decide +kernel, by decide +kernel⟩, List.mem_of_getElem? (i := 26) (by decide +kernel), List.mem_of_getElem? (i := 241) (by decide +kernel), List.mem_of_getElem? (i := 242) (by decide +kernel)⟩
theorem lw_p2 : lw_okq (⟨"java/lang/Throwable", "fillInStackTrace", "(I)Ljava/lang/Throwable;"⟩, 6) := ⟨⟨by decide +kernel, by decide +kernel⟩, List.mem_of_getElem? (i := 303) (by decide +kernel), List.mem_of_getElem? (i := 301) (by decide +kernel), List.mem_of_getElem? (i := 302) (by decide +kernel)⟩
theorem lw_p3 : lw_okq (⟨"EchoCave$Cave", "addDoor", "(II)V"⟩, 15) := ⟨⟨by decide +kernel, by decide +kernel⟩, List.mem_of_getElem? (i := 26) (by decide +kernel), List.mem_of_getElem? (i := 390) (by decide +kernel), List.mem_of_getElem? (i := 391) (by decide +kernel)⟩
theorem lw_p4 : lw_okq (⟨"EchoCave$Sound", "begin", "(III)V"⟩, 7) := ⟨⟨by decide +kernel, by decide +kernel⟩, List.mem_of_getElem? (i := 94) (by decide +kernel), List.mem_of_getElem? (i := 472) (by decide +kernel), List.mem_of_getElem? (i := 473) (by decide +kernel)⟩
theorem lw_p5 : lw_okq (⟨"EchoCave$Sound", "startRun", "(IIIII)V"⟩, 7) := ⟨⟨by decide +kernel, by decide +kernel⟩, List.mem_of_getElem? (i := 94) (by decide +kernel), List.mem_of_getElem? (i := 480) (by decide +kernel), List.mem_of_getElem? (i := 481) (by decide +kernel)⟩
theorem lw_p6 : lw_okq (⟨"EchoCave$Comings", "sink", "(I)V"⟩, 2) := ⟨⟨by decide +kernel, by decide +kernel⟩, List.mem_of_getElem? (i := 100) (by decide +kernel), List.mem_of_getElem? (i := 499) (by decide +kernel), List.mem_of_getElem? (i := 500) (by decide +kernel)⟩
theorem lw_p7 : lw_okq (⟨"EchoCave$Sound", "come", "(ILEchoCave$Echo;)V"⟩, 7) := ⟨⟨by decide +kernel, by decide +kernel⟩, List.mem_of_getElem? (i := 94) (by decide +kernel), List.mem_of_getElem? (i := 503) (by decide +kernel), List.mem_of_getElem? (i := 504) (by decide +kernel)⟩
theorem lw_p8 : lw_okq (⟨"EchoCave$Echo", "letCount", "(II)V"⟩, 8) := ⟨⟨by decide +kernel, by decide +kernel⟩, List.mem_of_getElem? (i := 137) (by decide +kernel), List.mem_of_getElem? (i := 527) (by decide +kernel), List.mem_of_getElem? (i := 528) (by decide +kernel)⟩
theorem lw_p9 : lw_okq (⟨"EchoCave$Sound", "setOffClapper", "(III)V"⟩, 7) := ⟨⟨by decide +kernel, by decide +kernel⟩, List.mem_of_getElem? (i := 94) (by decide +kernel), List.mem_of_getElem? (i := 536) (by decide +kernel), List.mem_of_getElem? (i := 537) (by decide +kernel)⟩
theorem lw_p10 : lw_okq (⟨"EchoCave$Sound", "goOn", "(IIIII)V"⟩, 7) := ⟨⟨by decide +kernel, by decide +kernel⟩, List.mem_of_getElem? (i := 94) (by decide +kernel), List.mem_of_getElem? (i := 540) (by decide +kernel), List.mem_of_getElem? (i := 541) (by decide +kernel)⟩
theorem lw_p11 : lw_okq (⟨"EchoCave$Sound", "goInto", "(IIIII)V"⟩, 7) := ⟨⟨by decide +kernel, by decide +kernel⟩, List.mem_of_getElem? (i := 94) (by decide +kernel), List.mem_of_getElem? (i := 545) (by decide +kernel), List.mem_of_getElem? (i := 546) (by decide +kernel)⟩
theorem lw_p12 : lw_okq (⟨"EchoCave", "wouldComeInOrder", "(II)Z"⟩, 7) := ⟨⟨by decide +kernel, by decide +kernel⟩, List.mem_of_getElem? (i := 18) (by decide +kernel), List.mem_of_getElem? (i := 596) (by decide +kernel), List.mem_of_getElem? (i := 597) (by decide +kernel)⟩
theorem lw_p13 : lw_okq (⟨"EchoCave$Cave", "shorten", "(III)V"⟩, 15) := ⟨⟨by decide +kernel, by decide +kernel⟩, List.mem_of_getElem? (i := 26) (by decide +kernel), List.mem_of_getElem? (i := 626) (by decide +kernel), List.mem_of_getElem? (i := 627) (by decide +kernel)⟩
theorem lw_p14 : lw_okq (⟨"EchoCave$Cave", "raise", "(II)V"⟩, 15) := ⟨⟨by decide +kernel, by decide +kernel⟩, List.mem_of_getElem? (i := 26) (by decide +kernel), List.mem_of_getElem? (i := 641) (by decide +kernel), List.mem_of_getElem? (i := 642) (by decide +kernel)⟩
theorem lw_p15 : lw_okq (⟨"EchoCaveModel", "no", "(I)I"⟩, 10) := ⟨⟨by decide +kernel, by decide +kernel⟩, List.mem_of_getElem? (i := 651) (by decide +kernel), List.mem_of_getElem? (i := 782) (by decide +kernel), List.mem_of_getElem? (i := 783) (by decide +kernel)⟩
def lw_privs_1 : List (MethodName × Nat) := [(⟨"EchoCave", "countFact", "(I)I"⟩, 7), (⟨"EchoCave$Cave", "openDoors", "(I)I"⟩, 15), (⟨"java/lang/Throwable", "fillInStackTrace", "(I)Ljava/lang/Throwable;"⟩, 6), (⟨"EchoCave$Cave", "addDoor", "(II)V"⟩, 15), (⟨"EchoCave$Sound", "begin", "(III)V"⟩, 7), (⟨"EchoCave$Sound", "startRun", "(IIIII)V"⟩, 7), (⟨"EchoCave$Comings", "sink", "(I)V"⟩, 2), (⟨"EchoCave$Sound", "come", "(ILEchoCave$Echo;)V"⟩, 7), (⟨"EchoCave$Echo", "letCount", "(II)V"⟩, 8), (⟨"EchoCave$Sound", "setOffClapper", "(III)V"⟩, 7), (⟨"EchoCave$Sound", "goOn", "(IIIII)V"⟩, 7), (⟨"EchoCave$Sound", "goInto", "(IIIII)V"⟩, 7), (⟨"EchoCave", "wouldComeInOrder", "(II)Z"⟩, 7), (⟨"EchoCave$Cave", "shorten", "(III)V"⟩, 15), (⟨"EchoCave$Cave", "raise", "(II)V"⟩, 15), (⟨"EchoCaveModel", "no", "(I)I"⟩, 10)]
theorem lw_r1 : ∀ q ∈ lw_privs_1, lw_okq q := List.forall_mem_cons.mpr ⟨lw_p0, List.forall_mem_cons.mpr ⟨lw_p1, List.forall_mem_cons.mpr ⟨lw_p2, List.forall_mem_cons.mpr ⟨lw_p3, List.forall_mem_cons.mpr ⟨lw_p4, List.forall_mem_cons.mpr ⟨lw_p5, List.forall_mem_cons.mpr ⟨lw_p6, List.forall_mem_cons.mpr ⟨lw_p7, List.forall_mem_cons.mpr ⟨lw_p8, List.forall_mem_cons.mpr ⟨lw_p9, List.forall_mem_cons.mpr ⟨lw_p10, List.forall_mem_cons.mpr ⟨lw_p11, List.forall_mem_cons.mpr ⟨lw_p12, List.forall_mem_cons.mpr ⟨lw_p13, List.forall_mem_cons.mpr ⟨lw_p14, List.forall_mem_cons.mpr ⟨lw_p15, fun _ h => absurd h List.not_mem_nil⟩⟩⟩⟩⟩⟩⟩⟩⟩⟩⟩⟩⟩⟩⟩⟩
theorem lw_p16 : lw_okq (⟨"EchoCaveModel", "isChamber", "(I)Z"⟩, 10) := ⟨⟨by decide +kernel, by decide +kernel⟩, List.mem_of_getElem? (i := 651) (by decide +kernel), List.mem_of_getElem? (i := 793) (by decide +kernel), List.mem_of_getElem? (i := 794) (by decide +kernel)⟩
theorem lw_p17 : lw_okq (⟨"EchoCaveModel", "chamberTold", "(II)I"⟩, 10) := ⟨⟨by decide +kernel, by decide +kernel⟩, List.mem_of_getElem? (i := 651) (by decide +kernel), List.mem_of_getElem? (i := 817) (by decide +kernel), List.mem_of_getElem? (i := 818) (by decide +kernel)⟩
theorem lw_p18 : lw_okq (⟨"EchoCaveModel", "touches", "(II)Z"⟩, 10) := ⟨⟨by decide +kernel, by decide +kernel⟩, List.mem_of_getElem? (i := 651) (by decide +kernel), List.mem_of_getElem? (i := 821) (by decide +kernel), List.mem_of_getElem? (i := 822) (by decide +kernel)⟩
theorem lw_p19 : lw_okq (⟨"EchoCaveModel", "isOpen", "(II)Z"⟩, 10) := ⟨⟨by decide +kernel, by decide +kernel⟩, List.mem_of_getElem? (i := 651) (by decide +kernel), List.mem_of_getElem? (i := 825) (by decide +kernel), List.mem_of_getElem? (i := 826) (by decide +kernel)⟩
theorem lw_p20 : lw_okq (⟨"EchoCaveModel", "passageTold", "(II)I"⟩, 10) := ⟨⟨by decide +kernel, by decide +kernel⟩, List.mem_of_getElem? (i := 651) (by decide +kernel), List.mem_of_getElem? (i := 833) (by decide +kernel), List.mem_of_getElem? (i := 834) (by decide +kernel)⟩
theorem lw_p21 : lw_okq (⟨"EchoCaveModel$Sound", "start", "(IIIII)V"⟩, 21) := ⟨⟨by decide +kernel, by decide +kernel⟩, List.mem_of_getElem? (i := 657) (by decide +kernel), List.mem_of_getElem? (i := 849) (by decide +kernel), List.mem_of_getElem? (i := 850) (by decide +kernel)⟩
theorem lw_p22 : lw_okq (⟨"EchoCaveModel$Sound", "come", "(IIIII)V"⟩, 21) := ⟨⟨by decide +kernel, by decide +kernel⟩, List.mem_of_getElem? (i := 657) (by decide +kernel), List.mem_of_getElem? (i := 853) (by decide +kernel), List.mem_of_getElem? (i := 854) (by decide +kernel)⟩
theorem lw_p23 : lw_okq (⟨"EchoCaveModel$Sound", "arrive", "(II)V"⟩, 21) := ⟨⟨by decide +kernel, by decide +kernel⟩, List.mem_of_getElem? (i := 657) (by decide +kernel), List.mem_of_getElem? (i := 858) (by decide +kernel), List.mem_of_getElem? (i := 859) (by decide +kernel)⟩
theorem lw_p24 : lw_okq (⟨"EchoCaveModel$Sound", "hear", "(III)V"⟩, 21) := ⟨⟨by decide +kernel, by decide +kernel⟩, List.mem_of_getElem? (i := 657) (by decide +kernel), List.mem_of_getElem? (i := 862) (by decide +kernel), List.mem_of_getElem? (i := 863) (by decide +kernel)⟩
theorem lw_p25 : lw_okq (⟨"EchoCaveModel$Sound", "clap", "(III)V"⟩, 21) := ⟨⟨by decide +kernel, by decide +kernel⟩, List.mem_of_getElem? (i := 657) (by decide +kernel), List.mem_of_getElem? (i := 866) (by decide +kernel), List.mem_of_getElem? (i := 867) (by decide +kernel)⟩
theorem lw_p26 : lw_okq (⟨"EchoCaveModel$Sound", "go", "(IIIII)V"⟩, 21) := ⟨⟨by decide +kernel, by decide +kernel⟩, List.mem_of_getElem? (i := 657) (by decide +kernel), List.mem_of_getElem? (i := 872) (by decide +kernel), List.mem_of_getElem? (i := 873) (by decide +kernel)⟩
theorem lw_p27 : lw_okq (⟨"EchoCaveModel", "counted", "(I)I"⟩, 10) := ⟨⟨by decide +kernel, by decide +kernel⟩, List.mem_of_getElem? (i := 651) (by decide +kernel), List.mem_of_getElem? (i := 896) (by decide +kernel), List.mem_of_getElem? (i := 897) (by decide +kernel)⟩
theorem lw_p28 : lw_okq (⟨"EchoCaveModel", "comes", "(II)Z"⟩, 10) := ⟨⟨by decide +kernel, by decide +kernel⟩, List.mem_of_getElem? (i := 651) (by decide +kernel), List.mem_of_getElem? (i := 904) (by decide +kernel), List.mem_of_getElem? (i := 905) (by decide +kernel)⟩
theorem lw_p29 : lw_okq (⟨"EchoCaveModel", "shortest", "(III)I"⟩, 10) := ⟨⟨by decide +kernel, by decide +kernel⟩, List.mem_of_getElem? (i := 651) (by decide +kernel), List.mem_of_getElem? (i := 928) (by decide +kernel), List.mem_of_getElem? (i := 929) (by decide +kernel)⟩
def lw_privs_2 : List (MethodName × Nat) := [(⟨"EchoCaveModel", "isChamber", "(I)Z"⟩, 10), (⟨"EchoCaveModel", "chamberTold", "(II)I"⟩, 10), (⟨"EchoCaveModel", "touches", "(II)Z"⟩, 10), (⟨"EchoCaveModel", "isOpen", "(II)Z"⟩, 10), (⟨"EchoCaveModel", "passageTold", "(II)I"⟩, 10), (⟨"EchoCaveModel$Sound", "start", "(IIIII)V"⟩, 21), (⟨"EchoCaveModel$Sound", "come", "(IIIII)V"⟩, 21), (⟨"EchoCaveModel$Sound", "arrive", "(II)V"⟩, 21), (⟨"EchoCaveModel$Sound", "hear", "(III)V"⟩, 21), (⟨"EchoCaveModel$Sound", "clap", "(III)V"⟩, 21), (⟨"EchoCaveModel$Sound", "go", "(IIIII)V"⟩, 21), (⟨"EchoCaveModel", "counted", "(I)I"⟩, 10), (⟨"EchoCaveModel", "comes", "(II)Z"⟩, 10), (⟨"EchoCaveModel", "shortest", "(III)I"⟩, 10)]
theorem lw_r2 : ∀ q ∈ lw_privs_2, lw_okq q := List.forall_mem_cons.mpr ⟨lw_p16, List.forall_mem_cons.mpr ⟨lw_p17, List.forall_mem_cons.mpr ⟨lw_p18, List.forall_mem_cons.mpr ⟨lw_p19, List.forall_mem_cons.mpr ⟨lw_p20, List.forall_mem_cons.mpr ⟨lw_p21, List.forall_mem_cons.mpr ⟨lw_p22, List.forall_mem_cons.mpr ⟨lw_p23, List.forall_mem_cons.mpr ⟨lw_p24, List.forall_mem_cons.mpr ⟨lw_p25, List.forall_mem_cons.mpr ⟨lw_p26, List.forall_mem_cons.mpr ⟨lw_p27, List.forall_mem_cons.mpr ⟨lw_p28, List.forall_mem_cons.mpr ⟨lw_p29, fun _ h => absurd h List.not_mem_nil⟩⟩⟩⟩⟩⟩⟩⟩⟩⟩⟩⟩⟩⟩
def lw_privs : List (MethodName × Nat) := lw_privs_1 ++ (lw_privs_2)
def lw_tbl : List Cond := k2_sels lw_privs ++ tables_1
theorem lw_privs_ok : ∀ q ∈ lw_privs, lw_okq q := by
  show ∀ q ∈ lw_privs_1 ++ (lw_privs_2), lw_okq q
  exact List.forall_mem_append.mpr ⟨lw_r1, lw_r2⟩
/-- the streams that the claim lets the run draw from -/
abbrev lw_cs : List Choice := [Jvm.Choice.named "NaN.bits"]
theorem lw_bits : nanBits ∈ lw_cs := by first | decide | exact List.mem_cons_self | simp [lw_cs, nanBits]
-- ===== end of PART A; then your names; then what follows =====
end
section
/-! ===== BEGIN words of one list among another's, by their places ===== -/
theorem goodIn_r {big : List Cond} (ws : List Cond) (ps : List Nat) (hp : ws = ps.filterMap (fun i => big[i]?)) (h : ws.all goodWord = true) : GoodIn big ws := by
  intro w hw
  have h1 := List.all_eq_true.mp h w hw
  rw [hp] at hw
  obtain ⟨i, -, hi⟩ := List.mem_filterMap.mp hw
  have hm : w ∈ big := by first | exact List.mem_of_getElem? hi | exact List.getElem?_mem hi
  exact ⟨hm, good_of_word h1⟩
theorem goodIn_app {big a b : List Cond} (ha : GoodIn big a) (hb : GoodIn big b) : GoodIn big (a ++ b) := fun w h => (List.mem_append.mp h).elim (ha w) (hb w)
theorem goodIn_ca {big a b : List Cond} {c : Cond} (ha : GoodIn big (c :: a)) (hb : GoodIn big b) : GoodIn big (c :: (a ++ b)) := fun w h => (List.mem_cons.mp h).elim (fun e => ha w (List.mem_cons.mpr (Or.inl e))) (fun h => (List.mem_append.mp h).elim (fun h => ha w (List.mem_cons.mpr (Or.inr h))) (hb w))
theorem goodIn_sub {big ws : List Cond} (hm : ∀ w ∈ ws, w ∈ big) (h : ws.all goodWord = true) : GoodIn big ws := fun w hw => ⟨hm w hw, good_of_word (List.all_eq_true.mp h w hw)⟩
/-! ===== END ===== -/

/-! ===== BEGIN new T[n][m]: the outer array a place, the inner ones among the pooled ===== -/
/-- f, but v at every address of l -/
def vr_up {α : Type} (f : Nat → α) (l : List Nat) (v : α) : Nat → α := fun a => if a ∈ l then v else f a
theorem vr_up_in {α : Type} {f : Nat → α} {l : List Nat} {v : α} {a : Nat} (h : a ∈ l) : vr_up f l v a = v := if_pos h
theorem vr_up_ne {α : Type} {f : Nat → α} {l : List Nat} {v : α} {a : Nat} (h : a ∉ l) : vr_up f l v a = f a := if_neg h
theorem vr_rows {L l : List Nat} {f : Nat → va_E} {e : va_E} (h : ∀ a, a ∈ l → a ∉ L) : va_pl L f ++ l.map (fun a => (a, e)) = va_pl (L ++ l) (vr_up f l e) := by
  unfold va_pl
  rw [List.map_append]
  congr 1
  · apply List.map_congr_left
    intro a ha
    rw [vr_up_ne (fun q => h a q ha)]
  · apply List.map_congr_left
    intro a ha
    rw [vr_up_in ha]
theorem vr_lay {X rows : va_W} {x : Nat × va_E} {pl : va_W} {D : va_G} {cl : List vw_C} {H : Heap} (hP : va_P D cl (((X ++ pl) ++ [x]) ++ rows) H) : va_P D cl ((X ++ [x]) ++ (pl ++ rows)) H := by
  rw [List.append_assoc (X ++ pl)] at hP
  have h := va_P.swap hP
  rw [← List.append_assoc X] at h
  have h2 := va_P.swap h
  rw [List.append_assoc (X ++ [x])] at h2
  exact h2
theorem vr_layD {X rows : va_W} {x : Nat × va_E} {pl : va_W} {A : Nat → Prop} (hD : va_D A (((X ++ pl) ++ [x]) ++ rows)) : va_D A ((X ++ [x]) ++ (pl ++ rows)) := by
  rw [List.append_assoc (X ++ pl)] at hD
  have h := va_D.swap hD
  rw [← List.append_assoc X] at h
  have h2 := va_D.swap h
  rw [List.append_assoc (X ++ [x])] at h2
  exact h2
theorem vr_outer (c : ClassId) (N h0 : Nat) : ∀ i : Nat, Jvm.Free.Multi.outerC c N h0 i = arrV c N (fun j => va_rf (if j < i then some (h0 + 1 + j) else none))
  | 0 => by
    show ({ cls := c, slots := Array.replicate N .null, vm := .none } : Cell) = _
    rw [arrV_new]
    refine congrArg (arrV c N) (funext fun j => ?_)
    simp [va_rf]
  | i + 1 => by
    show (Jvm.Free.Multi.outerC c N h0 i).setSlot i (.ref (h0 + 1 + i)) = _
    rw [vr_outer c N h0 i, arrV_store]
    refine congrArg (arrV c N) (funext fun j => ?_)
    by_cases e : j = i
    · subst e
      simp [updV, va_rf]
    · by_cases h : j < i
      · simp [updV, e, h, Nat.lt_succ_of_lt h]
      · simp [updV, e, h, show ¬ j < i + 1 by omega]
section VGM
variable {p : Program} {l : Launch} {e : Env} {R : Room} {s : State} {m : MethodId} {args : Array Value} {below : List Frame} {meth : Method} {c : Code} {H : Heap} {locs : List Loc} {cells slots : Nat} {Q : State → Prop}
variable {cc : ByteArray} {pc : Nat} {ls : Array Slot} {rest : List Value} {D : va_G} {cl : List vw_C} {A : Nat → Prop} {a : Nat} {tys : List (ClassId × FieldType)} {ws : va_W} {H0 : Heap}
theorem va_mna {X : va_W} {L : List Nat} {f : Nat → va_E} {cc : ByteArray} (hexec : p.tables.exec = Jvm.exec) (hb : c.code = cc) {own : String} {index : Nat} {ty : FieldType} {cy : ClassId} (hown : s.vm.findClass own = some m.cls) (hclink : (Cond.classLink own index ("[" ++ (FieldType.array ty).toString)).before args s = true) (hover : (Cond.arrayOver (.array ty)).before args s = true) (harr : (Cond.arrayClass ty).before args s = true) (hcy : s.vm.findClass (FieldType.array ty).toString = some cy)
    (hK : va_K D cl tys s) (hP : va_P D cl (X ++ va_pl L f) H) (hD : va_D A (X ++ va_pl L f)) (hS : va_S A H0 H locs) (hA : ∀ q, H0.size ≤ q → A q) {n k : Int32} {N' K' : Nat} {z : vp_A} (hn : ¬ n < 0) (hk : ¬ k < 0) (hN : n.toNatClampNeg = N') (hM : k.toNatClampNeg = K')
    (hb1 : N' * 4 ≤ 536870912) (hb2 : K' * componentBytes ty ≤ 536870912) (hb3 : K' ≤ 536870912) (hdf : fits ty (defaultValue ty) = true) (hdd : (defaultValue ty).isDefault = true) (hcells : cells + (1 + N') ≤ R.cells) (hslots : slots + (N' + N' * K') ≤ R.slots) (hz : ∀ c : ClassId, Jvm.Free.Multi.innerC c K' (defaultValue ty) = vp_cell c z) (hdg : decode cc pc = .ok (.multianewarray index 2, 4))
    (kk : ∀ (q : Nat) (r : Nat → Nat) (cA : ClassId) (H1 : Heap), (∀ i j : Nat, i < N' → j < N' → r i = r j → i = j) → (∀ i : Nat, i < N' → r i ∉ L) → va_K D cl (tys ++ [(cA, .array ty)]) s →
      va_P D cl ((X ++ [(q, .inl (cA, N', .inr (.inr (.inr (.inr (fun i => if i < N' then some (r i) else none))))))]) ++ va_pl (L ++ (List.range N').map r) (vr_up f ((List.range N').map r) (.inl (cy, z)))) H1 → va_D A ((X ++ [(q, .inl (cA, N', .inr (.inr (.inr (.inr (fun i => if i < N' then some (r i) else none))))))]) ++ va_pl (L ++ (List.range N').map r) (vr_up f ((List.range N').map r) (.inl (cy, z)))) → va_S A H0 H1 locs →
      W p l e R s m args below meth c H1 locs (cells + 1 + N') (slots + N' + N' * K') Q (F0 m (pc + 4) ls (.ref q :: rest))) : W p l e R s m args below meth c H locs cells slots Q (F0 m pc ls (.int k :: .int n :: rest)) := by
  subst hN
  subst hM
  intro T hT Xs
  obtain ⟨vm₁, cA, comp, -, fA, fC, hO, -, X', step⟩ := Xs.multianewarray2F hexec hown hclink hover harr (g := F0 m pc ls (.int k :: .int n :: rest)) rfl (by rw [hb]; exact hdg) rfl hn hk hb1 hb2 hb3 hdf hdd hcells hslots
  have ec : some cy = some comp := hcy.symm.trans fC
  cases ec
  generalize hF : Jvm.Free.Multi.fill (T.setVm vm₁) cA cy n.toNatClampNeg k.toNatClampNeg (defaultValue ty) n.toNatClampNeg = F at X' step
  have hTh : (T.setVm vm₁).heap = H := hT
  obtain ⟨f1, f2, -, -⟩ := Jvm.Free.Multi.fill_facts (T.setVm vm₁) cA cy n.toNatClampNeg k.toNatClampNeg (defaultValue ty) n.toNatClampNeg
  rw [hF, hTh] at f1 f2
  have hold : ∀ x : Nat, x < H.size → F.heap[x]? = H[x]? := fun x hx => by
    have := Jvm.Free.Multi.fill_old (T.setVm vm₁) cA cy n.toNatClampNeg k.toNatClampNeg (defaultValue ty) (a := x) (by rw [hTh]; exact hx) n.toNatClampNeg
    rw [hF, hTh] at this
    exact this
  have hrow : ∀ j : Nat, j < n.toNatClampNeg → F.heap[H.size + 1 + j]? = some (vp_cell cy z) := fun j hj => by
    have := Jvm.Free.Multi.fill_inner (T.setVm vm₁) cA cy n.toNatClampNeg k.toNatClampNeg (defaultValue ty) n.toNatClampNeg j hj
    rw [hF, hTh, hz] at this
    exact this
  have hout : Jvm.Free.Multi.outerC cA n.toNatClampNeg H.size n.toNatClampNeg = vp_cell cA (n.toNatClampNeg, .inr (.inr (.inr (.inr (fun i => if i < n.toNatClampNeg then some (H.size + 1 + i) else none))))) := by
    rw [vp_cell_q]
    exact vr_outer cA n.toNatClampNeg H.size n.toNatClampNeg
  rw [hout] at f2
  have hlt : ∀ a, a ∈ L → a < H.size := fun a ha => by
    obtain ⟨k9, hk9⟩ := va_pl_get (X := X) (f := f) ha
    exact (hP k9 _ hk9).lt
  have hnl : ∀ i : Nat, i < n.toNatClampNeg → H.size + 1 + i ∉ L := fun i _ h => by
    have := hlt _ h
    omega
  have hnm : ∀ a, a ∈ (List.range n.toNatClampNeg).map (fun i => H.size + 1 + i) → a ∉ L := fun a ha h => by
    obtain ⟨i, -, rfl⟩ := List.mem_map.mp ha
    have := hlt _ h
    omega
  have hP0 : va_P D cl (X ++ va_pl L f) F.heap := hP.kept (fun k9 x hx => hold x.1 ((hP k9 x hx).lt))
  have hP1 : va_P D cl ((X ++ va_pl L f) ++ [(H.size, .inl (cA, n.toNatClampNeg, .inr (.inr (.inr (.inr (fun i => if i < n.toNatClampNeg then some (H.size + 1 + i) else none))))))]) F.heap := hP0.app (fun k9 x hx => by
    have h0 : k9 < 1 := (List.getElem?_eq_some_iff.mp hx).1
    rw [show k9 = 0 by omega] at hx
    cases hx
    exact f2)
  have hP2 : va_P D cl (((X ++ va_pl L f) ++ [(H.size, .inl (cA, n.toNatClampNeg, .inr (.inr (.inr (.inr (fun i => if i < n.toNatClampNeg then some (H.size + 1 + i) else none))))))]) ++ ((List.range n.toNatClampNeg).map (fun i => H.size + 1 + i)).map (fun a => (a, .inl (cy, z)))) F.heap := hP1.app (fun k9 x hx => by
    obtain ⟨a, ha, rfl⟩ := List.mem_map.mp (List.mem_of_getElem? hx)
    obtain ⟨i, hi, rfl⟩ := List.mem_map.mp ha
    exact hrow i (List.mem_range.mp hi))
  have hD2 : va_D A (((X ++ va_pl L f) ++ [(H.size, .inl (cA, n.toNatClampNeg, .inr (.inr (.inr (.inr (fun i => if i < n.toNatClampNeg then some (H.size + 1 + i) else none))))))]) ++ ((List.range n.toNatClampNeg).map (fun i => H.size + 1 + i)).map (fun a => (a, .inl (cy, z)))) := by
    have hD1 := hD.push (e := .inl (cA, n.toNatClampNeg, .inr (.inr (.inr (.inr (fun i => if i < n.toNatClampNeg then some (H.size + 1 + i) else none)))))) hP rfl (hA _ hS.1)
    generalize hW1 : (X ++ va_pl L f) ++ [(H.size, .inl (cA, n.toNatClampNeg, .inr (.inr (.inr (.inr (fun i => if i < n.toNatClampNeg then some (H.size + 1 + i) else none))))))] = W1 at hD1 hP1 ⊢
    have hle : ∀ (k9 : Nat) (x : Nat × va_E), W1[k9]? = some x → x.1 ≤ H.size := fun k9 x hx => by
      rw [← hW1] at hx
      by_cases hl : k9 < (X ++ va_pl L f).length
      · rw [List.getElem?_append_left hl] at hx
        exact Nat.le_of_lt ((hP k9 x hx).lt)
      · rw [List.getElem?_append_right (by omega)] at hx
        have h0 : k9 - (X ++ va_pl L f).length < 1 := (List.getElem?_eq_some_iff.mp hx).1
        rw [show k9 - (X ++ va_pl L f).length = 0 by omega] at hx
        cases hx
        exact Nat.le_refl _
    have hr : ∀ (k9 : Nat) (x : Nat × va_E), (((List.range n.toNatClampNeg).map (fun i => H.size + 1 + i)).map (fun a => ((a, .inl (cy, z)) : Nat × va_E)))[k9]? = some x → x.1 = H.size + 1 + k9 := fun k9 x hx => by
      rw [List.getElem?_map, List.getElem?_map] at hx
      by_cases h9 : k9 < n.toNatClampNeg
      · rw [List.getElem?_range h9] at hx
        cases hx
        rfl
      · have hn0 : (List.range n.toNatClampNeg)[k9]? = none := List.getElem?_eq_none (by rw [List.length_range]; omega)
        rw [hn0] at hx
        cases hx
    refine ⟨fun i j x y hi hj hxy => ?_, fun k9 x hx => ?_⟩
    · by_cases h1 : i < W1.length <;> by_cases h2 : j < W1.length
      · rw [List.getElem?_append_left h1] at hi
        rw [List.getElem?_append_left h2] at hj
        exact hD1.1 i j x y hi hj hxy
      · rw [List.getElem?_append_left h1] at hi
        rw [List.getElem?_append_right (by omega)] at hj
        have := hle _ _ hi
        have := hr _ _ hj
        omega
      · rw [List.getElem?_append_right (by omega)] at hi
        rw [List.getElem?_append_left h2] at hj
        have := hle _ _ hj
        have := hr _ _ hi
        omega
      · rw [List.getElem?_append_right (by omega)] at hi hj
        have := hr _ _ hi
        have := hr _ _ hj
        omega
    · by_cases h1 : k9 < W1.length
      · rw [List.getElem?_append_left h1] at hx
        exact hD1.2 k9 x hx
      · rw [List.getElem?_append_right (by omega)] at hx
        have := hr _ _ hx
        exact hA _ (by have := hS.1; omega)
  have hAr : ArrOfT s cA (.array ty) := fun N9 z9 => by
    obtain ⟨-, k9, hk9, cm9, hkk9⟩ := (hO 0 0 0).1
    exact ⟨(fun q hq => by cases hq), k9, hk9, cm9, hkk9⟩
  have hK2 : va_K D cl (tys ++ [(cA, .array ty)]) s := ⟨hK.1, fun k9 x hx => by
    by_cases hl : k9 < tys.length
    · rw [List.getElem?_append_left hl] at hx
      exact hK.2 k9 x hx
    · rw [List.getElem?_append_right (by omega)] at hx
      have h0 : k9 - tys.length < 1 := (List.getElem?_eq_some_iff.mp hx).1
      rw [show k9 - tys.length = 0 by omega] at hx
      cases hx
      exact ⟨hAr, fA⟩⟩
  obtain ⟨t, a1, b1⟩ := kk H.size (fun i => H.size + 1 + i) cA F.heap (fun i j _ _ h => by have h9 : H.size + 1 + i = H.size + 1 + j := h; omega) hnl hK2 (by rw [← vr_rows hnm]; exact vr_lay hP2) (by rw [← vr_rows hnm]; exact vr_layD hD2) ⟨by rw [f1]; have := hS.1; omega, fun x h1 h2 => (hold x (Nat.lt_of_lt_of_le h1 hS.1)).trans (hS.2.1 x h1 h2), hS.2.2⟩ F rfl X'
  refine ⟨t, step t ?_, b1⟩
  have e : T.heap.size = H.size := by rw [hT]
  rw [e]
  exact a1
end VGM
/-! ===== END ===== -/

/-! ===== BEGIN exceptions that leave a method, and their catching by the caller (launches without stack traces) ===== -/
section VXA
/-! The laws vx_back, vx_callV, vx_callS, vx_callSW, vx_throw0, vx_throwS follow proofs of the library, with one case more: JvmDerived/Free/Laws.lean (Back.of_free), Shelf42/LK1.lean (callV, callS), Shelf/KitTraced.lean (throwNew0V, throwNewS). -/
/-- where a method has thrown q: the class by its name, the cell, what was written, the world -/
def vx_T (XC : String → State → State → Prop) (st : State) (q : Addr) (t : State) (mc ms : Nat) (free : Addr → Prop) : Prop :=
  ∃ (E : String) (ce : Cell) (L : List Loc), XC E st t ∧ t.heap[q]? = some ce ∧ ce.vm = .none ∧ st.vm.findClass E = some ce.cls ∧ st.WarmedH t.vm ∧ st.sameButNew ({ t with vm := st.vm } : State) L mc ms ∧ ∀ z ∈ L, free z.base
def vx_Q (Qc : Array Value → State → Outcome → State → Prop) (XC : String → State → State → Prop) (mc ms : Nat) (free : Addr → Prop) : Array Value → State → Outcome → State → Prop := fun a st o t =>
  (Qc a st o t ∧ ∃ L, FrameEnd st o t L mc ms ∧ ∀ q ∈ L, free q.base) ∨ ∃ q, o = .threw q ∧ vx_T XC st q t mc ms free
/-- a callee that returns or throws -/
def vx_Met (l : Launch) (y : MethodName) (ws : List Cond) (rm : Room) (Pc : Array Value → State → Prop) (Qc : Array Value → State → Outcome → State → Prop) (XC : String → State → State → Prop) (mc ms : Nat) (free : Addr → Prop) : Prop :=
  MetFree l y (headSpec ws rm) Pc (fun _ _ _ _ _ => True) (vx_Q Qc XC mc ms free)
def vx_Post (XC : String → State → State → Prop) (mc ms : Nat) (free : Addr → Prop) : Pt → Array Value → Addr → Pt → Prop := fun A a q B =>
  ∃ (g : JFrame) (mk : MethodId) (t : State) (L : List Loc) (E : String) (ce : Cell), B.U.heap = t.heap ∧ B.U.vm = t.vm ∧ XC E (A.U.calling g mk a) t ∧ t.heap[q]? = some ce ∧ ce.vm = .none ∧ A.U.vm.findClass E = some ce.cls ∧ B.locs = A.locs ++ L ∧ (∀ z ∈ L, free z.base) ∧ B.cells = A.cells + mc ∧ B.slots = A.slots + ms
def vx_Back (l : Launch) (R : Room) (p : Program) (e : Env) (below : List Frame) (s : State) (sargs : Array Value) (y : MethodName) (len W9 : Nat)
    (Pre : Pt → Array Value → Prop) (Post : Pt → Array Value → Option Value → Pt → Prop) (PostX : Pt → Array Value → Addr → Pt → Prop) : Prop :=
  ∀ (m : MethodId) (meth : Method) (c : Code) (A : Pt) (g : JFrame) (ig : Instr) (mk : MethodId) (a : Array Value),
    Stand p l e R s m sargs below meth c A.U A.locs A.cells A.slots → g.method = m → g.locals.size = c.maxLocals → decode c.code g.pc = .ok (ig, len) →
    2 * g.monitorRoom + (g.stack.map fun v => v.category).sum ≤ W9 → A.U.methodNamed? y = some mk → Pre A a →
    (∃ (v : Option Value) (B : Pt), Stand p l e R s m sargs below meth c B.U B.locs B.cells B.slots ∧ Post A a v B ∧
      Steps p.tables e below (doInvoke e (A.U.setTop g) [] mk a).1 (B.U.setTop { g with pc := g.pc + len, stack := v.toList ++ g.stack })) ∨
    (∃ (q : Addr) (B : Pt), Stand p l e R s m sargs below meth c B.U B.locs B.cells B.slots ∧ PostX A a q B ∧
      Steps p.tables e below (doInvoke e (A.U.setTop g) [] mk a).1 ((B.U.setTop g).pushFrame (.throwing q)))
section Payer
variable {l : Launch} {R : Room} {p : Program} {e : Env} {below : List Frame} {s : State} {sargs : Array Value} {y : MethodName} {len W9 : Nat}
theorem vx_back {ws : List Cond} {rm : Room} {Pc : Array Value → State → Prop} {Qc : Array Value → State → Outcome → State → Prop} {XC : String → State → State → Prop} {mc ms : Nat} {free : Addr → Prop} {bytes : ByteArray} {maxL : Nat} {ret : Option FieldType}
    (hM : vx_Met l y ws rm Pc Qc XC mc ms free) (hblind : FrameBlind Pc) (hrc : rm.cells = mc) (hrs : rm.slots = ms)
    (hframes : rm.frames + 1 ≤ R.frames) (hlocals : W9 + (maxL + 11) + rm.locals ≤ R.locals)
    (hws : ∀ w ∈ ws, ∀ a' U, s.WarmedH U.vm → w.before a' U = true) (hcode : Cond.code y bytes maxL ret ∈ ws) (hinit : ∀ a' U, s.WarmedH U.vm → (Cond.initialized y.cls).before a' U = true) :
    vx_Back l R p e below s sargs y len W9 (PreOf R mc ms Pc) (PostOf Qc mc ms free) (vx_Post XC mc ms free) := by
  intro m meth c A g ig mk a X hg hsize hdg hW hn hp
  have h1 : (headSpec ws rm).pre.before a A.U = true := atoms_intro fun w hw => hws w hw _ _ X.warmed
  have h2 : (Cond.code y bytes maxL ret).before a A.U = true := hws _ hcode _ _ X.warmed
  have h3 : (Cond.initialized y.cls).before a A.U = true := hinit _ _ X.warmed
  have h4 : A.cells + (headSpec ws rm).room.cells ≤ R.cells := by rw [show (headSpec ws rm).room.cells = mc from hrc]; exact hp.1
  have h5 : A.slots + (headSpec ws rm).room.slots ≤ R.slots := by rw [show (headSpec ws rm).room.slots = ms from hrs]; exact hp.2.1
  have hPc : Pc a (A.U.calling g mk a) := hblind _ _ _ _ hp.2.2
  obtain ⟨U, Ls, c0, s0⟩ := A
  dsimp only [Pt.U, Pt.locs, Pt.cells, Pt.slots] at h1 h2 h3 h4 h5 X hn hPc ⊢
  obtain ⟨methY, cY, hmY, hcY, -, hlY, -, -, -, -⟩ := Cond.code_spec hn h2
  obtain ⟨kY, hkY, -⟩ := className_of_methodNamed hn
  have hinitY : kY.init = .initialized := Cond.initialized_spec (findClass_of_methodNamed hn) hkY h3
  have h : At U g.method c below := by rw [hg]; exact X.here
  have hlocals9 : W9 + (maxL + 11) + (headSpec ws rm).room.locals ≤ R.locals := hlocals
  have happ : (headSpec ws rm).appliesLoose y e.platform (U.calling g mk a) = true :=
    Spec.appliesLoose_calling (g := g) h hdg hn hkY hinitY
      (X.room_calling (g := g) (R' := (headSpec ws rm).room) hsize hmY hcY hframes (by rw [hlY]; omega) h4 h5) h1
  obtain ⟨mid, hmid⟩ := h.above
  have hfr : (U.setTop g).frames = (.java g :: mid) ++ below := by rw [State.frames_setTop' g h.top, hmid]; rfl
  obtain ⟨o, s₂, hsteps, -, hend, hq⟩ := Steps.callFree hM p X.admits X.cas X.clock (acts := []) hfr happ hPc trivial
  have hq' : vx_Q Qc XC mc ms free a (U.calling g mk a) o s₂ := hq
  rw [State.frames_setTop' g h.top] at hend
  obtain ⟨g₀, hg0⟩ := Option.isSome_iff_exists.mp h.top
  obtain ⟨r, hr⟩ := State.topJava?_eq_some.mp hg0
  have hr' : (({ U with heap := s₂.heap, slotsUsed := s₂.slotsUsed } : State).setVm s₂.vm).frames = .java g₀ :: r := hr
  rcases hq' with ⟨hqc, L, hfe, hL⟩ | ⟨q, rfl, E, ce, L, hx, hce, hcv, hcl, hW₂, hsm, hL⟩
  · obtain ⟨⟨v, rfl⟩, hW₂, e2, q2, q3, q4, q5, q6⟩ := id hfe
    have e3 : s₂ = ({ (U.calling g mk a).setFrames s₂.frames with heap := s₂.heap, slotsUsed := s₂.slotsUsed } : State).setVm s₂.vm := by
      have : s₂ = ({ s₂ with vm := (U.calling g mk a).vm } : State).setVm s₂.vm := rfl
      rw [e2] at this
      exact this
    obtain ⟨c₂, i₂, len₂, hc₂, hd₂, hf₂⟩ := hend
    have hW' : U.WarmedH s₂.vm := hW₂
    have hcc : c₂ = c := by
      have h1 : s₂.code? g.method = U.code? g.method := by
        rw [State.code?_eq, State.code?_eq, hW'.alike.method?]
      exact Option.some.inj (hc₂.symm.trans (h1.trans h.code))
    subst hcc
    have hlen : len₂ = len := by rw [hdg] at hd₂; cases hd₂; rfl
    subst hlen
    have hs₂ : s₂ = (({ U with heap := s₂.heap, slotsUsed := s₂.slotsUsed } : State).setVm s₂.vm).setTop { g with pc := g.pc + len₂, stack := v.toList ++ g.stack } := by
      refine e3.trans ?_
      rw [hf₂, State.calling_eq h.top, State.setFrames_setFrames, State.setTop_of_frames _ hr', hr]
      rfl
    have hsame : U.sameButNew ({ U with heap := s₂.heap, slotsUsed := s₂.slotsUsed } : State) L mc ms := by
      refine ⟨?_, q2, q3, q4, q5, q6⟩
      obtain ⟨t, ht, -⟩ := State.frames_cons hr
      show ({ U with heap := s₂.heap, slotsUsed := s₂.slotsUsed } : State) = { U.setFrames U.frames with heap := s₂.heap, slotsUsed := s₂.slotsUsed }
      rw [State.setFrames_self ht]
    subst hg
    refine Or.inl ⟨v, ⟨(({ U with heap := s₂.heap, slotsUsed := s₂.slotsUsed } : State).setVm s₂.vm), Ls ++ L, c0 + mc, s0 + ms⟩,
      ⟨X.admits, X.cas, X.clock, X.frames, X.room, X.hears, X.method, X.code, (X.here.setHeapUsed s₂.heap s₂.slotsUsed).setVm hW'.alike, X.tail, State.WarmedH.trans X.warmed hW', X.limits, X.bytes, X.same.trans (hsame.setVm s.vm)⟩,
      ⟨g, mk, s₂, L, rfl, rfl, hqc, rfl, hL, rfl, rfl⟩, ?_⟩
    show Steps p.tables e below _ ((({ U with heap := s₂.heap, slotsUsed := s₂.slotsUsed } : State).setVm s₂.vm).setTop { g with pc := g.pc + len₂, stack := v.toList ++ g.stack })
    rw [← hs₂]
    exact hsteps
  · obtain ⟨e2, q2, q3, q4, q5, q6⟩ := id hsm
    have e3 : s₂ = ({ (U.calling g mk a).setFrames s₂.frames with heap := s₂.heap, slotsUsed := s₂.slotsUsed } : State).setVm s₂.vm := by
      have : s₂ = ({ s₂ with vm := (U.calling g mk a).vm } : State).setVm s₂.vm := rfl
      rw [e2] at this
      exact this
    have hf₂ : s₂.frames = .throwing q :: .java g :: U.frames.tail := hend
    have hW' : U.WarmedH s₂.vm := hW₂
    have hs₂ : s₂ = ((({ U with heap := s₂.heap, slotsUsed := s₂.slotsUsed } : State).setVm s₂.vm).setTop g).pushFrame (.throwing q) := by
      refine e3.trans ?_
      rw [hf₂, State.calling_eq h.top, State.setFrames_setFrames, State.pushFrame, State.frames_setTop _ hr', State.setTop_of_frames _ hr', State.setFrames_setFrames, hr]
      rfl
    have hsame : U.sameButNew ({ U with heap := s₂.heap, slotsUsed := s₂.slotsUsed } : State) L mc ms := by
      refine ⟨?_, q2, q3, q4, q5, q6⟩
      obtain ⟨t, ht, -⟩ := State.frames_cons hr
      show ({ U with heap := s₂.heap, slotsUsed := s₂.slotsUsed } : State) = { U.setFrames U.frames with heap := s₂.heap, slotsUsed := s₂.slotsUsed }
      rw [State.setFrames_self ht]
    subst hg
    refine Or.inr ⟨q, ⟨(({ U with heap := s₂.heap, slotsUsed := s₂.slotsUsed } : State).setVm s₂.vm), Ls ++ L, c0 + mc, s0 + ms⟩,
      ⟨X.admits, X.cas, X.clock, X.frames, X.room, X.hears, X.method, X.code, (X.here.setHeapUsed s₂.heap s₂.slotsUsed).setVm hW'.alike, X.tail, State.WarmedH.trans X.warmed hW', X.limits, X.bytes, X.same.trans (hsame.setVm s.vm)⟩,
      ⟨g, mk, s₂, L, E, ce, rfl, rfl, hx, hce, hcv, hcl, rfl, hL, rfl, rfl⟩, ?_⟩
    show Steps p.tables e below _ (((({ U with heap := s₂.heap, slotsUsed := s₂.slotsUsed } : State).setVm s₂.vm).setTop g).pushFrame (.throwing q))
    rw [← hs₂]
    exact hsteps
end Payer
section Calls
variable {p : Program} {l : Launch} {e : Env} {R : Room} {s : State} {m : MethodId} {args : Array Value} {below : List Frame} {meth : Method} {c : Code} {T : State} {locs : List Loc} {cells slots : Nat}
theorem vx_callV (X : Stand p l e R s m args below meth c T locs cells slots) (hexec : p.tables.exec = Jvm.exec) {own C : String} {index : Nat} {y : MethodName} {bytes : ByteArray} {maxL : Nat} {ret : Option FieldType}
    (hown : s.vm.findClass own = some m.cls) (hlink : (Cond.methodLink own index y).before args s = true) (hinst : (Cond.instanceMethod y).before args s = true) (hsel : (Cond.selects C y y).before args s = true)
    (hcode : (Cond.code y bytes maxL ret).before args s = true) (hy : y.cls ≠ "java/lang/invoke/MethodHandle" ∧ y.cls ≠ "java/lang/invoke/VarHandle")
    {W9 : Nat} {Pre : Pt → Array Value → Prop} {Post : Pt → Array Value → Option Value → Pt → Prop} {PostX : Pt → Array Value → Addr → Pt → Prop} (hK : vx_Back l R p e below s args y 3 W9 Pre Post PostX)
    {b : Addr} {cellB : Cell} (hcell : T.heap[b]? = some cellB) (hobj : cellB.vm.isStatics = false) (hcls : s.vm.findClass C = some cellB.cls)
    {g : JFrame} (hg : g.method = m) (hsize : g.locals.size = c.maxLocals) {argsL rest : List Value} (hlen : ∀ sig, parseMethodDescriptor y.desc = some sig → argsL.length = sig.parameters.length)
    (hstack : g.stack = argsL.reverse ++ .ref b :: rest) (hW : 2 * g.monitorRoom + (rest.map fun v => v.category).sum ≤ W9) (hdg : decode c.code g.pc = .ok (.invokevirtual index, 3))
    (hpre : ∀ vm₁, s.WarmedH vm₁ → Pre ⟨T.setVm vm₁, locs, cells, slots⟩ (Value.ref b :: argsL).toArray) :
    (∃ (v : Option Value) (vm₁ : Vm) (B : Pt), s.WarmedH vm₁ ∧ Stand p l e R s m args below meth c B.U B.locs B.cells B.slots ∧ Post ⟨T.setVm vm₁, locs, cells, slots⟩ (Value.ref b :: argsL).toArray v B ∧
      ∀ target, Steps p.tables e below (B.U.setTop { g with pc := g.pc + 3, stack := v.toList ++ rest }) target → Steps p.tables e below (T.setTop g) target) ∨
    (∃ (q : Addr) (vm₁ : Vm) (B : Pt), s.WarmedH vm₁ ∧ Stand p l e R s m args below meth c B.U B.locs B.cells B.slots ∧ PostX ⟨T.setVm vm₁, locs, cells, slots⟩ (Value.ref b :: argsL).toArray q B ∧
      Steps p.tables e below (T.setTop g) ((B.U.setTop { g with stack := rest }).pushFrame (.throwing q))) := by
  obtain ⟨mk, methM, hnamed, hmethM, hstM, habM⟩ := Cond.instanceMethod_spec hinst
  obtain ⟨methM', cM, hmethM', -, -, -, -, -, -, hsigM⟩ := Cond.code_spec hnamed hcode
  cases hmethM.symm.trans hmethM'
  obtain ⟨c2, r2, m2, q1, q2, q3, q4, kP, hkP, hkPi⟩ := Cond.selects_spec hsel
  cases hcls.symm.trans q1
  cases (State.methodFound?_of_named hnamed hy).symm.trans q2
  cases hnamed.symm.trans q3
  have hselP : selectMethod e.platform s.vm cellB.cls mk = .method mk := by rw [Launch.admits_selectMethod X.admits]; exact q4
  obtain ⟨vm₁, X₁, hstep₁⟩ := X.invokevirtual hexec hown hlink hnamed hmethM hstM hkP hkPi hy (a := b) (cell := cellB) hcell
    (fun z h => by rw [h] at hobj; cases hobj) hselP hmethM habM hkP hkPi (g := g) hg (argsL := argsL) (rest := rest) (hlen _ hsigM) hstack hdg
  rcases hK m meth c ⟨T.setVm vm₁, locs, cells, slots⟩ { g with stack := rest } (.invokevirtual index) mk (Value.ref b :: argsL).toArray X₁ hg hsize hdg hW (X₁.named hnamed) (hpre vm₁ X₁.warmed) with ⟨v, B, X', hpost, hsteps⟩ | ⟨q, B, X', hpost, hsteps⟩
  · exact Or.inl ⟨v, vm₁, B, X₁.warmed, X', hpost, fun target h => hstep₁ _ fun acts => by rw [doInvoke_state]; exact hsteps.trans h⟩
  · exact Or.inr ⟨q, vm₁, B, X₁.warmed, X', hpost, hstep₁ _ fun acts => by rw [doInvoke_state]; exact hsteps⟩
theorem vx_callS (X : Stand p l e R s m args below meth c T locs cells slots) (hexec : p.tables.exec = Jvm.exec) {own : String} {index : Nat} {y : MethodName} {bytes : ByteArray} {maxL : Nat} {ret : Option FieldType}
    (hown : s.vm.findClass own = some m.cls) (hlink : (Cond.methodLink own index y).before args s = true) (hstat : (Cond.static y).before args s = true) (hinit : (Cond.initialized y.cls).before args s = true)
    (hcode : (Cond.code y bytes maxL ret).before args s = true) (hy : y.cls ≠ "java/lang/invoke/MethodHandle" ∧ y.cls ≠ "java/lang/invoke/VarHandle")
    {W9 : Nat} {Pre : Pt → Array Value → Prop} {Post : Pt → Array Value → Option Value → Pt → Prop} {PostX : Pt → Array Value → Addr → Pt → Prop} (hK : vx_Back l R p e below s args y 3 W9 Pre Post PostX)
    {g : JFrame} (hg : g.method = m) (hsize : g.locals.size = c.maxLocals) {argsL rest : List Value} (hlen : ∀ sig, parseMethodDescriptor y.desc = some sig → argsL.length = sig.parameters.length)
    (hstack : g.stack = argsL.reverse ++ rest) (hW : 2 * g.monitorRoom + (rest.map fun v => v.category).sum ≤ W9) (hdg : decode c.code g.pc = .ok (.invokestatic index, 3))
    (hpre : ∀ vm₁, s.WarmedH vm₁ → Pre ⟨T.setVm vm₁, locs, cells, slots⟩ argsL.toArray) :
    (∃ (v : Option Value) (vm₁ : Vm) (B : Pt), s.WarmedH vm₁ ∧ Stand p l e R s m args below meth c B.U B.locs B.cells B.slots ∧ Post ⟨T.setVm vm₁, locs, cells, slots⟩ argsL.toArray v B ∧
      ∀ target, Steps p.tables e below (B.U.setTop { g with pc := g.pc + 3, stack := v.toList ++ rest }) target → Steps p.tables e below (T.setTop g) target) ∨
    (∃ (q : Addr) (vm₁ : Vm) (B : Pt), s.WarmedH vm₁ ∧ Stand p l e R s m args below meth c B.U B.locs B.cells B.slots ∧ PostX ⟨T.setVm vm₁, locs, cells, slots⟩ argsL.toArray q B ∧
      Steps p.tables e below (T.setTop g) ((B.U.setTop { g with stack := rest }).pushFrame (.throwing q))) := by
  obtain ⟨mk, hnamed⟩ := Cond.code_named hcode
  obtain ⟨methM, cM, hmethM, -, -, -, -, -, -, hsigM⟩ := Cond.code_spec hnamed hcode
  have hstatic : methM.isStatic = true := Cond.static_spec hnamed hmethM hstat
  obtain ⟨kP, hkP, -⟩ := className_of_methodNamed hnamed
  have hinitP : kP.init = .initialized := Cond.initialized_spec (findClass_of_methodNamed hnamed) hkP hinit
  obtain ⟨vm₁, X₁, hstep₁⟩ := X.invokestatic hexec hown hlink hnamed hmethM hstatic hkP hinitP hy (g := g) hg (argsL := argsL) (rest := rest) (hlen _ hsigM) hstack hdg
  rcases hK m meth c ⟨T.setVm vm₁, locs, cells, slots⟩ { g with stack := rest } (.invokestatic index) mk argsL.toArray X₁ hg hsize hdg hW (X₁.named hnamed) (hpre vm₁ X₁.warmed) with ⟨v, B, X', hpost, hsteps⟩ | ⟨q, B, X', hpost, hsteps⟩
  · exact Or.inl ⟨v, vm₁, B, X₁.warmed, X', hpost, fun target h => hstep₁ _ fun acts => by rw [doInvoke_state]; exact hsteps.trans h⟩
  · exact Or.inr ⟨q, vm₁, B, X₁.warmed, X', hpost, hstep₁ _ fun acts => by rw [doInvoke_state]; exact hsteps⟩
end Calls
theorem vx_cls {s : State} {T : State} {vm₁ : Vm} {E : String} {k : ClassId} (hW : s.WarmedH vm₁) (h : (T.setVm vm₁).vm.findClass E = some k) : s.vm.findClass E = some k := by
  have h1 : vm₁.findClass E = some k := h
  rw [hW.alike.findClass] at h1
  exact h1
/-- the method's frame g, with q thrown over it -/
def vx_W (p : Program) (l : Launch) (e : Env) (R : Room) (s : State) (m : MethodId) (args : Array Value) (below : List Frame) (meth : Method) (c : Code) (H : Heap) (locs : List Loc) (cells slots : Nat) (Q : State → Prop) (g : JFrame) (q : Addr) : Prop :=
  ∀ T : State, T.heap = H → Stand p l e R s m args below meth c T locs cells slots → ∃ t, Steps p.tables e below ((T.setTop g).pushFrame (.throwing q)) t ∧ Q t
def vx_Run (p : Program) (l : Launch) (e : Env) (R : Room) (s : State) (m : MethodId) (args : Array Value) (below : List Frame) (meth : Method) (c : Code) (H : Heap) (locs : List Loc) (cells slots mc ms : Nat) (g : JFrame) (rest : List Value) (Qa : State → Outcome → State → Prop) (XC : String → State → State → Prop) (free : Addr → Prop) : Prop :=
  ∀ T : State, T.heap = H → Stand p l e R s m args below meth c T locs cells slots →
    (∃ (v : Option Value) (st₀ t T' : State) (L : List Loc), st₀.heap = H ∧ Stand p l e R s m args below meth c T' (locs ++ L) (cells + mc) (slots + ms) ∧ (∀ q ∈ L, free q.base) ∧ T'.heap = t.heap ∧ T'.vm = t.vm ∧ Qa st₀ (.returned v) t ∧
      Goes p e below T g T' { g with pc := g.pc + 3, stack := v.toList ++ rest }) ∨
    (∃ (q : Addr) (st₀ t T' : State) (L : List Loc) (E : String) (ce : Cell), st₀.heap = H ∧ Stand p l e R s m args below meth c T' (locs ++ L) (cells + mc) (slots + ms) ∧ (∀ z ∈ L, free z.base) ∧ T'.heap = t.heap ∧ T'.vm = t.vm ∧ XC E st₀ t ∧ t.heap[q]? = some ce ∧ ce.vm = .none ∧ s.vm.findClass E = some ce.cls ∧
      Steps p.tables e below (T.setTop g) ((T'.setTop { g with stack := rest }).pushFrame (.throwing q)))
def vx_X {S : Type} (px : S → Prop) (B : String → S → State → Prop) (A : Nat → Prop) : String → State → State → Prop := fun E st t => ∃ u : S, px u ∧ B E u t ∧ va_F A st t
section Runs
variable {p : Program} {l : Launch} {e : Env} {R : Room} {s : State} {m : MethodId} {args : Array Value} {below : List Frame} {meth : Method} {c : Code} {H : Heap} {locs : List Loc} {cells slots : Nat}
variable {y : MethodName} {bytes cc : ByteArray} {maxL nL mc ms n index : Nat} {ret : Option FieldType} {ws : List Cond} {rm : Room} {Pc : Array Value → State → Prop} {Qc : Array Value → State → Outcome → State → Prop} {XC : String → State → State → Prop} {free : Addr → Prop} {Ts : List Cond} {own C : String} {b : Addr} {As rest : List Value} {g : JFrame}
theorem vx_callBack (cb : CallB R s args own index y bytes maxL ret ws rm mc ms n) (hM : vx_Met l y ws rm Pc Qc XC mc ms free) (hbl : FrameBlind Pc) : vx_Back l R p e below s args y 3 8 (PreOf R mc ms Pc) (PostOf Qc mc ms free) (vx_Post XC mc ms free) := by
  obtain ⟨hrc, hrs, hfr, hlo, hws, hcw, -, hini, -⟩ := cb
  exact vx_back (bytes := bytes) (maxL := maxL) (ret := ret) hM hbl hrc hrs hfr hlo hws hcw (fun a' U hW => word_at hW (Or.inl (by first | rfl | simp [Cond.onTables, Cond.keeps, Cond.steady])) hini)
theorem vx_runV (S : CallFix p m c cc nL s args Ts own) (hM : vx_Met l y ws rm Pc Qc XC mc ms free) (cw : CallW R s args own C index y bytes maxL ret ws rm mc ms n) (hp : PreV s H C b Pc As)
    (hg : g.method = m) (hn : As.length = n) (hsize : g.locals.size = nL) (hstack : g.stack = As.reverse ++ .ref b :: rest) (hW : 2 * g.monitorRoom + (rest.map fun v => v.category).sum ≤ 8) (hdg : decode cc g.pc = .ok (.invokevirtual index, 3)) (hf : cells + mc ≤ R.cells ∧ slots + ms ≤ R.slots) :
    vx_Run p l e R s m args below meth c H locs cells slots mc ms g rest (Qc (Value.ref b :: As).toArray) XC free := by
  have hK : vx_Back l R p e below s args y 3 8 (PreOf R mc ms Pc) (PostOf Qc mc ms free) (vx_Post XC mc ms free) := vx_callBack cw.1 hM hp.1
  obtain ⟨⟨-, -, -, -, -, -, hcode, -, hy, hlen, hl⟩, hin, hse⟩ := cw
  obtain ⟨hx, hb, hml, ho, -⟩ := S
  obtain ⟨-, ⟨cellB, hcB, hoB, hclB⟩, hPc⟩ := hp
  intro T hT X
  rcases vx_callV X hx (C := C) (bytes := bytes) (maxL := maxL) (ret := ret) ho hl hin hse hcode hy hK (by rw [hT]; exact hcB) hoB hclB hg (hsize.trans hml.symm) (argsL := As) (rest := rest) (fun sig h => hn.trans (hlen sig h)) hstack hW (by rw [hb]; exact hdg)
    (fun vm₁ hW₁ => ⟨hf.1, hf.2, hPc (T.setVm vm₁) hT hW₁⟩) with ⟨v, vm₁, ⟨U', l2, c2, s2⟩, hW₁, X', ⟨g', mk, t, L, e1, e2, hq, h1, hL, h2, h3⟩, st⟩ | ⟨q, vm₁, ⟨U', l2, c2, s2⟩, hW₁, X', ⟨g', mk, t, L, E, ce, e1, e2, hq, hce, hcv, hcl, h1, hL, h2, h3⟩, st⟩
  · dsimp only [Pt.U, Pt.locs, Pt.cells, Pt.slots] at X' e1 e2 h1 h2 h3 st
    subst h1; subst h2; subst h3
    exact Or.inl ⟨v, (T.setVm vm₁).calling g' mk (Value.ref b :: As).toArray, t, U', L, hT, X', hL, e1, e2, hq, st⟩
  · dsimp only [Pt.U, Pt.locs, Pt.cells, Pt.slots] at X' e1 e2 h1 h2 h3 st hcl
    subst h1; subst h2; subst h3
    exact Or.inr ⟨q, (T.setVm vm₁).calling g' mk (Value.ref b :: As).toArray, t, U', L, E, ce, hT, X', hL, e1, e2, hq, hce, hcv, vx_cls hW₁ hcl, st⟩
theorem vx_runS (S : CallFix p m c cc nL s args Ts own) (hM : vx_Met l y ws rm Pc Qc XC mc ms free) (cw : CallB R s args own index y bytes maxL ret ws rm mc ms n ∧ (Cond.static y).before args s = true) (hp : PreS s H Pc As)
    (hg : g.method = m) (hn : As.length = n) (hsize : g.locals.size = nL) (hstack : g.stack = As.reverse ++ rest) (hW : 2 * g.monitorRoom + (rest.map fun v => v.category).sum ≤ 8) (hdg : decode cc g.pc = .ok (.invokestatic index, 3)) (hf : cells + mc ≤ R.cells ∧ slots + ms ≤ R.slots) :
    vx_Run p l e R s m args below meth c H locs cells slots mc ms g rest (Qc As.toArray) XC free := by
  have hK : vx_Back l R p e below s args y 3 8 (PreOf R mc ms Pc) (PostOf Qc mc ms free) (vx_Post XC mc ms free) := vx_callBack cw.1 hM hp.1
  obtain ⟨⟨-, -, -, -, -, -, hcode, hini, hy, hlen, hl⟩, hstt⟩ := cw
  obtain ⟨hx, hb, hml, ho, -⟩ := S
  intro T hT X
  rcases vx_callS X hx (bytes := bytes) (maxL := maxL) (ret := ret) ho hl hstt hini hcode hy hK hg (hsize.trans hml.symm) (argsL := As) (rest := rest) (fun sig h => hn.trans (hlen sig h)) hstack hW (by rw [hb]; exact hdg)
    (fun vm₁ hW₁ => ⟨hf.1, hf.2, hp.2 (T.setVm vm₁) hT hW₁⟩) with ⟨v, vm₁, ⟨U', l2, c2, s2⟩, hW₁, X', ⟨g', mk, t, L, e1, e2, hq, h1, hL, h2, h3⟩, st⟩ | ⟨q, vm₁, ⟨U', l2, c2, s2⟩, hW₁, X', ⟨g', mk, t, L, E, ce, e1, e2, hq, hce, hcv, hcl, h1, hL, h2, h3⟩, st⟩
  · dsimp only [Pt.U, Pt.locs, Pt.cells, Pt.slots] at X' e1 e2 h1 h2 h3 st
    subst h1; subst h2; subst h3
    exact Or.inl ⟨v, (T.setVm vm₁).calling g' mk As.toArray, t, U', L, hT, X', hL, e1, e2, hq, st⟩
  · dsimp only [Pt.U, Pt.locs, Pt.cells, Pt.slots] at X' e1 e2 h1 h2 h3 st hcl
    subst h1; subst h2; subst h3
    exact Or.inr ⟨q, (T.setVm vm₁).calling g' mk As.toArray, t, U', L, E, ce, hT, X', hL, e1, e2, hq, hce, hcv, vx_cls hW₁ hcl, st⟩
end Runs
section Rows
variable {p : Program} {l : Launch} {e : Env} {R : Room} {s : State} {m : MethodId} {args : Array Value} {below : List Frame} {meth : Method} {c : Code} {H : Heap} {locs : List Loc} {cells slots : Nat} {Q : State → Prop}
variable {mc ms : Nat} {free : Addr → Prop} {A0 A1 : Nat → Prop} {H0 : Heap} {a : Array Value} {pc : Nat} {ls : Array Slot} {st0 rest : List Value}
theorem vx_keep {st₀ t T' : State} {L : List Loc} (h0 : st₀.heap = H) (e1 : T'.heap = t.heap) (hS : va_S A0 H0 H locs) (hA : ∀ q, q < H.size → A1 q → A0 q) (hf : ∀ q, free q → A0 q) (hL : ∀ q ∈ L, free q.base) (hF : va_F A1 st₀ t) :
    H.size ≤ T'.heap.size ∧ (∀ q : Nat, q < H.size → ¬ A1 q → T'.heap[q]? = H[q]?) ∧ va_S A0 H0 T'.heap (locs ++ L) := by
  obtain ⟨hz, hk⟩ := hF
  rw [h0] at hz hk
  exact ⟨by rw [e1]; exact hz, fun q h1 h2 => by rw [e1]; exact hk q h1 h2,
    ⟨Nat.le_trans hS.1 (by rw [e1]; exact hz), fun q h1 h2 => by rw [e1, hk q (Nat.lt_of_lt_of_le h1 hS.1) (fun z => h2 (hA q (Nat.lt_of_lt_of_le h1 hS.1) z))]; exact hS.2.1 q h1 h2, fun q hq => by
      rcases List.mem_append.mp hq with h | h
      · exact hS.2.2 q h
      · exact hf _ (hL q h)⟩⟩
theorem vx_calli {S SX : Type} {post : Int32 → S → Prop} {px : SX → Prop} {B : S → State → Prop} {BX : String → SX → State → Prop} {AX : Nat → Prop} (hr : vx_Run p l e R s m args below meth c H locs cells slots mc ms (F0 m pc ls st0) rest (va_Qi post B A1 a) (vx_X px BX AX) free) (hS : va_S A0 H0 H locs) (hA : ∀ q, q < H.size → A1 q → A0 q) (hf : ∀ q, free q → A0 q) (hAX : ∀ q, q < H.size → AX q → A0 q)
    (kx : ∀ (E : String) (ce : Cell) (q9 : Addr) (u : SX) (t : State) (H1 : Heap) (locs1 : List Loc), t.heap = H1 → s.vm.Alike t.vm → px u → BX E u t → H.size ≤ H1.size → (∀ q : Nat, q < H.size → ¬ AX q → H1[q]? = H[q]?) → va_S A0 H0 H1 locs1 → H1[q9]? = some ce → ce.vm = .none → s.vm.findClass E = some ce.cls → vx_W p l e R s m args below meth c H1 locs1 (cells + mc) (slots + ms) Q (F0 m pc ls rest) q9)
    (kk : ∀ (r : Int32) (u : S) (t : State) (H1 : Heap) (locs1 : List Loc), t.heap = H1 → s.vm.Alike t.vm → post r u → B u t → H.size ≤ H1.size → (∀ q : Nat, q < H.size → ¬ A1 q → H1[q]? = H[q]?) → va_S A0 H0 H1 locs1 → W p l e R s m args below meth c H1 locs1 (cells + mc) (slots + ms) Q (F0 m (pc + 3) ls (.int r :: rest))) : W p l e R s m args below meth c H locs cells slots Q (F0 m pc ls st0) := by
  intro T hT X
  rcases hr T hT X with ⟨v, st₀, t, T', L, h0, X', hL, e1, e2, ⟨⟨r, u, hv, hp, hb⟩, hF⟩, st⟩ | ⟨q, st₀, t, T', L, E, ce, h0, X', hL, e1, e2, ⟨u, hp, hb, hF⟩, hce, hcv, hcl, st⟩
  · cases hv
    obtain ⟨k1, k2, k3⟩ := vx_keep h0 e1 hS hA hf hL hF
    obtain ⟨t2, a1, b1⟩ := kk r u t T'.heap (locs ++ L) e1.symm (by rw [← e2]; exact X'.warmed.alike) hp hb k1 k2 k3 T' rfl X'
    exact ⟨t2, st t2 a1, b1⟩
  · obtain ⟨k1, k2, k3⟩ := vx_keep h0 e1 hS hAX hf hL hF
    obtain ⟨t2, a1, b1⟩ := kx E ce q u t T'.heap (locs ++ L) e1.symm (by rw [← e2]; exact X'.warmed.alike) hp hb k1 k2 k3 (by rw [e1]; exact hce) hcv hcl T' rfl X'
    exact ⟨t2, st.trans a1, b1⟩
theorem vx_calll {S SX : Type} {post : Int64 → S → Prop} {px : SX → Prop} {B : S → State → Prop} {BX : String → SX → State → Prop} {AX : Nat → Prop} (hr : vx_Run p l e R s m args below meth c H locs cells slots mc ms (F0 m pc ls st0) rest (va_Ql post B A1 a) (vx_X px BX AX) free) (hS : va_S A0 H0 H locs) (hA : ∀ q, q < H.size → A1 q → A0 q) (hf : ∀ q, free q → A0 q) (hAX : ∀ q, q < H.size → AX q → A0 q)
    (kx : ∀ (E : String) (ce : Cell) (q9 : Addr) (u : SX) (t : State) (H1 : Heap) (locs1 : List Loc), t.heap = H1 → s.vm.Alike t.vm → px u → BX E u t → H.size ≤ H1.size → (∀ q : Nat, q < H.size → ¬ AX q → H1[q]? = H[q]?) → va_S A0 H0 H1 locs1 → H1[q9]? = some ce → ce.vm = .none → s.vm.findClass E = some ce.cls → vx_W p l e R s m args below meth c H1 locs1 (cells + mc) (slots + ms) Q (F0 m pc ls rest) q9)
    (kk : ∀ (r : Int64) (u : S) (t : State) (H1 : Heap) (locs1 : List Loc), t.heap = H1 → s.vm.Alike t.vm → post r u → B u t → H.size ≤ H1.size → (∀ q : Nat, q < H.size → ¬ A1 q → H1[q]? = H[q]?) → va_S A0 H0 H1 locs1 → W p l e R s m args below meth c H1 locs1 (cells + mc) (slots + ms) Q (F0 m (pc + 3) ls (.long r :: rest))) : W p l e R s m args below meth c H locs cells slots Q (F0 m pc ls st0) := by
  intro T hT X
  rcases hr T hT X with ⟨v, st₀, t, T', L, h0, X', hL, e1, e2, ⟨⟨r, u, hv, hp, hb⟩, hF⟩, st⟩ | ⟨q, st₀, t, T', L, E, ce, h0, X', hL, e1, e2, ⟨u, hp, hb, hF⟩, hce, hcv, hcl, st⟩
  · cases hv
    obtain ⟨k1, k2, k3⟩ := vx_keep h0 e1 hS hA hf hL hF
    obtain ⟨t2, a1, b1⟩ := kk r u t T'.heap (locs ++ L) e1.symm (by rw [← e2]; exact X'.warmed.alike) hp hb k1 k2 k3 T' rfl X'
    exact ⟨t2, st t2 a1, b1⟩
  · obtain ⟨k1, k2, k3⟩ := vx_keep h0 e1 hS hAX hf hL hF
    obtain ⟨t2, a1, b1⟩ := kx E ce q u t T'.heap (locs ++ L) e1.symm (by rw [← e2]; exact X'.warmed.alike) hp hb k1 k2 k3 (by rw [e1]; exact hce) hcv hcl T' rfl X'
    exact ⟨t2, st.trans a1, b1⟩
theorem vx_callf {S SX : Type} {post : UInt32 → S → Prop} {px : SX → Prop} {B : S → State → Prop} {BX : String → SX → State → Prop} {AX : Nat → Prop} (hr : vx_Run p l e R s m args below meth c H locs cells slots mc ms (F0 m pc ls st0) rest (va_Qf post B A1 a) (vx_X px BX AX) free) (hS : va_S A0 H0 H locs) (hA : ∀ q, q < H.size → A1 q → A0 q) (hf : ∀ q, free q → A0 q) (hAX : ∀ q, q < H.size → AX q → A0 q)
    (kx : ∀ (E : String) (ce : Cell) (q9 : Addr) (u : SX) (t : State) (H1 : Heap) (locs1 : List Loc), t.heap = H1 → s.vm.Alike t.vm → px u → BX E u t → H.size ≤ H1.size → (∀ q : Nat, q < H.size → ¬ AX q → H1[q]? = H[q]?) → va_S A0 H0 H1 locs1 → H1[q9]? = some ce → ce.vm = .none → s.vm.findClass E = some ce.cls → vx_W p l e R s m args below meth c H1 locs1 (cells + mc) (slots + ms) Q (F0 m pc ls rest) q9)
    (kk : ∀ (r : UInt32) (u : S) (t : State) (H1 : Heap) (locs1 : List Loc), t.heap = H1 → s.vm.Alike t.vm → post r u → B u t → H.size ≤ H1.size → (∀ q : Nat, q < H.size → ¬ A1 q → H1[q]? = H[q]?) → va_S A0 H0 H1 locs1 → W p l e R s m args below meth c H1 locs1 (cells + mc) (slots + ms) Q (F0 m (pc + 3) ls (.float r :: rest))) : W p l e R s m args below meth c H locs cells slots Q (F0 m pc ls st0) := by
  intro T hT X
  rcases hr T hT X with ⟨v, st₀, t, T', L, h0, X', hL, e1, e2, ⟨⟨r, u, hv, hp, hb⟩, hF⟩, st⟩ | ⟨q, st₀, t, T', L, E, ce, h0, X', hL, e1, e2, ⟨u, hp, hb, hF⟩, hce, hcv, hcl, st⟩
  · cases hv
    obtain ⟨k1, k2, k3⟩ := vx_keep h0 e1 hS hA hf hL hF
    obtain ⟨t2, a1, b1⟩ := kk r u t T'.heap (locs ++ L) e1.symm (by rw [← e2]; exact X'.warmed.alike) hp hb k1 k2 k3 T' rfl X'
    exact ⟨t2, st t2 a1, b1⟩
  · obtain ⟨k1, k2, k3⟩ := vx_keep h0 e1 hS hAX hf hL hF
    obtain ⟨t2, a1, b1⟩ := kx E ce q u t T'.heap (locs ++ L) e1.symm (by rw [← e2]; exact X'.warmed.alike) hp hb k1 k2 k3 (by rw [e1]; exact hce) hcv hcl T' rfl X'
    exact ⟨t2, st.trans a1, b1⟩
theorem vx_calld {S SX : Type} {post : UInt64 → S → Prop} {px : SX → Prop} {B : S → State → Prop} {BX : String → SX → State → Prop} {AX : Nat → Prop} (hr : vx_Run p l e R s m args below meth c H locs cells slots mc ms (F0 m pc ls st0) rest (va_Qd post B A1 a) (vx_X px BX AX) free) (hS : va_S A0 H0 H locs) (hA : ∀ q, q < H.size → A1 q → A0 q) (hf : ∀ q, free q → A0 q) (hAX : ∀ q, q < H.size → AX q → A0 q)
    (kx : ∀ (E : String) (ce : Cell) (q9 : Addr) (u : SX) (t : State) (H1 : Heap) (locs1 : List Loc), t.heap = H1 → s.vm.Alike t.vm → px u → BX E u t → H.size ≤ H1.size → (∀ q : Nat, q < H.size → ¬ AX q → H1[q]? = H[q]?) → va_S A0 H0 H1 locs1 → H1[q9]? = some ce → ce.vm = .none → s.vm.findClass E = some ce.cls → vx_W p l e R s m args below meth c H1 locs1 (cells + mc) (slots + ms) Q (F0 m pc ls rest) q9)
    (kk : ∀ (r : UInt64) (u : S) (t : State) (H1 : Heap) (locs1 : List Loc), t.heap = H1 → s.vm.Alike t.vm → post r u → B u t → H.size ≤ H1.size → (∀ q : Nat, q < H.size → ¬ A1 q → H1[q]? = H[q]?) → va_S A0 H0 H1 locs1 → W p l e R s m args below meth c H1 locs1 (cells + mc) (slots + ms) Q (F0 m (pc + 3) ls (.double r :: rest))) : W p l e R s m args below meth c H locs cells slots Q (F0 m pc ls st0) := by
  intro T hT X
  rcases hr T hT X with ⟨v, st₀, t, T', L, h0, X', hL, e1, e2, ⟨⟨r, u, hv, hp, hb⟩, hF⟩, st⟩ | ⟨q, st₀, t, T', L, E, ce, h0, X', hL, e1, e2, ⟨u, hp, hb, hF⟩, hce, hcv, hcl, st⟩
  · cases hv
    obtain ⟨k1, k2, k3⟩ := vx_keep h0 e1 hS hA hf hL hF
    obtain ⟨t2, a1, b1⟩ := kk r u t T'.heap (locs ++ L) e1.symm (by rw [← e2]; exact X'.warmed.alike) hp hb k1 k2 k3 T' rfl X'
    exact ⟨t2, st t2 a1, b1⟩
  · obtain ⟨k1, k2, k3⟩ := vx_keep h0 e1 hS hAX hf hL hF
    obtain ⟨t2, a1, b1⟩ := kx E ce q u t T'.heap (locs ++ L) e1.symm (by rw [← e2]; exact X'.warmed.alike) hp hb k1 k2 k3 (by rw [e1]; exact hce) hcv hcl T' rfl X'
    exact ⟨t2, st.trans a1, b1⟩
theorem vx_callv {S SX : Type} {post : S → Prop} {px : SX → Prop} {B : S → State → Prop} {BX : String → SX → State → Prop} {AX : Nat → Prop} (hr : vx_Run p l e R s m args below meth c H locs cells slots mc ms (F0 m pc ls st0) rest (va_Qv post B A1 a) (vx_X px BX AX) free) (hS : va_S A0 H0 H locs) (hA : ∀ q, q < H.size → A1 q → A0 q) (hf : ∀ q, free q → A0 q) (hAX : ∀ q, q < H.size → AX q → A0 q)
    (kx : ∀ (E : String) (ce : Cell) (q9 : Addr) (u : SX) (t : State) (H1 : Heap) (locs1 : List Loc), t.heap = H1 → s.vm.Alike t.vm → px u → BX E u t → H.size ≤ H1.size → (∀ q : Nat, q < H.size → ¬ AX q → H1[q]? = H[q]?) → va_S A0 H0 H1 locs1 → H1[q9]? = some ce → ce.vm = .none → s.vm.findClass E = some ce.cls → vx_W p l e R s m args below meth c H1 locs1 (cells + mc) (slots + ms) Q (F0 m pc ls rest) q9)
    (kk : ∀ (u : S) (t : State) (H1 : Heap) (locs1 : List Loc), t.heap = H1 → s.vm.Alike t.vm → post u → B u t → H.size ≤ H1.size → (∀ q : Nat, q < H.size → ¬ A1 q → H1[q]? = H[q]?) → va_S A0 H0 H1 locs1 → W p l e R s m args below meth c H1 locs1 (cells + mc) (slots + ms) Q (F0 m (pc + 3) ls (rest))) : W p l e R s m args below meth c H locs cells slots Q (F0 m pc ls st0) := by
  intro T hT X
  rcases hr T hT X with ⟨v, st₀, t, T', L, h0, X', hL, e1, e2, ⟨⟨u, hv, hp, hb⟩, hF⟩, st⟩ | ⟨q, st₀, t, T', L, E, ce, h0, X', hL, e1, e2, ⟨u, hp, hb, hF⟩, hce, hcv, hcl, st⟩
  · cases hv
    obtain ⟨k1, k2, k3⟩ := vx_keep h0 e1 hS hA hf hL hF
    obtain ⟨t2, a1, b1⟩ := kk u t T'.heap (locs ++ L) e1.symm (by rw [← e2]; exact X'.warmed.alike) hp hb k1 k2 k3 T' rfl X'
    exact ⟨t2, st t2 a1, b1⟩
  · obtain ⟨k1, k2, k3⟩ := vx_keep h0 e1 hS hAX hf hL hF
    obtain ⟨t2, a1, b1⟩ := kx E ce q u t T'.heap (locs ++ L) e1.symm (by rw [← e2]; exact X'.warmed.alike) hp hb k1 k2 k3 (by rw [e1]; exact hce) hcv hcl T' rfl X'
    exact ⟨t2, st.trans a1, b1⟩
/-- caught by the row x of this method's table; the rows ahead don't take it -/
theorem vx_catch {own name : String} {E : String} {ce : Cell} {q : Addr} (hown : s.vm.findClass own = some m.cls) (pre : List ExceptionTableEntry) (x : ExceptionTableEntry) (suf : List ExceptionTableEntry) (hsplit : c.exceptionTable.toList = pre ++ x :: suf)
    (hpass : ∀ z ∈ pre, covers z pc = false ∨ (z.catchType ≠ 0 ∧ ∃ nm : String, (Cond.classLink own z.catchType nm).before args s = true ∧ va_Nc E nm s)) (hx : covers x pc = true) (h0 : x.catchType ≠ 0)
    (hlink : (Cond.classLink own x.catchType name).before args s = true) (hcast : (Cond.castable E name).before args s = true) (hcell : H[q]? = some ce) (hv : ce.vm = .none) (hcl : s.vm.findClass E = some ce.cls)
    (kk : W p l e R s m args below meth c H locs cells slots Q (F0 m x.handlerPc ls [.ref q])) : vx_W p l e R s m args below meth c H locs cells slots Q (F0 m pc ls rest) q := by
  intro T hT X
  have hpl : e.platform.magicAccessors = ({} : Platform).magicAccessors := by rw [X.admits.platform]
  obtain ⟨c3, c4, hc3, hc4, hasg⟩ := Cond.castable_spec hcast
  cases Option.some.inj (hc3.symm.trans hcl)
  obtain ⟨c5, hc5, hcl5⟩ := Cond.classLink_spec hown hlink e.platform hpl
  cases Option.some.inj (hc4.symm.trans hc5)
  obtain ⟨vm', X', st⟩ := X.thenCaughtThrough q (g := F0 m pc ls rest) rfl (Steps.refl _) (by rw [hT]; exact hcell) (by rw [hv]; rfl) (by obtain ⟨k9, h9, -⟩ := Vm.findClass_spec hcl; exact ⟨k9, h9⟩) pre x suf hsplit
    (fun z hz => by
      rcases hpass z hz with h | ⟨hz0, nm, hl1, hn1⟩
      · exact Or.inl h
      · obtain ⟨c6, hc6, hcl6⟩ := Cond.classLink_spec hown hl1 e.platform hpl
        obtain ⟨a8, b8, h1, h2, h3⟩ := hn1
        cases Option.some.inj (h1.symm.trans hcl)
        cases Option.some.inj (h2.symm.trans hc6)
        exact Or.inr ⟨hz0, _, hcl6, h3⟩) hx (Or.inr ⟨h0, c4, hcl5, hasg⟩)
  obtain ⟨t, a1, b1⟩ := kk (T.setVm vm') hT X'
  exact ⟨t, st.trans a1, b1⟩
end Rows
section Ends
variable {p : Program} {l : Launch} {e : Env} {R : Room} {s : State} {m : MethodId} {args : Array Value} {below : List Frame} {meth : Method} {c : Code} {H : Heap} {locs : List Loc} {cells slots : Nat} {Q : State → Prop}
variable {mc ms : Nat} {free : Addr → Prop} {A0 A1 : Nat → Prop} {H0 : Heap} {a : Array Value} {ls : Array Slot} {st0 rest : List Value}
variable {Qc : Array Value → State → Outcome → State → Prop} {XC : String → State → State → Prop}
/-- what a body that may throw owes at its end -/
def vx_MQ (below : List Frame) (Qc : Array Value → State → Outcome → State → Prop) (XC : String → State → State → Prop) (a : Array Value) (s : State) (mc ms : Nat) (free : Addr → Prop) : State → Prop := fun t =>
  ∃ o, t.status = .running ∧ Ended t below o ∧ vx_Q Qc XC mc ms free a s o t
theorem vx_ret {g : JFrame} {mc ms : Nat} (k : W p l e R s m args below meth c H locs cells slots (MQ below Qc args s mc ms free) g) : W p l e R s m args below meth c H locs cells slots (vx_MQ below Qc XC args s mc ms free) g := by
  intro T hT X
  obtain ⟨t, a1, o, b1, b2, b3, b4⟩ := k T hT X
  exact ⟨t, a1, o, b1, b2, Or.inl ⟨b3, b4⟩⟩
/-- not caught here: it goes on to the caller -/
theorem vx_widen {g : JFrame} {q : Addr} {k n : Nat} (h1 : cells ≤ k) (h2 : slots ≤ n) (kk : vx_W p l e R s m args below meth c H locs k n Q g q) : vx_W p l e R s m args below meth c H locs cells slots Q g q := fun T hT X => kk T hT (stand_widen X h1 h2)
theorem vx_out {pc : Nat} {E : String} {ce : Cell} {q : Addr} {mc ms : Nat} (hout : ∀ x ∈ c.exceptionTable.toList, covers x pc = false) (hlocks : meth.locks = false) (hcell : H[q]? = some ce) (hv : ce.vm = .none) (hcl : s.vm.findClass E = some ce.cls)
    (hx : ∀ t : State, t.heap = H → s.vm.Alike t.vm → XC E s t) (hf : ∀ z ∈ locs, free z.base) (hc : cells ≤ mc) (hs : slots ≤ ms) :
    vx_W p l e R s m args below meth c H locs cells slots (vx_MQ below Qc XC args s mc ms free) (F0 m pc ls rest) q := by
  intro T hT X
  obtain ⟨st1, hrun, hend, hW, hsm⟩ := X.leaveThrown q (g := F0 m pc ls rest) rfl rfl rfl hout hlocks
  have hcell9 : (T.setFrames (.throwing q :: below)).heap[q]? = some ce := by
    show T.heap[q]? = some ce
    rw [hT]; exact hcell
  exact ⟨_, st1, .threw q, hrun, hend, Or.inr ⟨q, rfl, E, ce, locs, hx _ hT hW.alike, hcell9, hv, hcl, hW, hsm.mono hc hs, hf⟩⟩
theorem vx_frame {U : State} {k n : Nat} (h : s.sameButNew ({ U with vm := s.vm } : State) locs k n) : s.heap.size ≤ U.heap.size ∧ ∀ q : Nat, q < s.heap.size → (∀ z ∈ locs, z.base ≠ q) → U.heap[q]? = s.heap[q]? := by
  obtain ⟨-, h2, -, -, -, h6⟩ := h
  refine ⟨h2, fun q hq hz => ?_⟩
  obtain ⟨c9, e1, e2, e3, e4⟩ := h6 q _ (Array.getElem?_eq_getElem hq)
  have hs : c9.slots = (s.heap[q]).slots := Array.ext_getElem? fun i => e4 i fun hm => hz _ hm rfl
  have h9 : c9 = s.heap[q] := by
    rw [hs] at e2
    exact e2
  have e5 : U.heap[q]? = some c9 := e1
  rw [e5, h9, Array.getElem?_eq_getElem hq]
/-- the words of a throw but the four that speak of the heap -/
def vx_no (w : Cond) : Bool := decide (w ≠ .isRef (.static Bundle.tN "UNASSIGNED_STACK" Bundle.steD)) && decide (w ≠ .isRef (.static Bundle.tN "SUPPRESSED_SENTINEL" Bundle.listD)) && decide (w ≠ .laysStatic Bundle.tN "UNASSIGNED_STACK" Bundle.steD) && decide (w ≠ .laysStatic Bundle.tN "SUPPRESSED_SENTINEL" Bundle.listD)
def vx_at0 (own : String) (ic : Nat) (X : String) (names : List String) : List Cond := (Bundle.ownAtoms0 own ic X names).filter vx_no
def vx_atS (own : String) (ic : Nat) (X : String) (names : List String) : List Cond := (Bundle.ownAtoms own ic X names).filter vx_no
/-- a word that the tables alone decide, or a good one -/
def vx_ot (w : Cond) : Bool := w.onTables || goodWord w
theorem vx_ot_at {args a' : Array Value} {s U : State} {w : Cond} (hW : s.WarmedH U.vm) (hvm : s.vm = U.vm) (hg : vx_ot w = true) (h : w.before args s = true) : w.before a' U = true := by
  simp only [vx_ot, Bool.or_eq_true] at hg
  rcases hg with hg | hg
  · exact va_tabs hg hvm h
  · exact word_at hW (good_of_word hg) h
/-- a list's words: the good ones out of the method's own list, the others by premises of their own -/
theorem vx_hat {args : Array Value} {s : State} {L B : List Cond} (h1 : ∀ w ∈ L.filter goodWord, w.before args s = true) (h2 : ∀ w ∈ L.filter (fun w => !goodWord w), w ∈ B) (h3 : ∀ w ∈ B, w.before args s = true) : ∀ w ∈ L, w.before args s = true := by
  intro w hw
  by_cases g : goodWord w = true
  · exact h1 w (List.mem_filter.mpr ⟨hw, g⟩)
  · refine h3 w (h2 w (List.mem_filter.mpr ⟨hw, ?_⟩))
    show (!goodWord w) = true
    cases hgw : goodWord w
    · rfl
    · exact absurd hgw g
theorem vx_c {args : Array Value} {s : State} {w : Cond} {B : List Cond} (h : w.before args s = true) (t : ∀ w ∈ B, w.before args s = true) : ∀ w' ∈ w :: B, w'.before args s = true := fun w' h' => (List.mem_cons.mp h').elim (fun e => by rw [e]; exact h) (t w')
theorem vx_n {args : Array Value} {s : State} : ∀ w ∈ ([] : List Cond), w.before args s = true := fun _ h => nomatch h
theorem vx_own {args : Array Value} {s : State} {L : List Cond} (h1 : ∀ w ∈ L.filter vx_no, w.before args s = true)
    (hU : (Cond.isRef (.static Bundle.tN "UNASSIGNED_STACK" Bundle.steD)).before args s = true) (hN : (Cond.isRef (.static Bundle.tN "SUPPRESSED_SENTINEL" Bundle.listD)).before args s = true)
    (lU : (Cond.laysStatic Bundle.tN "UNASSIGNED_STACK" Bundle.steD).before args s = true) (lN : (Cond.laysStatic Bundle.tN "SUPPRESSED_SENTINEL" Bundle.listD).before args s = true) : ∀ w ∈ L, w.before args s = true := by
  intro w hw
  by_cases e1 : w = .isRef (.static Bundle.tN "UNASSIGNED_STACK" Bundle.steD)
  · rw [e1]; exact hU
  · by_cases e2 : w = .isRef (.static Bundle.tN "SUPPRESSED_SENTINEL" Bundle.listD)
    · rw [e2]; exact hN
    · by_cases e3 : w = .laysStatic Bundle.tN "UNASSIGNED_STACK" Bundle.steD
      · rw [e3]; exact lU
      · by_cases e4 : w = .laysStatic Bundle.tN "SUPPRESSED_SENTINEL" Bundle.listD
        · rw [e4]; exact lN
        · exact h1 w (List.mem_filter.mpr ⟨hw, by unfold vx_no; rw [decide_eq_true e1, decide_eq_true e2, decide_eq_true e3, decide_eq_true e4]; rfl⟩)
/-- where a static field lies, its class's statics cell in H -/
def vx_L (C n d : String) (A : Nat → Prop) (U : State) (H : Heap) : Prop := ∃ (c : ClassId) (k : Class) (i : Nat) (f : Field) (a : Nat) (cell : Cell), U.vm.findClass C = some c ∧ U.fieldFound? C n d = some (c, k, i, f) ∧ f.isStatic = true ∧ k.statics = some a ∧ H[a]? = some cell ∧ cell.vm.isStatics = true ∧ cell.cls = c ∧ f.slot < cell.slots.size ∧ k.staticTypes[f.slot]? = some f.type ∧ ¬ A a
theorem vx_L.moved {C n d : String} {A : Nat → Prop} {u U : State} {H : Heap} (hvm : u.vm.Alike U.vm) (h : vx_L C n d A u H) : vx_L C n d A U H := by
  obtain ⟨c, k, i, f, a, cell, h1, h2, h3, h4, h5, h6, h7, h8, h9, h10⟩ := h
  obtain ⟨k', hi', he⟩ := State.fieldFound?_setVm hvm h2
  exact ⟨c, k', i, f, a, cell, by rw [hvm.findClass]; exact h1, hi', h3, by rw [he]; exact h4, h5, h6, h7, h8, by rw [he]; exact h9, h10⟩
theorem vx_L.kept {C n d : String} {A : Nat → Prop} {U : State} {H H1 : Heap} (h : vx_L C n d A U H) (hq : ∀ a : Nat, a < H.size → ¬ A a → H1[a]? = H[a]?) : vx_L C n d A U H1 := by
  obtain ⟨c, k, i, f, a, cell, h1, h2, h3, h4, h5, h6, h7, h8, h9, h10⟩ := h
  exact ⟨c, k, i, f, a, cell, h1, h2, h3, h4, by rw [hq a (Array.getElem?_eq_some_iff.mp h5).1 h10]; exact h5, h6, h7, h8, h9, h10⟩
theorem vx_L.narrow {C n d : String} {A B : Nat → Prop} {U : State} {H : Heap} (h : vx_L C n d A U H) (hAB : ∀ q, B q → A q) : vx_L C n d B U H := by
  obtain ⟨c, k, i, f, a, cell, h1, h2, h3, h4, h5, h6, h7, h8, h9, h10⟩ := h
  exact ⟨c, k, i, f, a, cell, h1, h2, h3, h4, h5, h6, h7, h8, h9, fun z => h10 (hAB _ z)⟩
theorem vx_L.word {C n d : String} {A : Nat → Prop} {s : State} {args : Array Value} (h : vx_L C n d A s s.heap) : (Cond.laysStatic C n d).before args s = true := by
  obtain ⟨c, k, i, f, a, cell, h1, h2, h3, h4, h5, h6, h7, h8, h9, -⟩ := h
  show (Cond.laysStatic C n d).holds args s none s [] = true
  exact Cond.laysStatic_of h1 h2 h3 h4 h5 h6 h7 h8 h9
/-- .. and what it holds: null or some reference -/
def vx_Zq (C n d : String) (A : Nat → Prop) (U : State) (H : Heap) : Prop := va_Zq C n d A U H ∧ vx_L C n d A U H
theorem vx_Zq.moved {C n d : String} {A : Nat → Prop} {u U : State} {H : Heap} (hvm : u.vm.Alike U.vm) (h : vx_Zq C n d A u H) : vx_Zq C n d A U H := ⟨va_Zq.moved hvm h.1, vx_L.moved hvm h.2⟩
theorem vx_Zq.kept {C n d : String} {A : Nat → Prop} {U : State} {H H1 : Heap} (h : vx_Zq C n d A U H) (hq : ∀ a : Nat, a < H.size → ¬ A a → H1[a]? = H[a]?) : vx_Zq C n d A U H1 := ⟨va_Zq.kept h.1 hq, vx_L.kept h.2 hq⟩
theorem vx_Zq.narrow {C n d : String} {A B : Nat → Prop} {U : State} {H : Heap} (h : vx_Zq C n d A U H) (hAB : ∀ q, B q → A q) : vx_Zq C n d B U H := ⟨va_Zq.narrow h.1 hAB, vx_L.narrow h.2 hAB⟩
theorem vx_Zqof {args : Array Value} {s : State} {C n d : String} {A : Nat → Prop} (hl : (Cond.laysStatic C n d).before args s = true) (hini : (Cond.initialized C).before args s = true) (h : (Cond.isRef (.static C n d)).before args s = true) (hA : ∀ a : Nat, a < s.heap.size → ¬ A a) : vx_Zq C n d A s s.heap := by
  refine ⟨va_Zqof hl hini h hA, ?_⟩
  obtain ⟨c, k, i, f, a, cell, h1, h2, h3, h4, h5, h6, h7, h8, h9⟩ := Cond.laysStatic_spec hl
  exact ⟨c, k, i, f, a, cell, h1, h2, h3, h4, h5, h6, h7, h8, h9, hA a (Array.getElem?_eq_some_iff.mp h5).1⟩
theorem vx_isRef {C n d : String} {v : Value} {A : Nat → Prop} {s : State} {args : Array Value} (h : va_Z C n d v A s s.heap) (hv : v.isRef = true) : (Cond.isRef (.static C n d)).before args s = true := by
  obtain ⟨cf, kf, fi, f, a, cell, h1, h2, h3, h4, h5, h6, h7, -⟩ := h
  have he : (Term.static C n d).eval args s none [] s = some v := by
    simp [Term.eval, State.fieldNamed?, h1, h2, h4, h5, h6, h7]
  simp only [Cond.before, Cond.holds, Cond.value, he]
  cases v <;> simp_all [Value.isRef]
theorem vx_isRefq {C n d : String} {A : Nat → Prop} {s : State} {args : Array Value} (h : va_Zq C n d A s s.heap) : (Cond.isRef (.static C n d)).before args s = true := by
  rcases h with h | ⟨t, h⟩
  · exact vx_isRef h rfl
  · exact vx_isRef h rfl
/-- the same frame, seen from here: as if the method were called anew in this heap -/
theorem vx_rebase {T : State} (X : Stand p l e R s m args below meth c T locs cells slots) {R' : Room} (hf : R'.frames ≤ R.frames) (hl : R'.locals ≤ R.locals) (hc : cells + R'.cells ≤ R.cells) (hs : slots + R'.slots ≤ R.slots) :
    Stand p l e R' ((T.setVm s.vm).setFrames (.invoking m args :: below)) m args below meth c T [] 0 0 := by
  have htop : (T.setVm s.vm).topJava?.isSome := X.here.top
  have hF : ((T.setVm s.vm).setFrames (.invoking m args :: below)).frames = .invoking m args :: below := State.frames_setFrames _ (State.cur_lt_of_top htop)
  obtain ⟨g₀, hg0⟩ := Option.isSome_iff_exists.mp htop
  obtain ⟨r, hr⟩ := State.topJava?_eq_some.mp hg0
  have hl9 : e.platform.stackLimits (T.setVm s.vm).me = e.platform.stackLimits s.me := X.limits
  have hb9 : (T.setVm s.vm).me.stackBytes = s.me.stackBytes := X.bytes
  refine ⟨X.admits, X.cas, X.clock, hF, ?_, X.hears, X.method, X.code, X.here, X.tail, X.warmed, ?_, ?_, ?_⟩
  · have h := X.room
    have hU : ((T.setVm s.vm).setFrames (.invoking m args :: below)).localsInUse = s.localsInUse := by
      rw [State.localsInUse_invoking hF (meth := meth) (c := c) X.method X.code, State.localsInUse_invoking X.frames X.method X.code]
    simp only [State.hasRoom, Bool.and_eq_true, decide_eq_true_eq] at h ⊢
    obtain ⟨⟨⟨⟨h1, h2, h3, h4, h5, h6⟩, h7⟩, h8⟩, h9⟩ := h
    rw [X.frames, List.length_cons] at h2 h3
    have q1 := X.heapSize
    have q2 := X.used
    simp only [hF, hU, List.length_cons, State.stackLimits_setFrames, State.stackBytes_setFrames, hl9, hb9]
    refine ⟨⟨⟨⟨by omega, by omega, by omega, by omega, by omega, h6⟩, ?_⟩, ?_⟩, X.book⟩
    · show T.heap.size + R'.cells ≤ e.platform.maxCells
      omega
    · show T.slotsUsed + R'.slots ≤ e.platform.maxSlots
      omega
  · rw [State.stackLimits_setFrames]; rfl
  · rw [State.stackBytes_setFrames]; rfl
  · refine ⟨?_, Nat.le_refl _, Nat.le_refl _, ?_, ?_, fun a c9 h9 => ⟨c9, h9, rfl, rfl, fun _ _ => rfl⟩⟩
    · obtain ⟨t, ht, -⟩ := State.frames_cons hr
      show T.setVm s.vm = { ((T.setVm s.vm).setFrames (.invoking m args :: below)).setFrames (T.setVm s.vm).frames with heap := T.heap, slotsUsed := T.slotsUsed }
      rw [State.setFrames_setFrames, State.setFrames_self ht]
      rfl
    · show T.slotsUsed = T.slotsUsed + ((T.heap.toList.drop T.heap.size).map (·.slots.size)).sum
      rw [List.drop_eq_nil_of_le (Nat.le_of_eq Array.length_toList)]
      rfl
    · show ((T.heap.toList.drop T.heap.size).map (·.slots.size)).sum ≤ 0
      rw [List.drop_eq_nil_of_le (Nat.le_of_eq Array.length_toList)]
      exact Nat.le_refl _
/-- 'throw new E()': new; dup; invokespecial; athrow -/
theorem vx_throw0 {cc : ByteArray} {pc : Nat} (hexec : p.tables.exec = Jvm.exec) (hb : c.code = cc) (hl : l.stackTraces = false) {own cls : String} {names : List String} {ik ic mc ms : Nat} {A : Nat → Prop}
    (hown : s.vm.findClass own = some m.cls) (hcls : Bundle.fit cls = true) (hnames : ∀ n ∈ names, Bundle.fit n = true)
    (hk : (Cond.classLink own ik cls).before args s = true) (hini : (Cond.initialized cls).before args s = true) (hat : ∀ w ∈ vx_at0 own ic cls names, w.before args s = true)
    (hgood : ∀ w ∈ Cond.classLink own ik cls :: Cond.initialized cls :: vx_at0 own ic cls names, vx_ot w = true)
    (hU : vx_Zq Bundle.tN "UNASSIGNED_STACK" Bundle.steD A s s.heap) (hN : vx_Zq Bundle.tN "SUPPRESSED_SENTINEL" Bundle.listD A s s.heap) (hS : va_S A s.heap H locs) (hsize : ls.size = c.maxLocals)
    (d0 : decode cc pc = .ok (.new ik, 3)) (d3 : decode cc (pc + 3) = .ok (.dup, 1)) (d4 : decode cc (pc + 4) = .ok (.invokespecial ic, 3)) (d7 : decode cc (pc + 7) = .ok (.athrow, 1))
    (hout : ∀ x ∈ c.exceptionTable.toList, covers x (pc + 7) = false)
    (hRframes : names.length + 3 < R.frames) (hRlocals : (rest.map fun v => v.category).sum + (13 * (names.length + 1) + 42) ≤ R.locals) (hRcells : cells + 1 ≤ R.cells) (hRslots : slots + 6 ≤ R.slots) (hlocks : meth.locks = false)
    (hx : ∀ t : State, s.vm.Alike t.vm → H.size ≤ t.heap.size → (∀ q : Nat, q < H.size → t.heap[q]? = H[q]?) → XC cls s t)
    (hf : ∀ z ∈ locs, free z.base) (hc : cells + 1 ≤ mc) (hs : slots + 6 ≤ ms) :
    W p l e R s m args below meth c H locs cells slots (vx_MQ below Qc XC args s mc ms free) (F0 m pc ls rest) := by
  intro T hT X
  have htr : e.platform.stackTraces = false := (show e.platform.stackTraces = l.stackTraces by rw [X.admits.platform]).trans hl
  have Y := vx_rebase X (R' := { frames := R.frames, locals := R.locals, cells := 1, slots := 6 }) (Nat.le_refl _) (Nat.le_refl _) hRcells hRslots
  obtain ⟨s', hA⟩ : ∃ z, z = (T.setVm s.vm).setFrames (.invoking m args :: below) := ⟨_, rfl⟩
  rw [← hA] at Y
  have hvm : s'.vm = s.vm := by rw [hA]; rfl
  have hhp : s'.heap = H := by rw [hA]; exact hT
  have hW0 : s.WarmedH s'.vm := by rw [hvm]; exact State.WarmedH.refl s
  have hat' : ∀ w ∈ vx_at0 own ic cls names, w.before args s' = true := fun w hw => vx_ot_at hW0 hvm.symm (hgood w (List.mem_cons_of_mem _ (List.mem_cons_of_mem _ hw))) (hat w hw)
  have hk' : (Cond.classLink own ik cls).before args s' = true := vx_ot_at hW0 hvm.symm (hgood _ List.mem_cons_self) hk
  have hini' : (Cond.initialized cls).before args s' = true := vx_ot_at hW0 hvm.symm (hgood _ (List.mem_cons_of_mem _ List.mem_cons_self)) hini
  have hU' : vx_Zq Bundle.tN "UNASSIGNED_STACK" Bundle.steD A s' s'.heap := by rw [hhp]; exact vx_Zq.moved hW0.alike (hU.kept hS.2.1)
  have hN' : vx_Zq Bundle.tN "SUPPRESSED_SENTINEL" Bundle.listD A s' s'.heap := by rw [hhp]; exact vx_Zq.moved hW0.alike (hN.kept hS.2.1)
  have h : ∀ w ∈ Bundle.ownAtoms0 own ic cls names, w.before args s' = true := vx_own hat' (vx_isRefq hU'.1) (vx_isRefq hN'.1) hU'.2.word hN'.2.word
  have hown' : s'.vm.findClass own = some m.cls := by rw [hvm]; exact hown
  have hins : (Cond.instantiable cls 6).before args s' = true := h _ (by simp [Bundle.ownAtoms0])
  obtain ⟨vm₁, cX, kX, hfX, hkX, -, -, X₁, st1⟩ := Y.newCold hexec (own := own) (C := cls) (index := ik) (n := 6) hown' hk' hins hini'
    (g := F0 m pc ls rest) rfl (by rw [hb]; exact d0) (Nat.le_refl _) (Nat.le_refl _)
  generalize hT1 : (T.setVm vm₁).pushCell { cls := cX, slots := kX.instanceTypes.map defaultValue, vm := .none } = T1 at X₁ st1
  have hcat : (Value.ref T.heap.size).category = 1 := rfl
  have hcellA : T1.heap[T.heap.size]? = some (freshCell cX kX) := by rw [← hT1]; exact State.heap_pushCell_size _ _
  have d3' : decode c.code (pc + 3) = .ok (.dup, 1) := by rw [hb]; exact d3
  obtain ⟨U, hsteps, hrun, hend, hW, hsame, ce, hce, hO⟩ := X₁.ctorThrow0 hexec htr (own := own) (cls := cls) (names := names) (ic := ic) hown' hcls hnames h (fun x hx => nomatch hx) hfX hkX hcellA (by rw [hhp, hT]; exact Nat.le_refl _)
    (g := { method := m, pc := pc + 4, locals := ls, stack := .ref T.heap.size :: .ref T.heap.size :: rest, locked := none }) rfl hsize rfl rfl (rest := rest) rfl
    (by rw [hb]; exact d4) (by rw [hb]; exact d7) hout hRframes (by simp only [List.map_cons, List.sum_cons, hcat]; omega) hlocks
  obtain ⟨f1, f2⟩ := vx_frame hsame
  rw [hhp] at f1 f2
  have hWs : s.WarmedH U.vm := State.WarmedH.trans hW0 hW
  have hcl : s.vm.findClass cls = some ce.cls := by
    have h9 := hO.cls
    rw [hvm] at h9
    exact h9
  have hall : s.sameButNew ({ U with vm := s.vm } : State) locs mc ms := by
    subst hA
    obtain ⟨e1, e2⟩ := hsame
    rw [State.setFrames_setFrames] at e1
    have h2 : (T.setVm s.vm).sameButNew ({ U with vm := s.vm } : State) [] (0 + 1) (0 + 6) := ⟨e1, e2⟩
    have h3 := X.same.trans h2
    rw [List.append_nil] at h3
    exact h3.mono hc hs
  refine ⟨U, ?_, .threw T.heap.size, hrun, hend, Or.inr ⟨T.heap.size, rfl, cls, ce, locs, hx U hWs.alike f1 (fun q hq => f2 q hq (fun z hz => nomatch hz)), hce, hO.vm, hcl, hWs, hall, hf⟩⟩
  refine st1 _ ?_
  show Steps p.tables e below (T1.setTop { method := m, pc := pc + 3, locals := ls, stack := .ref T.heap.size :: rest, locked := none }) _
  jvm_step X₁.here [X₁.here.top, hexec, d3', Value.category]
  exact hsteps
/-- 'throw new E("text")': new; dup; ldc; invokespecial; athrow -/
theorem vx_throwS {cc : ByteArray} {pc : Nat} (hexec : p.tables.exec = Jvm.exec) (hb : c.code = cc) (hl : l.stackTraces = false) {own cls text : String} {names : List String} {ik is ic mc ms sa : Nat} {A : Nat → Prop}
    (hown : s.vm.findClass own = some m.cls) (hcls : Bundle.fit cls = true) (hnames : ∀ n ∈ names, Bundle.fit n = true)
    (hk : (Cond.classLink own ik cls).before args s = true) (hini : (Cond.initialized cls).before args s = true) (hstr : vk_R own is text sa s) (hat : ∀ w ∈ vx_atS own ic cls names, w.before args s = true)
    (hgood : ∀ w ∈ Cond.classLink own ik cls :: Cond.initialized cls :: vx_atS own ic cls names, vx_ot w = true)
    (hU : vx_Zq Bundle.tN "UNASSIGNED_STACK" Bundle.steD A s s.heap) (hN : vx_Zq Bundle.tN "SUPPRESSED_SENTINEL" Bundle.listD A s s.heap) (hS : va_S A s.heap H locs) (hsize : ls.size = c.maxLocals)
    (d0 : decode cc pc = .ok (.new ik, 3)) (d3 : decode cc (pc + 3) = .ok (.dup, 1)) (d4 : decode cc (pc + 4) = .ok (.ldc is, 2)) (d6 : decode cc (pc + 6) = .ok (.invokespecial ic, 3)) (d9 : decode cc (pc + 9) = .ok (.athrow, 1))
    (hout : ∀ x ∈ c.exceptionTable.toList, covers x (pc + 9) = false)
    (hRframes : names.length + 3 < R.frames) (hRlocals : (rest.map fun v => v.category).sum + (13 * (names.length + 1) + 43) ≤ R.locals) (hRcells : cells + 1 ≤ R.cells) (hRslots : slots + 6 ≤ R.slots) (hlocks : meth.locks = false)
    (hx : ∀ t : State, s.vm.Alike t.vm → H.size ≤ t.heap.size → (∀ q : Nat, q < H.size → t.heap[q]? = H[q]?) → XC cls s t)
    (hf : ∀ z ∈ locs, free z.base) (hc : cells + 1 ≤ mc) (hs : slots + 6 ≤ ms) :
    W p l e R s m args below meth c H locs cells slots (vx_MQ below Qc XC args s mc ms free) (F0 m pc ls rest) := by
  intro T hT X
  have htr : e.platform.stackTraces = false := (show e.platform.stackTraces = l.stackTraces by rw [X.admits.platform]).trans hl
  have Y := vx_rebase X (R' := { frames := R.frames, locals := R.locals, cells := 1, slots := 6 }) (Nat.le_refl _) (Nat.le_refl _) hRcells hRslots
  obtain ⟨s', hA⟩ : ∃ z, z = (T.setVm s.vm).setFrames (.invoking m args :: below) := ⟨_, rfl⟩
  rw [← hA] at Y
  have hvm : s'.vm = s.vm := by rw [hA]; rfl
  have hhp : s'.heap = H := by rw [hA]; exact hT
  have hW0 : s.WarmedH s'.vm := by rw [hvm]; exact State.WarmedH.refl s
  have hat' : ∀ w ∈ vx_atS own ic cls names, w.before args s' = true := fun w hw => vx_ot_at hW0 hvm.symm (hgood w (List.mem_cons_of_mem _ (List.mem_cons_of_mem _ hw))) (hat w hw)
  have hk' : (Cond.classLink own ik cls).before args s' = true := vx_ot_at hW0 hvm.symm (hgood _ List.mem_cons_self) hk
  have hini' : (Cond.initialized cls).before args s' = true := vx_ot_at hW0 hvm.symm (hgood _ (List.mem_cons_of_mem _ List.mem_cons_self)) hini
  have hU' : vx_Zq Bundle.tN "UNASSIGNED_STACK" Bundle.steD A s' s'.heap := by rw [hhp]; exact vx_Zq.moved hW0.alike (hU.kept hS.2.1)
  have hN' : vx_Zq Bundle.tN "SUPPRESSED_SENTINEL" Bundle.listD A s' s'.heap := by rw [hhp]; exact vx_Zq.moved hW0.alike (hN.kept hS.2.1)
  have h : ∀ w ∈ Bundle.ownAtoms own ic cls names, w.before args s' = true := vx_own hat' (vx_isRefq hU'.1) (vx_isRefq hN'.1) hU'.2.word hN'.2.word
  have hown' : s'.vm.findClass own = some m.cls := by rw [hvm]; exact hown
  have hins : (Cond.instantiable cls 6).before args s' = true := h _ (by simp [Bundle.ownAtoms])
  obtain ⟨vm₁, cX, kX, hfX, hkX, -, -, X₁, st1⟩ := Y.newCold hexec (own := own) (C := cls) (index := ik) (n := 6) hown' hk' hins hini'
    (g := F0 m pc ls rest) rfl (by rw [hb]; exact d0) (Nat.le_refl _) (Nat.le_refl _)
  generalize hT1 : (T.setVm vm₁).pushCell { cls := cX, slots := kX.instanceTypes.map defaultValue, vm := .none } = T1 at X₁ st1
  have hcat : (Value.ref T.heap.size).category = 1 := rfl
  have hcellA : T1.heap[T.heap.size]? = some (freshCell cX kX) := by rw [← hT1]; exact State.heap_pushCell_size _ _
  have d3' : decode c.code (pc + 3) = .ok (.dup, 1) := by rw [hb]; exact d3
  have d4' : decode c.code (pc + 4) = .ok (.ldc is, 2) := by rw [hb]; exact d4
  have hstr' : vk_R own is text sa s' := vk_R.warm hW0 hstr
  obtain ⟨U, hsteps, hrun, hend, hW, hsame, ce, hce, hO⟩ := X₁.ctorThrowS hexec htr (own := own) (cls := cls) (names := names) (ic := ic) hown' hcls hnames h (fun x hx => nomatch hx) hfX hkX hcellA (by rw [hhp, hT]; exact Nat.le_refl _) (msg := .ref sa) rfl
    (g := { method := m, pc := pc + 6, locals := ls, stack := .ref sa :: .ref T.heap.size :: .ref T.heap.size :: rest, locked := none }) rfl hsize rfl rfl (rest := rest) rfl
    (by rw [hb]; exact d6) (by rw [hb]; exact d9) hout hRframes (by simp only [List.map_cons, List.sum_cons, hcat]; omega) hlocks
  obtain ⟨f1, f2⟩ := vx_frame hsame
  rw [hhp] at f1 f2
  have hWs : s.WarmedH U.vm := State.WarmedH.trans hW0 hW
  have hcl : s.vm.findClass cls = some ce.cls := by
    have h9 := hO.cls
    rw [hvm] at h9
    exact h9
  have hall : s.sameButNew ({ U with vm := s.vm } : State) locs mc ms := by
    subst hA
    obtain ⟨e1, e2⟩ := hsame
    rw [State.setFrames_setFrames] at e1
    have h2 : (T.setVm s.vm).sameButNew ({ U with vm := s.vm } : State) [] (0 + 1) (0 + 6) := ⟨e1, e2⟩
    have h3 := X.same.trans h2
    rw [List.append_nil] at h3
    exact h3.mono hc hs
  refine ⟨U, ?_, .threw T.heap.size, hrun, hend, Or.inr ⟨T.heap.size, rfl, cls, ce, locs, hx U hWs.alike f1 (fun q hq => f2 q hq (fun z hz => nomatch hz)), hce, hO.vm, hcl, hWs, hall, hf⟩⟩
  refine st1 _ ?_
  show Steps p.tables e below (T1.setTop { method := m, pc := pc + 3, locals := ls, stack := .ref T.heap.size :: rest, locked := none }) _
  jvm_step X₁.here [X₁.here.top, hexec, d3', Value.category]
  exact X₁.ldcString hexec (own := own) (text := text) (index := is) (a := sa) hown' hstr'.1 hstr'.2
    (g := { method := m, pc := pc + 4, locals := ls, stack := .ref T.heap.size :: .ref T.heap.size :: rest, locked := none }) rfl d4' _ hsteps
/-- 'throw new E("text")', the text by a wide index -/
theorem vx_throwSW {cc : ByteArray} {pc : Nat} (hexec : p.tables.exec = Jvm.exec) (hb : c.code = cc) (hl : l.stackTraces = false) {own cls text : String} {names : List String} {ik is ic mc ms sa : Nat} {A : Nat → Prop}
    (hown : s.vm.findClass own = some m.cls) (hcls : Bundle.fit cls = true) (hnames : ∀ n ∈ names, Bundle.fit n = true)
    (hk : (Cond.classLink own ik cls).before args s = true) (hini : (Cond.initialized cls).before args s = true) (hstr : vk_R own is text sa s) (hat : ∀ w ∈ vx_atS own ic cls names, w.before args s = true)
    (hgood : ∀ w ∈ Cond.classLink own ik cls :: Cond.initialized cls :: vx_atS own ic cls names, vx_ot w = true)
    (hU : vx_Zq Bundle.tN "UNASSIGNED_STACK" Bundle.steD A s s.heap) (hN : vx_Zq Bundle.tN "SUPPRESSED_SENTINEL" Bundle.listD A s s.heap) (hS : va_S A s.heap H locs) (hsize : ls.size = c.maxLocals)
    (d0 : decode cc pc = .ok (.new ik, 3)) (d3 : decode cc (pc + 3) = .ok (.dup, 1)) (d4 : decode cc (pc + 4) = .ok (.ldc_w is, 3)) (d7 : decode cc (pc + 7) = .ok (.invokespecial ic, 3)) (d10 : decode cc (pc + 10) = .ok (.athrow, 1))
    (hout : ∀ x ∈ c.exceptionTable.toList, covers x (pc + 10) = false)
    (hRframes : names.length + 3 < R.frames) (hRlocals : (rest.map fun v => v.category).sum + (13 * (names.length + 1) + 43) ≤ R.locals) (hRcells : cells + 1 ≤ R.cells) (hRslots : slots + 6 ≤ R.slots) (hlocks : meth.locks = false)
    (hx : ∀ t : State, s.vm.Alike t.vm → H.size ≤ t.heap.size → (∀ q : Nat, q < H.size → t.heap[q]? = H[q]?) → XC cls s t)
    (hf : ∀ z ∈ locs, free z.base) (hc : cells + 1 ≤ mc) (hs : slots + 6 ≤ ms) :
    W p l e R s m args below meth c H locs cells slots (vx_MQ below Qc XC args s mc ms free) (F0 m pc ls rest) := by
  intro T hT X
  have htr : e.platform.stackTraces = false := (show e.platform.stackTraces = l.stackTraces by rw [X.admits.platform]).trans hl
  have Y := vx_rebase X (R' := { frames := R.frames, locals := R.locals, cells := 1, slots := 6 }) (Nat.le_refl _) (Nat.le_refl _) hRcells hRslots
  obtain ⟨s', hA⟩ : ∃ z, z = (T.setVm s.vm).setFrames (.invoking m args :: below) := ⟨_, rfl⟩
  rw [← hA] at Y
  have hvm : s'.vm = s.vm := by rw [hA]; rfl
  have hhp : s'.heap = H := by rw [hA]; exact hT
  have hW0 : s.WarmedH s'.vm := by rw [hvm]; exact State.WarmedH.refl s
  have hat' : ∀ w ∈ vx_atS own ic cls names, w.before args s' = true := fun w hw => vx_ot_at hW0 hvm.symm (hgood w (List.mem_cons_of_mem _ (List.mem_cons_of_mem _ hw))) (hat w hw)
  have hk' : (Cond.classLink own ik cls).before args s' = true := vx_ot_at hW0 hvm.symm (hgood _ List.mem_cons_self) hk
  have hini' : (Cond.initialized cls).before args s' = true := vx_ot_at hW0 hvm.symm (hgood _ (List.mem_cons_of_mem _ List.mem_cons_self)) hini
  have hU' : vx_Zq Bundle.tN "UNASSIGNED_STACK" Bundle.steD A s' s'.heap := by rw [hhp]; exact vx_Zq.moved hW0.alike (hU.kept hS.2.1)
  have hN' : vx_Zq Bundle.tN "SUPPRESSED_SENTINEL" Bundle.listD A s' s'.heap := by rw [hhp]; exact vx_Zq.moved hW0.alike (hN.kept hS.2.1)
  have h : ∀ w ∈ Bundle.ownAtoms own ic cls names, w.before args s' = true := vx_own hat' (vx_isRefq hU'.1) (vx_isRefq hN'.1) hU'.2.word hN'.2.word
  have hown' : s'.vm.findClass own = some m.cls := by rw [hvm]; exact hown
  have hins : (Cond.instantiable cls 6).before args s' = true := h _ (by simp [Bundle.ownAtoms])
  obtain ⟨vm₁, cX, kX, hfX, hkX, -, -, X₁, st1⟩ := Y.newCold hexec (own := own) (C := cls) (index := ik) (n := 6) hown' hk' hins hini'
    (g := F0 m pc ls rest) rfl (by rw [hb]; exact d0) (Nat.le_refl _) (Nat.le_refl _)
  generalize hT1 : (T.setVm vm₁).pushCell { cls := cX, slots := kX.instanceTypes.map defaultValue, vm := .none } = T1 at X₁ st1
  have hcat : (Value.ref T.heap.size).category = 1 := rfl
  have hcellA : T1.heap[T.heap.size]? = some (freshCell cX kX) := by rw [← hT1]; exact State.heap_pushCell_size _ _
  have d3' : decode c.code (pc + 3) = .ok (.dup, 1) := by rw [hb]; exact d3
  have d4' : decode c.code (pc + 4) = .ok (.ldc_w is, 3) := by rw [hb]; exact d4
  have hstr' : vk_R own is text sa s' := vk_R.warm hW0 hstr
  obtain ⟨U, hsteps, hrun, hend, hW, hsame, ce, hce, hO⟩ := X₁.ctorThrowS hexec htr (own := own) (cls := cls) (names := names) (ic := ic) hown' hcls hnames h (fun x hx => nomatch hx) hfX hkX hcellA (by rw [hhp, hT]; exact Nat.le_refl _) (msg := .ref sa) rfl
    (g := { method := m, pc := pc + 7, locals := ls, stack := .ref sa :: .ref T.heap.size :: .ref T.heap.size :: rest, locked := none }) rfl hsize rfl rfl (rest := rest) rfl
    (by rw [hb]; exact d7) (by rw [hb]; exact d10) hout hRframes (by simp only [List.map_cons, List.sum_cons, hcat]; omega) hlocks
  obtain ⟨f1, f2⟩ := vx_frame hsame
  rw [hhp] at f1 f2
  have hWs : s.WarmedH U.vm := State.WarmedH.trans hW0 hW
  have hcl : s.vm.findClass cls = some ce.cls := by
    have h9 := hO.cls
    rw [hvm] at h9
    exact h9
  have hall : s.sameButNew ({ U with vm := s.vm } : State) locs mc ms := by
    subst hA
    obtain ⟨e1, e2⟩ := hsame
    rw [State.setFrames_setFrames] at e1
    have h2 : (T.setVm s.vm).sameButNew ({ U with vm := s.vm } : State) [] (0 + 1) (0 + 6) := ⟨e1, e2⟩
    have h3 := X.same.trans h2
    rw [List.append_nil] at h3
    exact h3.mono hc hs
  refine ⟨U, ?_, .threw T.heap.size, hrun, hend, Or.inr ⟨T.heap.size, rfl, cls, ce, locs, hx U hWs.alike f1 (fun q hq => f2 q hq (fun z hz => nomatch hz)), hce, hO.vm, hcl, hWs, hall, hf⟩⟩
  refine st1 _ ?_
  show Steps p.tables e below (T1.setTop { method := m, pc := pc + 3, locals := ls, stack := .ref T.heap.size :: rest, locked := none }) _
  jvm_step X₁.here [X₁.here.top, hexec, d3', Value.category]
  exact X₁.ldcStringW hexec (own := own) (text := text) (index := is) (a := sa) hown' hstr'.1 hstr'.2
    (g := { method := m, pc := pc + 4, locals := ls, stack := .ref T.heap.size :: .ref T.heap.size :: rest, locked := none }) rfl d4' _ hsteps
end Ends
section Bodies
variable {l : Launch}
theorem vx_ofW {y : MethodName} {ws ws' : List Cond} {rm : Room} {Pc : Array Value → State → Prop} {Qc : Array Value → State → Outcome → State → Prop} {XC : String → State → State → Prop} {mc ms : Nat} {free : Addr → Prop} {cc : ByteArray} {maxL : Nat} {ret : Option FieldType}
    (hy : plainName y.cls = true) (hw : ws = Cond.code y cc maxL ret :: ws')
    (body : ∀ p e s m args below meth c s₁, BodyLoose p l y (headSpec ws rm) cc maxL ret e s m args below meth c s₁ → c.maxLocals = maxL → (∀ x ∈ c.exceptionTable.toList, False) → Pc args s →
      W p l e (headSpec ws rm).room s m args below meth c s.heap [] 0 0 (vx_MQ below Qc XC args s mc ms free) (entryFrame m args maxL)) : vx_Met l y ws rm Pc Qc XC mc ms free := by
  refine MetFree.of_bodyS (code := cc) (maxLocals := maxL) (ret := ret) hy ?_ ?_
  · intro args s m h hn
    obtain ⟨meth, c, h1, h2, h3, h4, h5, h6, -, -⟩ := Cond.code_spec hn (atoms_spec (ws := ws) h _ (by rw [hw]; exact List.mem_cons_self))
    exact ⟨meth, c, h1, h2, h3, h4, h5, h6⟩
  · intro p e s m args below meth c s₁ B hml hP _
    have hh0 : s₁.heap = s.heap := by rw [B.state]; rfl
    have ht : ∀ x ∈ c.exceptionTable.toList, False := by
      obtain ⟨meth9, c9, h1, h2, -, -, -, -, h7, -⟩ := Cond.code_spec B.named (atoms_spec (ws := ws) B.pre _ (by rw [hw]; exact List.mem_cons_self))
      cases Option.some.inj (h1.symm.trans B.method)
      cases Option.some.inj (h2.symm.trans (Stand.of_body B).code)
      intro x hx
      rw [Array.isEmpty_iff.mp h7] at hx
      cases hx
    obtain ⟨t, a1, o, b1, b2, b3⟩ := body p e s m args below meth c s₁ B hml ht hP s₁ hh0 (Stand.of_body B)
    exact ⟨t, o, a1, b1, b2, b3⟩
/-- the table of a body with handlers -/
theorem vx_table {p : Program} {x y : MethodName} {S : Spec} {cc bytes : ByteArray} {maxL maxL' : Nat} {ret ret' : Option FieldType} {e : Env} {s s₁ : State} {m : MethodId} {args : Array Value} {below : List Frame} {meth : Method} {c : Code} {hh : List (Nat × Nat × Nat × Nat)}
    (B : BodyLoose p l y S cc maxL ret e s m args below meth c s₁) (h : (Cond.codeWith y bytes maxL' ret' hh).before args s = true) : c.exceptionTable.toList = tableOf hh := by
  obtain ⟨m9, meth9, c9, hn9, h1, h2, -, -, h6, -⟩ := Cond.codeWith_spec h
  cases Option.some.inj (hn9.symm.trans B.named)
  cases Option.some.inj (h1.symm.trans B.method)
  cases Option.some.inj (h2.symm.trans (Stand.of_body B).code)
  rw [← h6, table_eq]
end Bodies
end VXA
/-! ===== END ===== -/
/-! ===== BEGIN a static call of a method with an exception table ===== -/
section VXS
variable {p : Program} {l : Launch} {e : Env} {R : Room} {s : State} {m : MethodId} {args : Array Value} {below : List Frame} {meth : Method} {c : Code} {T : State} {H : Heap} {locs : List Loc} {cells slots : Nat}
abbrev vx_CSW (R : Room) (s : State) (args : Array Value) (own : String) (index : Nat) (y : MethodName) (bytes : ByteArray) (maxL : Nat) (ret : Option FieldType) (hh : List (Nat × Nat × Nat × Nat)) (ws : List Cond) (rm : Room) (mc ms n : Nat) : Prop :=
  (rm.cells = mc ∧ rm.slots = ms ∧ rm.frames + 1 ≤ R.frames ∧ 8 + (maxL + 11) + rm.locals ≤ R.locals ∧ (∀ w ∈ ws, ∀ (a' : Array Value) (U : State), s.WarmedH U.vm → w.before a' U = true) ∧ Cond.codeWith y bytes maxL ret hh ∈ ws) ∧
  (Cond.codeWith y bytes maxL ret hh).before args s = true ∧ (Cond.initialized y.cls).before args s = true ∧ (y.cls ≠ "java/lang/invoke/MethodHandle" ∧ y.cls ≠ "java/lang/invoke/VarHandle") ∧
  (∀ sig, parseMethodDescriptor y.desc = some sig → n = sig.parameters.length) ∧ (Cond.methodLink own index y).before args s = true ∧ (Cond.static y).before args s = true
theorem vx_cwSW {own : String} {index maxL mc ms : Nat} {y : MethodName} {bytes : ByteArray} {ret : Option FieldType} {hh : List (Nat × Nat × Nat × Nat)} {Ts ws ws' : List Cond} {rm : Room} (n : Nat) (ht : ∀ w ∈ Ts, w.before args s = true) (hT : GoodIn Ts (va_wsS own index y ws)) (hw : ws = Cond.codeWith y bytes maxL ret hh :: ws') (hrc : rm.cells = mc) (hrs : rm.slots = ms)
    (hd : y.cls ≠ "java/lang/invoke/MethodHandle" ∧ y.cls ≠ "java/lang/invoke/VarHandle" ∧ (parseMethodDescriptor y.desc).map (fun d => d.parameters.length) = some n) (hR : rm.frames + 1 ≤ R.frames ∧ 8 + (maxL + 11) + rm.locals ≤ R.locals) :
    vx_CSW R s args own index y bytes maxL ret hh ws rm mc ms n := by
  have ok : ∀ w ∈ va_wsS own index y ws, w.before args s = true := fun w h => ht w (hT w h).1
  have hG : GoodIn Ts ws := fun w h => hT w (by unfold va_wsS; exact List.mem_append_right _ h)
  have hc : Cond.codeWith y bytes maxL ret hh ∈ ws := by rw [hw]; exact List.mem_cons_self
  refine ⟨⟨hrc, hrs, hR.1, hR.2, pay_in ht hG, hc⟩, ht _ (hG _ hc).1, ok _ (by simp [va_wsS]), ⟨hd.1, hd.2.1⟩, fun sig h => ?_, ok _ (by simp [va_wsS]), ok _ (by simp [va_wsS])⟩
  have h2 := hd.2.2
  rw [h] at h2
  exact (Option.some.inj h2).symm
theorem vx_callSW (X : Stand p l e R s m args below meth c T locs cells slots) (hexec : p.tables.exec = Jvm.exec) {own : String} {index : Nat} {y : MethodName} {bytes : ByteArray} {maxL : Nat} {ret : Option FieldType} {hh : List (Nat × Nat × Nat × Nat)}
    (hown : s.vm.findClass own = some m.cls) (hlink : (Cond.methodLink own index y).before args s = true) (hstat : (Cond.static y).before args s = true) (hinit : (Cond.initialized y.cls).before args s = true)
    (hcode : (Cond.codeWith y bytes maxL ret hh).before args s = true) (hy : y.cls ≠ "java/lang/invoke/MethodHandle" ∧ y.cls ≠ "java/lang/invoke/VarHandle")
    {W9 : Nat} {Pre : Pt → Array Value → Prop} {Post : Pt → Array Value → Option Value → Pt → Prop} (hK : Back l R p e below s args y 3 W9 Pre Post)
    {g : JFrame} (hg : g.method = m) (hsize : g.locals.size = c.maxLocals) {argsL rest : List Value} (hlen : ∀ sig, parseMethodDescriptor y.desc = some sig → argsL.length = sig.parameters.length)
    (hstack : g.stack = argsL.reverse ++ rest) (hW : 2 * g.monitorRoom + (rest.map fun v => v.category).sum ≤ W9) (hdg : decode c.code g.pc = .ok (.invokestatic index, 3))
    (hpre : ∀ vm₁, s.WarmedH vm₁ → Pre ⟨T.setVm vm₁, locs, cells, slots⟩ argsL.toArray) :
    ∃ (v : Option Value) (vm₁ : Vm) (B : Pt), s.WarmedH vm₁ ∧ Stand p l e R s m args below meth c B.U B.locs B.cells B.slots ∧ Post ⟨T.setVm vm₁, locs, cells, slots⟩ argsL.toArray v B ∧
      ∀ target, Steps p.tables e below (B.U.setTop { g with pc := g.pc + 3, stack := v.toList ++ rest }) target → Steps p.tables e below (T.setTop g) target := by
  obtain ⟨mk, methM, cM, hnamed, hmethM, -, -, -, -, -, -, hsigM⟩ := Cond.codeWith_spec hcode
  have hstatic : methM.isStatic = true := Cond.static_spec hnamed hmethM hstat
  obtain ⟨kP, hkP, -⟩ := className_of_methodNamed hnamed
  have hinitP : kP.init = .initialized := Cond.initialized_spec (findClass_of_methodNamed hnamed) hkP hinit
  obtain ⟨vm₁, X₁, hstep₁⟩ := X.invokestatic hexec hown hlink hnamed hmethM hstatic hkP hinitP hy (g := g) hg (argsL := argsL) (rest := rest) (hlen _ hsigM) hstack hdg
  obtain ⟨v, B, X', hpost, hsteps⟩ := hK m meth c ⟨T.setVm vm₁, locs, cells, slots⟩ { g with stack := rest } (.invokestatic index) mk argsL.toArray X₁ hg hsize hdg hW (X₁.named hnamed) (hpre vm₁ X₁.warmed)
  exact ⟨v, vm₁, B, X₁.warmed, X', hpost, fun target h => hstep₁ _ fun acts => by rw [doInvoke_state]; exact hsteps.trans h⟩
theorem vx_runSW {y : MethodName} {bytes cc : ByteArray} {maxL nL mc ms n index : Nat} {ret : Option FieldType} {hh : List (Nat × Nat × Nat × Nat)} {ws : List Cond} {rm : Room} {Pc : Array Value → State → Prop} {Qc : Array Value → State → Outcome → State → Prop} {free : Addr → Prop} {Ts : List Cond} {own : String} {As rest : List Value} {g : JFrame}
    (S : CallFix p m c cc nL s args Ts own) (hM : Met l y ws rm Pc Qc mc ms free) (cw : vx_CSW R s args own index y bytes maxL ret hh ws rm mc ms n) (hp : PreS s H Pc As)
    (hg : g.method = m) (hn : As.length = n) (hsize : g.locals.size = nL) (hstack : g.stack = As.reverse ++ rest) (hW : 2 * g.monitorRoom + (rest.map fun v => v.category).sum ≤ 8) (hdg : decode cc g.pc = .ok (.invokestatic index, 3)) (hf : cells + mc ≤ R.cells ∧ slots + ms ≤ R.slots) :
    va_Run p l e R s m args below meth c H locs cells slots mc ms g rest (Qc As.toArray) (free) := by
  obtain ⟨⟨hrc, hrs, hfr, hlo, hws, hcw⟩, hcode, hini, hy, hlen, hl, hstt⟩ := cw
  have hK : Back l R p e below s args y 3 8 (PreOf R mc ms Pc) (PostOf Qc mc ms free) := va_backW (hh := hh) (bytes := bytes) (maxL := maxL) (ret := ret) hM hp.1 hrc hrs hfr hlo hws hcw (fun a' U hW => word_at hW (Or.inl (by first | rfl | simp [Cond.onTables, Cond.keeps, Cond.steady])) hini)
  obtain ⟨hx, hb, hml, ho, -⟩ := S
  intro T hT X
  obtain ⟨v, vm₁, ⟨U', l2, c2, s2⟩, hW₁, X', ⟨g', mk, t, L, e1, e2, hq, h1, hL, h2, h3⟩, st⟩ := vx_callSW X hx (hh := hh) (bytes := bytes) (maxL := maxL) (ret := ret) ho hl hstt hini hcode hy hK hg (hsize.trans hml.symm) (argsL := As) (rest := rest) (fun sig h => hn.trans (hlen sig h)) hstack hW (by rw [hb]; exact hdg)
    (fun vm₁ hW₁ => ⟨hf.1, hf.2, hp.2 (T.setVm vm₁) hT hW₁⟩)
  dsimp only [Pt.U, Pt.locs, Pt.cells, Pt.slots] at X' e1 e2 h1 h2 h3 st
  subst h1; subst h2; subst h3
  exact ⟨v, (T.setVm vm₁).calling g' mk As.toArray, t, U', L, hT, X', hL, e1, e2, hq, st⟩
/-- not caught here, past rows that name other classes: it goes on to the caller -/
theorem vx_outP {p : Program} {l : Launch} {e : Env} {R : Room} {s : State} {m : MethodId} {args : Array Value} {below : List Frame} {meth : Method} {c : Code} {H : Heap} {locs : List Loc} {cells slots : Nat} {free : Addr → Prop} {ls : Array Slot} {rest : List Value} {Qc : Array Value → State → Outcome → State → Prop} {XC : String → State → State → Prop}
    {pc : Nat} {own E : String} {ce : Cell} {q : Addr} {mc ms : Nat} (hown : s.vm.findClass own = some m.cls) (hlocks : meth.locks = false)
    (hpass : ∀ z ∈ c.exceptionTable.toList, covers z pc = false ∨ (z.catchType ≠ 0 ∧ ∃ nm : String, (Cond.classLink own z.catchType nm).before args s = true ∧ va_Nc E nm s)) (hcell : H[q]? = some ce) (hv : ce.vm = .none) (hcl : s.vm.findClass E = some ce.cls)
    (hx : ∀ t : State, t.heap = H → s.vm.Alike t.vm → XC E s t) (hf : ∀ z ∈ locs, free z.base) (hc : cells ≤ mc) (hs : slots ≤ ms) :
    vx_W p l e R s m args below meth c H locs cells slots (vx_MQ below Qc XC args s mc ms free) (F0 m pc ls rest) q := by
  intro T hT X
  have hpl : e.platform.magicAccessors = ({} : Platform).magicAccessors := by rw [X.admits.platform]
  obtain ⟨vm', hW', X', st⟩ := X.outThrough hlocks q (g := F0 m pc ls rest) rfl rfl rfl (cell := ce) (by rw [hT]; exact hcell) (by rw [hv]; rfl)
    (by obtain ⟨k9, h9, -⟩ := Vm.findClass_spec hcl; exact ⟨k9, h9⟩) (fun z hz => by
      rcases hpass z hz with h | ⟨hz0, nm, hl1, hn1⟩
      · exact Or.inl h
      · obtain ⟨c6, hc6, hcl6⟩ := Cond.classLink_spec hown hl1 e.platform hpl
        obtain ⟨a8, b8, h1, h2, h3⟩ := hn1
        cases Option.some.inj (h1.symm.trans hcl)
        cases Option.some.inj (h2.symm.trans hc6)
        exact Or.inr ⟨hz0, _, hcl6, h3⟩)
  obtain ⟨g₀, hfr⟩ := X'.frames_eq
  have hcell9 : ((T.setVm vm').setFrames (.throwing q :: below)).heap[q]? = some ce := by
    show T.heap[q]? = some ce
    rw [hT]; exact hcell
  have hend : Ended ((T.setVm vm').setFrames (.throwing q :: below)) below (.threw q) := State.frames_setFrames _ (State.cur_lt_of_frames hfr)
  refine ⟨(T.setVm vm').setFrames (.throwing q :: below), ?_, .threw q, X'.here.running, hend, Or.inr ⟨q, rfl, E, ce, locs, hx _ hT (X'.ends _).1.alike, hcell9, hv, hcl, (X'.ends _).1, (X'.ends _).2.mono hc hs, hf⟩⟩
  rw [X.pushThrowing_eq]
  exact st
/-- a thing of a world lies in the heap -/
theorem vx_lt {D : va_G} {cl : List vw_C} {ws : va_W} {H1 : Heap} (h : va_P D cl ws H1) {k : Nat} {q : Nat × va_E} (hk : ws[k]? = some q) : q.1 < H1.size := (h k q hk).lt
end VXS
/-! ===== END ===== -/
/-! ===== BEGIN methods with a table of their own: called by a name, returning or throwing ===== -/
section VXH
/-! vx_backW, vx_callVX, vx_callSX, vx_callVW, vx_runVW, vx_runVX, vx_runSX, vx_ofWH follow the same proofs as their sisters above (Free/Laws.lean, Shelf42/LK1.lean); vx_outP calls Shelf42/NT130.lean (outThrough). -/
section
variable {l : Launch} {R : Room} {p : Program} {e : Env} {below : List Frame} {s : State} {sargs : Array Value} {y : MethodName} {len W9 : Nat}
theorem vx_backW {ws : List Cond} {rm : Room} {Pc : Array Value → State → Prop} {Qc : Array Value → State → Outcome → State → Prop} {XC : String → State → State → Prop} {mc ms : Nat} {free : Addr → Prop} {bytes : ByteArray} {maxL : Nat} {ret : Option FieldType} {hh : List (Nat × Nat × Nat × Nat)}
    (hM : vx_Met l y ws rm Pc Qc XC mc ms free) (hblind : FrameBlind Pc) (hrc : rm.cells = mc) (hrs : rm.slots = ms)
    (hframes : rm.frames + 1 ≤ R.frames) (hlocals : W9 + (maxL + 11) + rm.locals ≤ R.locals)
    (hws : ∀ w ∈ ws, ∀ a' U, s.WarmedH U.vm → w.before a' U = true) (hcode : Cond.codeWith y bytes maxL ret hh ∈ ws) (hinit : ∀ a' U, s.WarmedH U.vm → (Cond.initialized y.cls).before a' U = true) :
    vx_Back l R p e below s sargs y len W9 (PreOf R mc ms Pc) (PostOf Qc mc ms free) (vx_Post XC mc ms free) := by
  intro m meth c A g ig mk a X hg hsize hdg hW hn hp
  have h1 : (headSpec ws rm).pre.before a A.U = true := atoms_intro fun w hw => hws w hw _ _ X.warmed
  have h2 : (Cond.codeWith y bytes maxL ret hh).before a A.U = true := hws _ hcode _ _ X.warmed
  have h3 : (Cond.initialized y.cls).before a A.U = true := hinit _ _ X.warmed
  have h4 : A.cells + (headSpec ws rm).room.cells ≤ R.cells := by rw [show (headSpec ws rm).room.cells = mc from hrc]; exact hp.1
  have h5 : A.slots + (headSpec ws rm).room.slots ≤ R.slots := by rw [show (headSpec ws rm).room.slots = ms from hrs]; exact hp.2.1
  have hPc : Pc a (A.U.calling g mk a) := hblind _ _ _ _ hp.2.2
  obtain ⟨U, Ls, c0, s0⟩ := A
  dsimp only [Pt.U, Pt.locs, Pt.cells, Pt.slots] at h1 h2 h3 h4 h5 X hn hPc ⊢
  obtain ⟨m9, methY, cY, hn9, hmY, hcY, -, hlY, -⟩ := Cond.codeWith_spec h2
  cases Option.some.inj (hn9.symm.trans hn)
  obtain ⟨kY, hkY, -⟩ := className_of_methodNamed hn
  have hinitY : kY.init = .initialized := Cond.initialized_spec (findClass_of_methodNamed hn) hkY h3
  have h : At U g.method c below := by rw [hg]; exact X.here
  have hlocals9 : W9 + (maxL + 11) + (headSpec ws rm).room.locals ≤ R.locals := hlocals
  have happ : (headSpec ws rm).appliesLoose y e.platform (U.calling g mk a) = true :=
    Spec.appliesLoose_calling (g := g) h hdg hn hkY hinitY
      (X.room_calling (g := g) (R' := (headSpec ws rm).room) hsize hmY hcY hframes (by rw [hlY]; omega) h4 h5) h1
  obtain ⟨mid, hmid⟩ := h.above
  have hfr : (U.setTop g).frames = (.java g :: mid) ++ below := by rw [State.frames_setTop' g h.top, hmid]; rfl
  obtain ⟨o, s₂, hsteps, -, hend, hq⟩ := Steps.callFree hM p X.admits X.cas X.clock (acts := []) hfr happ hPc trivial
  have hq' : vx_Q Qc XC mc ms free a (U.calling g mk a) o s₂ := hq
  rw [State.frames_setTop' g h.top] at hend
  obtain ⟨g₀, hg0⟩ := Option.isSome_iff_exists.mp h.top
  obtain ⟨r, hr⟩ := State.topJava?_eq_some.mp hg0
  have hr' : (({ U with heap := s₂.heap, slotsUsed := s₂.slotsUsed } : State).setVm s₂.vm).frames = .java g₀ :: r := hr
  rcases hq' with ⟨hqc, L, hfe, hL⟩ | ⟨q, rfl, E, ce, L, hx, hce, hcv, hcl, hW₂, hsm, hL⟩
  · obtain ⟨⟨v, rfl⟩, hW₂, e2, q2, q3, q4, q5, q6⟩ := id hfe
    have e3 : s₂ = ({ (U.calling g mk a).setFrames s₂.frames with heap := s₂.heap, slotsUsed := s₂.slotsUsed } : State).setVm s₂.vm := by
      have : s₂ = ({ s₂ with vm := (U.calling g mk a).vm } : State).setVm s₂.vm := rfl
      rw [e2] at this
      exact this
    obtain ⟨c₂, i₂, len₂, hc₂, hd₂, hf₂⟩ := hend
    have hW' : U.WarmedH s₂.vm := hW₂
    have hcc : c₂ = c := by
      have h1 : s₂.code? g.method = U.code? g.method := by
        rw [State.code?_eq, State.code?_eq, hW'.alike.method?]
      exact Option.some.inj (hc₂.symm.trans (h1.trans h.code))
    subst hcc
    have hlen : len₂ = len := by rw [hdg] at hd₂; cases hd₂; rfl
    subst hlen
    have hs₂ : s₂ = (({ U with heap := s₂.heap, slotsUsed := s₂.slotsUsed } : State).setVm s₂.vm).setTop { g with pc := g.pc + len₂, stack := v.toList ++ g.stack } := by
      refine e3.trans ?_
      rw [hf₂, State.calling_eq h.top, State.setFrames_setFrames, State.setTop_of_frames _ hr', hr]
      rfl
    have hsame : U.sameButNew ({ U with heap := s₂.heap, slotsUsed := s₂.slotsUsed } : State) L mc ms := by
      refine ⟨?_, q2, q3, q4, q5, q6⟩
      obtain ⟨t, ht, -⟩ := State.frames_cons hr
      show ({ U with heap := s₂.heap, slotsUsed := s₂.slotsUsed } : State) = { U.setFrames U.frames with heap := s₂.heap, slotsUsed := s₂.slotsUsed }
      rw [State.setFrames_self ht]
    subst hg
    refine Or.inl ⟨v, ⟨(({ U with heap := s₂.heap, slotsUsed := s₂.slotsUsed } : State).setVm s₂.vm), Ls ++ L, c0 + mc, s0 + ms⟩,
      ⟨X.admits, X.cas, X.clock, X.frames, X.room, X.hears, X.method, X.code, (X.here.setHeapUsed s₂.heap s₂.slotsUsed).setVm hW'.alike, X.tail, State.WarmedH.trans X.warmed hW', X.limits, X.bytes, X.same.trans (hsame.setVm s.vm)⟩,
      ⟨g, mk, s₂, L, rfl, rfl, hqc, rfl, hL, rfl, rfl⟩, ?_⟩
    show Steps p.tables e below _ ((({ U with heap := s₂.heap, slotsUsed := s₂.slotsUsed } : State).setVm s₂.vm).setTop { g with pc := g.pc + len₂, stack := v.toList ++ g.stack })
    rw [← hs₂]
    exact hsteps
  · obtain ⟨e2, q2, q3, q4, q5, q6⟩ := id hsm
    have e3 : s₂ = ({ (U.calling g mk a).setFrames s₂.frames with heap := s₂.heap, slotsUsed := s₂.slotsUsed } : State).setVm s₂.vm := by
      have : s₂ = ({ s₂ with vm := (U.calling g mk a).vm } : State).setVm s₂.vm := rfl
      rw [e2] at this
      exact this
    have hf₂ : s₂.frames = .throwing q :: .java g :: U.frames.tail := hend
    have hW' : U.WarmedH s₂.vm := hW₂
    have hs₂ : s₂ = ((({ U with heap := s₂.heap, slotsUsed := s₂.slotsUsed } : State).setVm s₂.vm).setTop g).pushFrame (.throwing q) := by
      refine e3.trans ?_
      rw [hf₂, State.calling_eq h.top, State.setFrames_setFrames, State.pushFrame, State.frames_setTop _ hr', State.setTop_of_frames _ hr', State.setFrames_setFrames, hr]
      rfl
    have hsame : U.sameButNew ({ U with heap := s₂.heap, slotsUsed := s₂.slotsUsed } : State) L mc ms := by
      refine ⟨?_, q2, q3, q4, q5, q6⟩
      obtain ⟨t, ht, -⟩ := State.frames_cons hr
      show ({ U with heap := s₂.heap, slotsUsed := s₂.slotsUsed } : State) = { U.setFrames U.frames with heap := s₂.heap, slotsUsed := s₂.slotsUsed }
      rw [State.setFrames_self ht]
    subst hg
    refine Or.inr ⟨q, ⟨(({ U with heap := s₂.heap, slotsUsed := s₂.slotsUsed } : State).setVm s₂.vm), Ls ++ L, c0 + mc, s0 + ms⟩,
      ⟨X.admits, X.cas, X.clock, X.frames, X.room, X.hears, X.method, X.code, (X.here.setHeapUsed s₂.heap s₂.slotsUsed).setVm hW'.alike, X.tail, State.WarmedH.trans X.warmed hW', X.limits, X.bytes, X.same.trans (hsame.setVm s.vm)⟩,
      ⟨g, mk, s₂, L, E, ce, rfl, rfl, hx, hce, hcv, hcl, rfl, hL, rfl, rfl⟩, ?_⟩
    show Steps p.tables e below _ (((({ U with heap := s₂.heap, slotsUsed := s₂.slotsUsed } : State).setVm s₂.vm).setTop g).pushFrame (.throwing q))
    rw [← hs₂]
    exact hsteps
end
variable {p : Program} {l : Launch} {e : Env} {R : Room} {s : State} {m : MethodId} {args : Array Value} {below : List Frame} {meth : Method} {c : Code} {T : State} {H : Heap} {locs : List Loc} {cells slots : Nat}
theorem vx_callVX (X : Stand p l e R s m args below meth c T locs cells slots) (hexec : p.tables.exec = Jvm.exec) {own C : String} {index : Nat} {y : MethodName} {bytes : ByteArray} {maxL : Nat} {ret : Option FieldType} {hh : List (Nat × Nat × Nat × Nat)}
    (hown : s.vm.findClass own = some m.cls) (hlink : (Cond.methodLink own index y).before args s = true) (hinst : (Cond.instanceMethod y).before args s = true) (hsel : (Cond.selects C y y).before args s = true)
    (hcode : (Cond.codeWith y bytes maxL ret hh).before args s = true) (hy : y.cls ≠ "java/lang/invoke/MethodHandle" ∧ y.cls ≠ "java/lang/invoke/VarHandle")
    {W9 : Nat} {Pre : Pt → Array Value → Prop} {Post : Pt → Array Value → Option Value → Pt → Prop} {PostX : Pt → Array Value → Addr → Pt → Prop} (hK : vx_Back l R p e below s args y 3 W9 Pre Post PostX)
    {b : Addr} {cellB : Cell} (hcell : T.heap[b]? = some cellB) (hobj : cellB.vm.isStatics = false) (hcls : s.vm.findClass C = some cellB.cls)
    {g : JFrame} (hg : g.method = m) (hsize : g.locals.size = c.maxLocals) {argsL rest : List Value} (hlen : ∀ sig, parseMethodDescriptor y.desc = some sig → argsL.length = sig.parameters.length)
    (hstack : g.stack = argsL.reverse ++ .ref b :: rest) (hW : 2 * g.monitorRoom + (rest.map fun v => v.category).sum ≤ W9) (hdg : decode c.code g.pc = .ok (.invokevirtual index, 3))
    (hpre : ∀ vm₁, s.WarmedH vm₁ → Pre ⟨T.setVm vm₁, locs, cells, slots⟩ (Value.ref b :: argsL).toArray) :
    (∃ (v : Option Value) (vm₁ : Vm) (B : Pt), s.WarmedH vm₁ ∧ Stand p l e R s m args below meth c B.U B.locs B.cells B.slots ∧ Post ⟨T.setVm vm₁, locs, cells, slots⟩ (Value.ref b :: argsL).toArray v B ∧
      ∀ target, Steps p.tables e below (B.U.setTop { g with pc := g.pc + 3, stack := v.toList ++ rest }) target → Steps p.tables e below (T.setTop g) target) ∨
    (∃ (q : Addr) (vm₁ : Vm) (B : Pt), s.WarmedH vm₁ ∧ Stand p l e R s m args below meth c B.U B.locs B.cells B.slots ∧ PostX ⟨T.setVm vm₁, locs, cells, slots⟩ (Value.ref b :: argsL).toArray q B ∧
      Steps p.tables e below (T.setTop g) ((B.U.setTop { g with stack := rest }).pushFrame (.throwing q))) := by
  obtain ⟨mk, methM, hnamed, hmethM, hstM, habM⟩ := Cond.instanceMethod_spec hinst
  obtain ⟨m8, methM', cM, hn8, hmethM', -, -, -, -, -, -, hsigM⟩ := Cond.codeWith_spec hcode
  cases Option.some.inj (hn8.symm.trans hnamed)
  cases hmethM.symm.trans hmethM'
  obtain ⟨c2, r2, m2, q1, q2, q3, q4, kP, hkP, hkPi⟩ := Cond.selects_spec hsel
  cases hcls.symm.trans q1
  cases (State.methodFound?_of_named hnamed hy).symm.trans q2
  cases hnamed.symm.trans q3
  have hselP : selectMethod e.platform s.vm cellB.cls mk = .method mk := by rw [Launch.admits_selectMethod X.admits]; exact q4
  obtain ⟨vm₁, X₁, hstep₁⟩ := X.invokevirtual hexec hown hlink hnamed hmethM hstM hkP hkPi hy (a := b) (cell := cellB) hcell
    (fun z h => by rw [h] at hobj; cases hobj) hselP hmethM habM hkP hkPi (g := g) hg (argsL := argsL) (rest := rest) (hlen _ hsigM) hstack hdg
  rcases hK m meth c ⟨T.setVm vm₁, locs, cells, slots⟩ { g with stack := rest } (.invokevirtual index) mk (Value.ref b :: argsL).toArray X₁ hg hsize hdg hW (X₁.named hnamed) (hpre vm₁ X₁.warmed) with ⟨v, B, X', hpost, hsteps⟩ | ⟨q, B, X', hpost, hsteps⟩
  · exact Or.inl ⟨v, vm₁, B, X₁.warmed, X', hpost, fun target h => hstep₁ _ fun acts => by rw [doInvoke_state]; exact hsteps.trans h⟩
  · exact Or.inr ⟨q, vm₁, B, X₁.warmed, X', hpost, hstep₁ _ fun acts => by rw [doInvoke_state]; exact hsteps⟩
theorem vx_callSX (X : Stand p l e R s m args below meth c T locs cells slots) (hexec : p.tables.exec = Jvm.exec) {own : String} {index : Nat} {y : MethodName} {bytes : ByteArray} {maxL : Nat} {ret : Option FieldType} {hh : List (Nat × Nat × Nat × Nat)}
    (hown : s.vm.findClass own = some m.cls) (hlink : (Cond.methodLink own index y).before args s = true) (hstat : (Cond.static y).before args s = true) (hinit : (Cond.initialized y.cls).before args s = true)
    (hcode : (Cond.codeWith y bytes maxL ret hh).before args s = true) (hy : y.cls ≠ "java/lang/invoke/MethodHandle" ∧ y.cls ≠ "java/lang/invoke/VarHandle")
    {W9 : Nat} {Pre : Pt → Array Value → Prop} {Post : Pt → Array Value → Option Value → Pt → Prop} {PostX : Pt → Array Value → Addr → Pt → Prop} (hK : vx_Back l R p e below s args y 3 W9 Pre Post PostX)
    {g : JFrame} (hg : g.method = m) (hsize : g.locals.size = c.maxLocals) {argsL rest : List Value} (hlen : ∀ sig, parseMethodDescriptor y.desc = some sig → argsL.length = sig.parameters.length)
    (hstack : g.stack = argsL.reverse ++ rest) (hW : 2 * g.monitorRoom + (rest.map fun v => v.category).sum ≤ W9) (hdg : decode c.code g.pc = .ok (.invokestatic index, 3))
    (hpre : ∀ vm₁, s.WarmedH vm₁ → Pre ⟨T.setVm vm₁, locs, cells, slots⟩ argsL.toArray) :
    (∃ (v : Option Value) (vm₁ : Vm) (B : Pt), s.WarmedH vm₁ ∧ Stand p l e R s m args below meth c B.U B.locs B.cells B.slots ∧ Post ⟨T.setVm vm₁, locs, cells, slots⟩ argsL.toArray v B ∧
      ∀ target, Steps p.tables e below (B.U.setTop { g with pc := g.pc + 3, stack := v.toList ++ rest }) target → Steps p.tables e below (T.setTop g) target) ∨
    (∃ (q : Addr) (vm₁ : Vm) (B : Pt), s.WarmedH vm₁ ∧ Stand p l e R s m args below meth c B.U B.locs B.cells B.slots ∧ PostX ⟨T.setVm vm₁, locs, cells, slots⟩ argsL.toArray q B ∧
      Steps p.tables e below (T.setTop g) ((B.U.setTop { g with stack := rest }).pushFrame (.throwing q))) := by
  obtain ⟨mk, methM, cM, hnamed, hmethM, -, -, -, -, -, -, hsigM⟩ := Cond.codeWith_spec hcode
  have hstatic : methM.isStatic = true := Cond.static_spec hnamed hmethM hstat
  obtain ⟨kP, hkP, -⟩ := className_of_methodNamed hnamed
  have hinitP : kP.init = .initialized := Cond.initialized_spec (findClass_of_methodNamed hnamed) hkP hinit
  obtain ⟨vm₁, X₁, hstep₁⟩ := X.invokestatic hexec hown hlink hnamed hmethM hstatic hkP hinitP hy (g := g) hg (argsL := argsL) (rest := rest) (hlen _ hsigM) hstack hdg
  rcases hK m meth c ⟨T.setVm vm₁, locs, cells, slots⟩ { g with stack := rest } (.invokestatic index) mk argsL.toArray X₁ hg hsize hdg hW (X₁.named hnamed) (hpre vm₁ X₁.warmed) with ⟨v, B, X', hpost, hsteps⟩ | ⟨q, B, X', hpost, hsteps⟩
  · exact Or.inl ⟨v, vm₁, B, X₁.warmed, X', hpost, fun target h => hstep₁ _ fun acts => by rw [doInvoke_state]; exact hsteps.trans h⟩
  · exact Or.inr ⟨q, vm₁, B, X₁.warmed, X', hpost, hstep₁ _ fun acts => by rw [doInvoke_state]; exact hsteps⟩
theorem vx_callVW (X : Stand p l e R s m args below meth c T locs cells slots) (hexec : p.tables.exec = Jvm.exec) {own C : String} {index : Nat} {y : MethodName} {bytes : ByteArray} {maxL : Nat} {ret : Option FieldType} {hh : List (Nat × Nat × Nat × Nat)}
    (hown : s.vm.findClass own = some m.cls) (hlink : (Cond.methodLink own index y).before args s = true) (hinst : (Cond.instanceMethod y).before args s = true) (hsel : (Cond.selects C y y).before args s = true)
    (hcode : (Cond.codeWith y bytes maxL ret hh).before args s = true) (hy : y.cls ≠ "java/lang/invoke/MethodHandle" ∧ y.cls ≠ "java/lang/invoke/VarHandle")
    {W9 : Nat} {Pre : Pt → Array Value → Prop} {Post : Pt → Array Value → Option Value → Pt → Prop} (hK : Back l R p e below s args y 3 W9 Pre Post)
    {b : Addr} {cellB : Cell} (hcell : T.heap[b]? = some cellB) (hobj : cellB.vm.isStatics = false) (hcls : s.vm.findClass C = some cellB.cls)
    {g : JFrame} (hg : g.method = m) (hsize : g.locals.size = c.maxLocals) {argsL rest : List Value} (hlen : ∀ sig, parseMethodDescriptor y.desc = some sig → argsL.length = sig.parameters.length)
    (hstack : g.stack = argsL.reverse ++ .ref b :: rest) (hW : 2 * g.monitorRoom + (rest.map fun v => v.category).sum ≤ W9) (hdg : decode c.code g.pc = .ok (.invokevirtual index, 3))
    (hpre : ∀ vm₁, s.WarmedH vm₁ → Pre ⟨T.setVm vm₁, locs, cells, slots⟩ (Value.ref b :: argsL).toArray) :
    ∃ (v : Option Value) (vm₁ : Vm) (B : Pt), s.WarmedH vm₁ ∧ Stand p l e R s m args below meth c B.U B.locs B.cells B.slots ∧ Post ⟨T.setVm vm₁, locs, cells, slots⟩ (Value.ref b :: argsL).toArray v B ∧
      ∀ target, Steps p.tables e below (B.U.setTop { g with pc := g.pc + 3, stack := v.toList ++ rest }) target → Steps p.tables e below (T.setTop g) target := by
  obtain ⟨mk, methM, hnamed, hmethM, hstM, habM⟩ := Cond.instanceMethod_spec hinst
  obtain ⟨m8, methM', cM, hn8, hmethM', -, -, -, -, -, -, hsigM⟩ := Cond.codeWith_spec hcode
  cases Option.some.inj (hn8.symm.trans hnamed)
  cases hmethM.symm.trans hmethM'
  obtain ⟨c2, r2, m2, q1, q2, q3, q4, kP, hkP, hkPi⟩ := Cond.selects_spec hsel
  cases hcls.symm.trans q1
  cases (State.methodFound?_of_named hnamed hy).symm.trans q2
  cases hnamed.symm.trans q3
  have hselP : selectMethod e.platform s.vm cellB.cls mk = .method mk := by rw [Launch.admits_selectMethod X.admits]; exact q4
  obtain ⟨vm₁, X₁, hstep₁⟩ := X.invokevirtual hexec hown hlink hnamed hmethM hstM hkP hkPi hy (a := b) (cell := cellB) hcell
    (fun z h => by rw [h] at hobj; cases hobj) hselP hmethM habM hkP hkPi (g := g) hg (argsL := argsL) (rest := rest) (hlen _ hsigM) hstack hdg
  obtain ⟨v, B, X', hpost, hsteps⟩ := hK m meth c ⟨T.setVm vm₁, locs, cells, slots⟩ { g with stack := rest } (.invokevirtual index) mk (Value.ref b :: argsL).toArray X₁ hg hsize hdg hW (X₁.named hnamed) (hpre vm₁ X₁.warmed)
  exact ⟨v, vm₁, B, X₁.warmed, X', hpost, fun target h => hstep₁ _ fun acts => by rw [doInvoke_state]; exact hsteps.trans h⟩
abbrev vx_CVW (R : Room) (s : State) (args : Array Value) (own C : String) (index : Nat) (y : MethodName) (bytes : ByteArray) (maxL : Nat) (ret : Option FieldType) (hh : List (Nat × Nat × Nat × Nat)) (ws : List Cond) (rm : Room) (mc ms n : Nat) : Prop :=
  (rm.cells = mc ∧ rm.slots = ms ∧ rm.frames + 1 ≤ R.frames ∧ 8 + (maxL + 11) + rm.locals ≤ R.locals ∧ (∀ w ∈ ws, ∀ (a' : Array Value) (U : State), s.WarmedH U.vm → w.before a' U = true) ∧ Cond.codeWith y bytes maxL ret hh ∈ ws) ∧
  (Cond.codeWith y bytes maxL ret hh).before args s = true ∧ (Cond.initialized y.cls).before args s = true ∧ (y.cls ≠ "java/lang/invoke/MethodHandle" ∧ y.cls ≠ "java/lang/invoke/VarHandle") ∧
  (∀ sig, parseMethodDescriptor y.desc = some sig → n = sig.parameters.length) ∧ (Cond.methodLink own index y).before args s = true ∧ (Cond.instanceMethod y).before args s = true ∧ (Cond.selects C y y).before args s = true
theorem vx_cwVW {own C : String} {index maxL mc ms : Nat} {y : MethodName} {bytes : ByteArray} {ret : Option FieldType} {hh : List (Nat × Nat × Nat × Nat)} {Ts ws ws' : List Cond} {rm : Room} (n : Nat) (ht : ∀ w ∈ Ts, w.before args s = true) (hT : GoodIn Ts (wsV own index C y ws)) (hw : ws = Cond.codeWith y bytes maxL ret hh :: ws') (hrc : rm.cells = mc) (hrs : rm.slots = ms)
    (hd : y.cls = C ∧ y.cls ≠ "java/lang/invoke/MethodHandle" ∧ y.cls ≠ "java/lang/invoke/VarHandle" ∧ (parseMethodDescriptor y.desc).map (fun d => d.parameters.length) = some n) (hR : rm.frames + 1 ≤ R.frames ∧ 8 + (maxL + 11) + rm.locals ≤ R.locals) :
    vx_CVW R s args own C index y bytes maxL ret hh ws rm mc ms n := by
  obtain ⟨hC, hd⟩ := hd
  subst hC
  have ok : ∀ w ∈ wsV own index y.cls y ws, w.before args s = true := fun w h => ht w (hT w h).1
  have hG : GoodIn Ts ws := fun w h => hT w (by unfold wsV; exact List.mem_append_right _ h)
  have hc : Cond.codeWith y bytes maxL ret hh ∈ ws := by rw [hw]; exact List.mem_cons_self
  refine ⟨⟨hrc, hrs, hR.1, hR.2, pay_in ht hG, hc⟩, ht _ (hG _ hc).1, ok _ (by simp [wsV]), ⟨hd.1, hd.2.1⟩, fun sig h => ?_, ok _ (by simp [wsV]), ok _ (by simp [wsV]), ok _ (by simp [wsV])⟩
  have h2 := hd.2.2
  rw [h] at h2
  exact (Option.some.inj h2).symm
theorem vx_runVW {y : MethodName} {bytes cc : ByteArray} {maxL nL mc ms n index : Nat} {ret : Option FieldType} {hh : List (Nat × Nat × Nat × Nat)} {ws : List Cond} {rm : Room} {Pc : Array Value → State → Prop} {Qc : Array Value → State → Outcome → State → Prop} {free : Addr → Prop} {Ts : List Cond} {own C : String} {b : Addr} {As rest : List Value} {g : JFrame}
    (S : CallFix p m c cc nL s args Ts own) (hM : Met l y ws rm Pc Qc mc ms free) (cw : vx_CVW R s args own C index y bytes maxL ret hh ws rm mc ms n) (hp : PreV s H C b Pc As)
    (hg : g.method = m) (hn : As.length = n) (hsize : g.locals.size = nL) (hstack : g.stack = As.reverse ++ .ref b :: rest) (hW : 2 * g.monitorRoom + (rest.map fun v => v.category).sum ≤ 8) (hdg : decode cc g.pc = .ok (.invokevirtual index, 3)) (hf : cells + mc ≤ R.cells ∧ slots + ms ≤ R.slots) :
    va_Run p l e R s m args below meth c H locs cells slots mc ms g rest (Qc (Value.ref b :: As).toArray) free := by
  obtain ⟨⟨hrc, hrs, hfr, hlo, hws, hcw⟩, hcode, hini, hy, hlen, hl, hin, hse⟩ := cw
  have hK : Back l R p e below s args y 3 8 (PreOf R mc ms Pc) (PostOf Qc mc ms free) := va_backW (hh := hh) (bytes := bytes) (maxL := maxL) (ret := ret) hM hp.1 hrc hrs hfr hlo hws hcw (fun a' U hW => word_at hW (Or.inl (by first | rfl | simp [Cond.onTables, Cond.keeps, Cond.steady])) hini)
  obtain ⟨hx, hb, hml, ho, -⟩ := S
  obtain ⟨-, ⟨cellB, hcB, hoB, hclB⟩, hPc⟩ := hp
  intro T hT X
  obtain ⟨v, vm₁, ⟨U', l2, c2, s2⟩, hW₁, X', ⟨g', mk, t, L, e1, e2, hq, h1, hL, h2, h3⟩, st⟩ := vx_callVW X hx (C := C) (hh := hh) (bytes := bytes) (maxL := maxL) (ret := ret) ho hl hin hse hcode hy hK (by rw [hT]; exact hcB) hoB hclB hg (hsize.trans hml.symm) (argsL := As) (rest := rest) (fun sig h => hn.trans (hlen sig h)) hstack hW (by rw [hb]; exact hdg)
    (fun vm₁ hW₁ => ⟨hf.1, hf.2, hPc (T.setVm vm₁) hT hW₁⟩)
  dsimp only [Pt.U, Pt.locs, Pt.cells, Pt.slots] at X' e1 e2 h1 h2 h3 st
  subst h1; subst h2; subst h3
  exact ⟨v, (T.setVm vm₁).calling g' mk (Value.ref b :: As).toArray, t, U', L, hT, X', hL, e1, e2, hq, st⟩
section
variable {y : MethodName} {bytes cc : ByteArray} {maxL nL mc ms n index : Nat} {ret : Option FieldType} {ws : List Cond} {rm : Room} {Pc : Array Value → State → Prop} {Qc : Array Value → State → Outcome → State → Prop} {XC : String → State → State → Prop} {free : Addr → Prop} {Ts : List Cond} {own C : String} {b : Addr} {As rest : List Value} {g : JFrame}
theorem vx_runVX {hh : List (Nat × Nat × Nat × Nat)} (S : CallFix p m c cc nL s args Ts own) (hM : vx_Met l y ws rm Pc Qc XC mc ms free) (cw : vx_CVW R s args own C index y bytes maxL ret hh ws rm mc ms n) (hp : PreV s H C b Pc As)
    (hg : g.method = m) (hn : As.length = n) (hsize : g.locals.size = nL) (hstack : g.stack = As.reverse ++ .ref b :: rest) (hW : 2 * g.monitorRoom + (rest.map fun v => v.category).sum ≤ 8) (hdg : decode cc g.pc = .ok (.invokevirtual index, 3)) (hf : cells + mc ≤ R.cells ∧ slots + ms ≤ R.slots) :
    vx_Run p l e R s m args below meth c H locs cells slots mc ms g rest (Qc (Value.ref b :: As).toArray) XC free := by
  obtain ⟨⟨hrc, hrs, hfr, hlo, hws, hcw⟩, hcode, hini, hy, hlen, hl, hin, hse⟩ := cw
  have hK : vx_Back l R p e below s args y 3 8 (PreOf R mc ms Pc) (PostOf Qc mc ms free) (vx_Post XC mc ms free) := vx_backW (hh := hh) (bytes := bytes) (maxL := maxL) (ret := ret) hM hp.1 hrc hrs hfr hlo hws hcw (fun a' U hW => word_at hW (Or.inl (by first | rfl | simp [Cond.onTables, Cond.keeps, Cond.steady])) hini)
  obtain ⟨hx, hb, hml, ho, -⟩ := S
  obtain ⟨-, ⟨cellB, hcB, hoB, hclB⟩, hPc⟩ := hp
  intro T hT X
  rcases vx_callVX X hx (C := C) (hh := hh) (bytes := bytes) (maxL := maxL) (ret := ret) ho hl hin hse hcode hy hK (by rw [hT]; exact hcB) hoB hclB hg (hsize.trans hml.symm) (argsL := As) (rest := rest) (fun sig h => hn.trans (hlen sig h)) hstack hW (by rw [hb]; exact hdg)
    (fun vm₁ hW₁ => ⟨hf.1, hf.2, hPc (T.setVm vm₁) hT hW₁⟩) with ⟨v, vm₁, ⟨U', l2, c2, s2⟩, hW₁, X', ⟨g', mk, t, L, e1, e2, hq, h1, hL, h2, h3⟩, st⟩ | ⟨q, vm₁, ⟨U', l2, c2, s2⟩, hW₁, X', ⟨g', mk, t, L, E, ce, e1, e2, hq, hce, hcv, hcl, h1, hL, h2, h3⟩, st⟩
  · dsimp only [Pt.U, Pt.locs, Pt.cells, Pt.slots] at X' e1 e2 h1 h2 h3 st
    subst h1; subst h2; subst h3
    exact Or.inl ⟨v, (T.setVm vm₁).calling g' mk (Value.ref b :: As).toArray, t, U', L, hT, X', hL, e1, e2, hq, st⟩
  · dsimp only [Pt.U, Pt.locs, Pt.cells, Pt.slots] at X' e1 e2 h1 h2 h3 st hcl
    subst h1; subst h2; subst h3
    exact Or.inr ⟨q, (T.setVm vm₁).calling g' mk (Value.ref b :: As).toArray, t, U', L, E, ce, hT, X', hL, e1, e2, hq, hce, hcv, vx_cls hW₁ hcl, st⟩
theorem vx_runSX {hh : List (Nat × Nat × Nat × Nat)} (S : CallFix p m c cc nL s args Ts own) (hM : vx_Met l y ws rm Pc Qc XC mc ms free) (cw : vx_CSW R s args own index y bytes maxL ret hh ws rm mc ms n) (hp : PreS s H Pc As)
    (hg : g.method = m) (hn : As.length = n) (hsize : g.locals.size = nL) (hstack : g.stack = As.reverse ++ rest) (hW : 2 * g.monitorRoom + (rest.map fun v => v.category).sum ≤ 8) (hdg : decode cc g.pc = .ok (.invokestatic index, 3)) (hf : cells + mc ≤ R.cells ∧ slots + ms ≤ R.slots) :
    vx_Run p l e R s m args below meth c H locs cells slots mc ms g rest (Qc As.toArray) XC free := by
  obtain ⟨⟨hrc, hrs, hfr, hlo, hws, hcw⟩, hcode, hini, hy, hlen, hl, hstt⟩ := cw
  have hK : vx_Back l R p e below s args y 3 8 (PreOf R mc ms Pc) (PostOf Qc mc ms free) (vx_Post XC mc ms free) := vx_backW (hh := hh) (bytes := bytes) (maxL := maxL) (ret := ret) hM hp.1 hrc hrs hfr hlo hws hcw (fun a' U hW => word_at hW (Or.inl (by first | rfl | simp [Cond.onTables, Cond.keeps, Cond.steady])) hini)
  obtain ⟨hx, hb, hml, ho, -⟩ := S
  intro T hT X
  rcases vx_callSX X hx (hh := hh) (bytes := bytes) (maxL := maxL) (ret := ret) ho hl hstt hini hcode hy hK hg (hsize.trans hml.symm) (argsL := As) (rest := rest) (fun sig h => hn.trans (hlen sig h)) hstack hW (by rw [hb]; exact hdg)
    (fun vm₁ hW₁ => ⟨hf.1, hf.2, hp.2 (T.setVm vm₁) hT hW₁⟩) with ⟨v, vm₁, ⟨U', l2, c2, s2⟩, hW₁, X', ⟨g', mk, t, L, e1, e2, hq, h1, hL, h2, h3⟩, st⟩ | ⟨q, vm₁, ⟨U', l2, c2, s2⟩, hW₁, X', ⟨g', mk, t, L, E, ce, e1, e2, hq, hce, hcv, hcl, h1, hL, h2, h3⟩, st⟩
  · dsimp only [Pt.U, Pt.locs, Pt.cells, Pt.slots] at X' e1 e2 h1 h2 h3 st
    subst h1; subst h2; subst h3
    exact Or.inl ⟨v, (T.setVm vm₁).calling g' mk As.toArray, t, U', L, hT, X', hL, e1, e2, hq, st⟩
  · dsimp only [Pt.U, Pt.locs, Pt.cells, Pt.slots] at X' e1 e2 h1 h2 h3 st hcl
    subst h1; subst h2; subst h3
    exact Or.inr ⟨q, (T.setVm vm₁).calling g' mk As.toArray, t, U', L, E, ce, hT, X', hL, e1, e2, hq, hce, hcv, vx_cls hW₁ hcl, st⟩
end
end VXH
theorem vx_ofWH {l : Launch} {y : MethodName} {ws ws' : List Cond} {rm : Room} {Pc : Array Value → State → Prop} {Qc : Array Value → State → Outcome → State → Prop} {XC : String → State → State → Prop} {mc ms : Nat} {free : Addr → Prop} {cc : ByteArray} {maxL : Nat} {ret : Option FieldType} {hh : List (Nat × Nat × Nat × Nat)}
    (hy : plainName y.cls = true) (hw : ws = Cond.codeWith y cc maxL ret hh :: ws')
    (body : ∀ p e s m args below meth c s₁, BodyLoose p l y (headSpec ws rm) cc maxL ret e s m args below meth c s₁ → c.maxLocals = maxL → Pc args s →
      W p l e (headSpec ws rm).room s m args below meth c s.heap [] 0 0 (vx_MQ below Qc XC args s mc ms free) (entryFrame m args maxL)) : vx_Met l y ws rm Pc Qc XC mc ms free := by
  refine MetFree.of_bodyS (code := cc) (maxLocals := maxL) (ret := ret) hy ?_ ?_
  · intro args s m h hn
    obtain ⟨m9, meth, c, hn9, h1, h2, h3, h4, -, h5, h6, -⟩ := Cond.codeWith_spec (atoms_spec (ws := ws) h _ (by rw [hw]; exact List.mem_cons_self))
    cases hn.symm.trans hn9
    exact ⟨meth, c, h1, h2, h3, h4, h5, h6⟩
  · intro p e s m args below meth c s₁ B hml hP _
    have hh0 : s₁.heap = s.heap := by rw [B.state]; rfl
    obtain ⟨t, a1, o, b1, b2, b3⟩ := body p e s m args below meth c s₁ B hml hP s₁ hh0 (Stand.of_body B)
    exact ⟨t, o, a1, b1, b2, b3⟩
/-! ===== END ===== -/

/-! ===== BEGIN printed: names, fields, word lists, decode rows ===== -/
end
section
def RX0 : String := "EchoCave$Cave"
def TX0 : u_T := fun k => match k with
  | 0 => ("EchoCave$Cave", "chambers", "I", false)
  | 1 => ("EchoCave$Cave", "wall", "[I", true)
  | 2 => ("EchoCave$Cave", "height", "[I", true)
  | 3 => ("EchoCave$Cave", "bats", "[I", true)
  | 4 => ("EchoCave$Cave", "syllable", "[I", true)
  | 5 => ("EchoCave$Cave", "delay", "[I", true)
  | 6 => ("EchoCave$Cave", "doors", "[I", true)
  | 7 => ("EchoCave$Cave", "passageBehind", "[[I", true)
  | 8 => ("EchoCave$Cave", "passages", "I", false)
  | 9 => ("EchoCave$Cave", "from", "[I", true)
  | 10 => ("EchoCave$Cave", "to", "[I", true)
  | 11 => ("EchoCave$Cave", "length", "[I", true)
  | 12 => ("EchoCave$Cave", "narrow", "[I", true)
  | 13 => ("EchoCave$Cave", "water", "I", false)
  | _ => ("EchoCave$Cave", "found", "[I", true)
def tyX0 : Nat → FieldType := fun k => match k with
  | 0 => .int
  | 1 => .array .int
  | 2 => .array .int
  | 3 => .array .int
  | 4 => .array .int
  | 5 => .array .int
  | 6 => .array .int
  | 7 => .array (.array .int)
  | 8 => .int
  | 9 => .array .int
  | 10 => .array .int
  | 11 => .array .int
  | 12 => .array .int
  | 13 => .int
  | _ => .array .int
abbrev wsX00 : List Cond := u_ws RX0 TX0 15
theorem nmX0 : ∀ a, a < 15 → ∀ b, b < 15 → a ≠ b → (TX0 a).2.1 ≠ (TX0 b).2.1 := by decide +kernel
theorem tyX0_ok : ∀ k, k < 15 → parseFieldDescriptor (TX0 k).2.2.1 = some (tyX0 k) := by decide +kernel
abbrev cX0_init : ByteArray := prog_2_method_1_code
def yX0_init : MethodName := ⟨RX0, "<init>", "()V"⟩
abbrev cX0_hasChamber : ByteArray := prog_2_method_2_code
def yX0_hasChamber : MethodName := ⟨RX0, "hasChamber", "(I)Z"⟩
abbrev cX0_hasPassage : ByteArray := prog_2_method_3_code
def yX0_hasPassage : MethodName := ⟨RX0, "hasPassage", "(I)Z"⟩
abbrev cX0_findChamber : ByteArray := prog_2_method_4_code
def yX0_findChamber : MethodName := ⟨RX0, "findChamber", "(III)I"⟩
abbrev cX0_findPassage : ByteArray := prog_2_method_5_code
def yX0_findPassage : MethodName := ⟨RX0, "findPassage", "(IIII)I"⟩
abbrev cX0_addDoor : ByteArray := prog_2_method_6_code
def yX0_addDoor : MethodName := ⟨RX0, "addDoor", "(II)V"⟩
abbrev cX0_putClapper : ByteArray := prog_2_method_7_code
def yX0_putClapper : MethodName := ⟨RX0, "putClapper", "(III)V"⟩
abbrev cX0_isOpen : ByteArray := prog_2_method_8_code
def yX0_isOpen : MethodName := ⟨RX0, "isOpen", "(I)Z"⟩
abbrev cX0_otherEnd : ByteArray := prog_2_method_9_code
def yX0_otherEnd : MethodName := ⟨RX0, "otherEnd", "(II)I"⟩
abbrev cX0_drowns : ByteArray := prog_2_method_10_code
def yX0_drowns : MethodName := ⟨RX0, "drowns", "(II)Z"⟩
abbrev cX0_strengthBehind : ByteArray := prog_2_method_11_code
def yX0_strengthBehind : MethodName := ⟨RX0, "strengthBehind", "(II)I"⟩
abbrev cX0_strengthFromWall : ByteArray := prog_2_method_12_code
def yX0_strengthFromWall : MethodName := ⟨RX0, "strengthFromWall", "(II)I"⟩
abbrev cX0_openPassages : ByteArray := prog_2_method_13_code
def yX0_openPassages : MethodName := ⟨RX0, "openPassages", "()I"⟩
abbrev cX0_clappers : ByteArray := prog_2_method_14_code
def yX0_clappers : MethodName := ⟨RX0, "clappers", "()I"⟩
abbrev cX0_openDoors : ByteArray := prog_2_method_15_code
def yX0_openDoors : MethodName := ⟨RX0, "openDoors", "(I)I"⟩
abbrev cX0_chamberFact : ByteArray := prog_2_method_16_code
def yX0_chamberFact : MethodName := ⟨RX0, "chamberFact", "(II)I"⟩
abbrev cX0_passageFact : ByteArray := prog_2_method_17_code
def yX0_passageFact : MethodName := ⟨RX0, "passageFact", "(II)I"⟩
abbrev cX0_shortestWay : ByteArray := prog_2_method_18_code
def yX0_shortestWay : MethodName := ⟨RX0, "shortestWay", "(II)I"⟩
abbrev cX0_shorten : ByteArray := prog_2_method_19_code
def yX0_shorten : MethodName := ⟨RX0, "shorten", "(III)V"⟩
abbrev cX0_highestWater : ByteArray := prog_2_method_20_code
def yX0_highestWater : MethodName := ⟨RX0, "highestWater", "(I)I"⟩
abbrev cX0_raise : ByteArray := prog_2_method_21_code
def yX0_raise : MethodName := ⟨RX0, "raise", "(II)V"⟩
def RX1 : String := "EchoCave$Comings"
def TX1 : u_T := fun k => match k with
  | 0 => ("EchoCave$Comings", "heap", "[I", true)
  | _ => ("EchoCave$Comings", "size", "I", false)
def tyX1 : Nat → FieldType := fun k => match k with
  | 0 => .array .int
  | _ => .int
abbrev wsX10 : List Cond := u_ws RX1 TX1 2
theorem nmX1 : ∀ a, a < 2 → ∀ b, b < 2 → a ≠ b → (TX1 a).2.1 ≠ (TX1 b).2.1 := by decide +kernel
theorem tyX1_ok : ∀ k, k < 2 → parseFieldDescriptor (TX1 k).2.2.1 = some (tyX1 k) := by decide +kernel
abbrev cX1_init : ByteArray := prog_3_method_1_code
def yX1_init : MethodName := ⟨RX1, "<init>", "()V"⟩
abbrev cX1_pack : ByteArray := prog_3_method_2_code
def yX1_pack : MethodName := ⟨RX1, "pack", "(IIIII)I"⟩
abbrev cX1_timeOf : ByteArray := prog_3_method_3_code
def yX1_timeOf : MethodName := ⟨RX1, "timeOf", "(I)I"⟩
abbrev cX1_chamberOf : ByteArray := prog_3_method_4_code
def yX1_chamberOf : MethodName := ⟨RX1, "chamberOf", "(I)I"⟩
abbrev cX1_runOf : ByteArray := prog_3_method_5_code
def yX1_runOf : MethodName := ⟨RX1, "runOf", "(I)I"⟩
abbrev cX1_passageOf : ByteArray := prog_3_method_6_code
def yX1_passageOf : MethodName := ⟨RX1, "passageOf", "(I)I"⟩
abbrev cX1_strengthOf : ByteArray := prog_3_method_7_code
def yX1_strengthOf : MethodName := ⟨RX1, "strengthOf", "(I)I"⟩
abbrev cX1_clear : ByteArray := prog_3_method_8_code
def yX1_clear : MethodName := ⟨RX1, "clear", "()V"⟩
abbrev cX1_isEmpty : ByteArray := prog_3_method_9_code
def yX1_isEmpty : MethodName := ⟨RX1, "isEmpty", "()Z"⟩
abbrev cX1_put : ByteArray := prog_3_method_10_code
def yX1_put : MethodName := ⟨RX1, "put", "(I)V"⟩
abbrev cX1_takeNext : ByteArray := prog_3_method_11_code
def yX1_takeNext : MethodName := ⟨RX1, "takeNext", "()I"⟩
abbrev cX1_sink : ByteArray := prog_3_method_12_code
def yX1_sink : MethodName := ⟨RX1, "sink", "(I)V"⟩
def RX2 : String := "EchoCave$Echo"
def TX2 : u_T := fun k => match k with
  | 0 => ("EchoCave$Echo", "facts", "[I", true)
  | 1 => ("EchoCave$Echo", "firstTime", "[I", true)
  | 2 => ("EchoCave$Echo", "places", "I", false)
  | 3 => ("EchoCave$Echo", "ear", "I", false)
  | 4 => ("EchoCave$Echo", "kept", "I", false)
  | 5 => ("EchoCave$Echo", "counted", "I", false)
  | 6 => ("EchoCave$Echo", "placesInOrder", "I", false)
  | _ => ("EchoCave$Echo", "lastTime", "I", false)
def tyX2 : Nat → FieldType := fun k => match k with
  | 0 => .array .int
  | 1 => .array .int
  | 2 => .int
  | 3 => .int
  | 4 => .int
  | 5 => .int
  | 6 => .int
  | _ => .int
abbrev wsX20 : List Cond := u_ws RX2 TX2 8
theorem nmX2 : ∀ a, a < 8 → ∀ b, b < 8 → a ≠ b → (TX2 a).2.1 ≠ (TX2 b).2.1 := by decide +kernel
theorem tyX2_ok : ∀ k, k < 8 → parseFieldDescriptor (TX2 k).2.2.1 = some (tyX2 k) := by decide +kernel
abbrev cX2_init : ByteArray := prog_4_method_1_code
def yX2_init : MethodName := ⟨RX2, "<init>", "()V"⟩
abbrev cX2_begin : ByteArray := prog_4_method_2_code
def yX2_begin : MethodName := ⟨RX2, "begin", "(II)V"⟩
abbrev cX2_hear : ByteArray := prog_4_method_3_code
def yX2_hear : MethodName := ⟨RX2, "hear", "(IIII)V"⟩
abbrev cX2_letCount : ByteArray := prog_4_method_4_code
def yX2_letCount : MethodName := ⟨RX2, "letCount", "(II)V"⟩
abbrev cX2_cameInOrder : ByteArray := prog_4_method_5_code
def yX2_cameInOrder : MethodName := ⟨RX2, "cameInOrder", "()Z"⟩
abbrev cX2_heardFact : ByteArray := prog_4_method_6_code
def yX2_heardFact : MethodName := ⟨RX2, "heardFact", "(II)I"⟩
abbrev cX2_meanStrength : ByteArray := prog_4_method_7_code
def yX2_meanStrength : MethodName := ⟨RX2, "meanStrength", "()D"⟩
def RX3 : String := "EchoCave$Sound"
def TX3 : u_T := fun k => match k with
  | 0 => ("EchoCave$Sound", "cave", "LEchoCave$Cave;", true)
  | 1 => ("EchoCave$Sound", "comings", "LEchoCave$Comings;", true)
  | 2 => ("EchoCave$Sound", "syllable", "[I", true)
  | 3 => ("EchoCave$Sound", "place", "[I", true)
  | 4 => ("EchoCave$Sound", "passagesUsed", "[J", true)
  | 5 => ("EchoCave$Sound", "runs", "I", false)
  | _ => ("EchoCave$Sound", "clappersSetOff", "I", false)
def tyX3 : Nat → FieldType := fun k => match k with
  | 0 => .object "EchoCave$Cave"
  | 1 => .object "EchoCave$Comings"
  | 2 => .array .int
  | 3 => .array .int
  | 4 => .array .long
  | 5 => .int
  | _ => .int
abbrev wsX30 : List Cond := u_ws RX3 TX3 7
theorem nmX3 : ∀ a, a < 7 → ∀ b, b < 7 → a ≠ b → (TX3 a).2.1 ≠ (TX3 b).2.1 := by decide +kernel
theorem tyX3_ok : ∀ k, k < 7 → parseFieldDescriptor (TX3 k).2.2.1 = some (tyX3 k) := by decide +kernel
abbrev cX3_init : ByteArray := prog_5_method_1_code
def yX3_init : MethodName := ⟨RX3, "<init>", "(LEchoCave$Cave;)V"⟩
abbrev cX3_runThrough : ByteArray := prog_5_method_2_code
def yX3_runThrough : MethodName := ⟨RX3, "runThrough", "(IIILEchoCave$Echo;)V"⟩
abbrev cX3_begin : ByteArray := prog_5_method_3_code
def yX3_begin : MethodName := ⟨RX3, "begin", "(III)V"⟩
abbrev cX3_startRun : ByteArray := prog_5_method_4_code
def yX3_startRun : MethodName := ⟨RX3, "startRun", "(IIIII)V"⟩
abbrev cX3_come : ByteArray := prog_5_method_5_code
def yX3_come : MethodName := ⟨RX3, "come", "(ILEchoCave$Echo;)V"⟩
abbrev cX3_setOffClapper : ByteArray := prog_5_method_6_code
def yX3_setOffClapper : MethodName := ⟨RX3, "setOffClapper", "(III)V"⟩
abbrev cX3_goOn : ByteArray := prog_5_method_7_code
def yX3_goOn : MethodName := ⟨RX3, "goOn", "(IIIII)V"⟩
abbrev cX3_goInto : ByteArray := prog_5_method_8_code
def yX3_goInto : MethodName := ⟨RX3, "goInto", "(IIIII)V"⟩
def RX4 : String := "EchoCave"
def TX4 : u_T := fun k => match k with
  | 0 => ("EchoCave", "cave", "LEchoCave$Cave;", true)
  | 1 => ("EchoCave", "sound", "LEchoCave$Sound;", true)
  | 2 => ("EchoCave", "latest", "LEchoCave$Echo;", true)
  | 3 => ("EchoCave", "trial", "LEchoCave$Echo;", true)
  | 4 => ("EchoCave", "ear", "I", false)
  | 5 => ("EchoCave", "wordsSaid", "I", false)
  | _ => ("EchoCave", "latestWord", "I", false)
def tyX4 : Nat → FieldType := fun k => match k with
  | 0 => .object "EchoCave$Cave"
  | 1 => .object "EchoCave$Sound"
  | 2 => .object "EchoCave$Echo"
  | 3 => .object "EchoCave$Echo"
  | 4 => .int
  | 5 => .int
  | _ => .int
abbrev wsX40 : List Cond := u_ws RX4 TX4 7
theorem nmX4 : ∀ a, a < 7 → ∀ b, b < 7 → a ≠ b → (TX4 a).2.1 ≠ (TX4 b).2.1 := by decide +kernel
theorem tyX4_ok : ∀ k, k < 7 → parseFieldDescriptor (TX4 k).2.2.1 = some (tyX4 k) := by decide +kernel
abbrev cX4_init : ByteArray := prog_1_method_1_code
def yX4_init : MethodName := ⟨RX4, "<init>", "()V"⟩
abbrev cX4_addChamber : ByteArray := prog_1_method_2_code
def yX4_addChamber : MethodName := ⟨RX4, "addChamber", "(III)I"⟩
abbrev cX4_addPassage : ByteArray := prog_1_method_3_code
def yX4_addPassage : MethodName := ⟨RX4, "addPassage", "(IIII)I"⟩
abbrev cX4_setWater : ByteArray := prog_1_method_4_code
def yX4_setWater : MethodName := ⟨RX4, "setWater", "(I)I"⟩
abbrev cX4_setBats : ByteArray := prog_1_method_5_code
def yX4_setBats : MethodName := ⟨RX4, "setBats", "(II)I"⟩
abbrev cX4_setClapper : ByteArray := prog_1_method_6_code
def yX4_setClapper : MethodName := ⟨RX4, "setClapper", "(III)I"⟩
abbrev cX4_setEar : ByteArray := prog_1_method_7_code
def yX4_setEar : MethodName := ⟨RX4, "setEar", "(I)I"⟩
abbrev cX4_chamber : ByteArray := prog_1_method_8_code
def yX4_chamber : MethodName := ⟨RX4, "chamber", "(II)I"⟩
abbrev cX4_passage : ByteArray := prog_1_method_9_code
def yX4_passage : MethodName := ⟨RX4, "passage", "(II)I"⟩
abbrev cX4_say : ByteArray := prog_1_method_10_code
def yX4_say : MethodName := ⟨RX4, "say", "(II)I"⟩
abbrev cX4_heard : ByteArray := prog_1_method_11_code
def yX4_heard : MethodName := ⟨RX4, "heard", "(II)I"⟩
abbrev cX4_inOrder : ByteArray := prog_1_method_12_code
def yX4_inOrder : MethodName := ⟨RX4, "inOrder", "()Z"⟩
abbrev cX4_first : ByteArray := prog_1_method_13_code
def yX4_first : MethodName := ⟨RX4, "first", "(I)I"⟩
abbrev cX4_count : ByteArray := prog_1_method_14_code
def yX4_count : MethodName := ⟨RX4, "count", "(I)I"⟩
abbrev cX4_would : ByteArray := prog_1_method_15_code
def yX4_would : MethodName := ⟨RX4, "would", "(III)I"⟩
abbrev cX4_advise : ByteArray := prog_1_method_16_code
def yX4_advise : MethodName := ⟨RX4, "advise", "(IIII)I"⟩
abbrev cX4_longest : ByteArray := prog_1_method_17_code
def yX4_longest : MethodName := ⟨RX4, "longest", "(II)I"⟩
abbrev cX4_quickest : ByteArray := prog_1_method_18_code
def yX4_quickest : MethodName := ⟨RX4, "quickest", "(I)I"⟩
abbrev cX4_way : ByteArray := prog_1_method_19_code
def yX4_way : MethodName := ⟨RX4, "way", "(II)I"⟩
abbrev cX4_highest : ByteArray := prog_1_method_20_code
def yX4_highest : MethodName := ⟨RX4, "highest", "(I)I"⟩
abbrev cX4_mean : ByteArray := prog_1_method_21_code
def yX4_mean : MethodName := ⟨RX4, "mean", "()D"⟩
abbrev cX4_digest : ByteArray := prog_1_method_22_code
def yX4_digest : MethodName := ⟨RX4, "digest", "()J"⟩
abbrev cX4_countFact : ByteArray := prog_1_method_23_code
def yX4_countFact : MethodName := ⟨RX4, "countFact", "(I)I"⟩
abbrev cX4_wouldComeInOrder : ByteArray := prog_1_method_24_code
def yX4_wouldComeInOrder : MethodName := ⟨RX4, "wouldComeInOrder", "(II)Z"⟩
abbrev cX4_isWithin : ByteArray := prog_1_method_25_code
def yX4_isWithin : MethodName := ⟨RX4, "isWithin", "(III)Z"⟩
abbrev cX4_isWord : ByteArray := prog_1_method_26_code
def yX4_isWord : MethodName := ⟨RX4, "isWord", "(I)Z"⟩
abbrev cX4_placesOf : ByteArray := prog_1_method_27_code
def yX4_placesOf : MethodName := ⟨RX4, "placesOf", "(I)I"⟩
abbrev cX4_requireIndex : ByteArray := prog_1_method_28_code
def yX4_requireIndex : MethodName := ⟨RX4, "requireIndex", "(Z)V"⟩
abbrev cX4_requireArgument : ByteArray := prog_1_method_29_code
def yX4_requireArgument : MethodName := ⟨RX4, "requireArgument", "(Z)V"⟩
abbrev cX4_requireWordAndBeat : ByteArray := prog_1_method_30_code
def yX4_requireWordAndBeat : MethodName := ⟨RX4, "requireWordAndBeat", "(II)V"⟩
def RX5 : String := "EchoCaveModel$Sound"
def TX5 : u_T := fun k => match k with
  | 0 => ("EchoCaveModel$Sound", "word", "I", false)
  | 1 => ("EchoCaveModel$Sound", "places", "I", false)
  | 2 => ("EchoCaveModel$Sound", "runs", "I", false)
  | 3 => ("EchoCaveModel$Sound", "kept", "I", false)
  | 4 => ("EchoCaveModel$Sound", "counted", "I", false)
  | 5 => ("EchoCaveModel$Sound", "inOrder", "I", false)
  | 6 => ("EchoCaveModel$Sound", "latest", "I", false)
  | 7 => ("EchoCaveModel$Sound", "waiting", "I", false)
  | 8 => ("EchoCaveModel$Sound", "clapped", "I", false)
  | 9 => ("EchoCaveModel$Sound", "chamber", "I", false)
  | 10 => ("EchoCaveModel$Sound", "with", "I", false)
  | 11 => ("EchoCaveModel$Sound", "late", "I", false)
  | 12 => ("EchoCaveModel$Sound", "firsts", "[I", true)
  | 13 => ("EchoCaveModel$Sound", "heard", "[I", true)
  | 14 => ("EchoCaveModel$Sound", "place", "[I", true)
  | 15 => ("EchoCaveModel$Sound", "syllable", "[I", true)
  | 16 => ("EchoCaveModel$Sound", "there", "[I", true)
  | 17 => ("EchoCaveModel$Sound", "back", "[I", true)
  | 18 => ("EchoCaveModel$Sound", "order", "[I", true)
  | 19 => ("EchoCaveModel$Sound", "power", "[I", true)
  | _ => ("EchoCaveModel$Sound", "this$0", "LEchoCaveModel;", true)
def tyX5 : Nat → FieldType := fun k => match k with
  | 0 => .int
  | 1 => .int
  | 2 => .int
  | 3 => .int
  | 4 => .int
  | 5 => .int
  | 6 => .int
  | 7 => .int
  | 8 => .int
  | 9 => .int
  | 10 => .int
  | 11 => .int
  | 12 => .array .int
  | 13 => .array .int
  | 14 => .array .int
  | 15 => .array .int
  | 16 => .array .int
  | 17 => .array .int
  | 18 => .array .int
  | 19 => .array .int
  | _ => .object "EchoCaveModel"
abbrev wsX50 : List Cond := u_ws RX5 TX5 21
theorem nmX5 : ∀ a, a < 21 → ∀ b, b < 21 → a ≠ b → (TX5 a).2.1 ≠ (TX5 b).2.1 := by decide +kernel
theorem tyX5_ok : ∀ k, k < 21 → parseFieldDescriptor (TX5 k).2.2.1 = some (tyX5 k) := by decide +kernel
abbrev cX5_init : ByteArray := prog_8_method_1_code
def yX5_init : MethodName := ⟨RX5, "<init>", "(LEchoCaveModel;)V"⟩
abbrev cX5_instead : ByteArray := prog_8_method_2_code
def yX5_instead : MethodName := ⟨RX5, "instead", "(III)V"⟩
abbrev cX5_come : ByteArray := prog_8_method_3_code
def yX5_come : MethodName := ⟨RX5, "come", "(IIIII)V"⟩
abbrev cX5_start : ByteArray := prog_8_method_4_code
def yX5_start : MethodName := ⟨RX5, "start", "(IIIII)V"⟩
abbrev cX5_go : ByteArray := prog_8_method_5_code
def yX5_go : MethodName := ⟨RX5, "go", "(IIIII)V"⟩
abbrev cX5_hear : ByteArray := prog_8_method_6_code
def yX5_hear : MethodName := ⟨RX5, "hear", "(III)V"⟩
abbrev cX5_clap : ByteArray := prog_8_method_7_code
def yX5_clap : MethodName := ⟨RX5, "clap", "(III)V"⟩
abbrev cX5_arrive : ByteArray := prog_8_method_8_code
def yX5_arrive : MethodName := ⟨RX5, "arrive", "(II)V"⟩
abbrev cX5_say : ByteArray := prog_8_method_9_code
def yX5_say : MethodName := ⟨RX5, "say", "(II)V"⟩
abbrev cX5_isInOrder : ByteArray := prog_8_method_10_code
def yX5_isInOrder : MethodName := ⟨RX5, "isInOrder", "()Z"⟩
def RX6 : String := "EchoCaveModel"
def TX6 : u_T := fun k => match k with
  | 0 => ("EchoCaveModel", "thrown", "I", false)
  | 1 => ("EchoCaveModel", "chambers", "I", false)
  | 2 => ("EchoCaveModel", "passages", "I", false)
  | 3 => ("EchoCaveModel", "water", "I", false)
  | 4 => ("EchoCaveModel", "ear", "I", false)
  | 5 => ("EchoCaveModel", "said", "I", false)
  | 6 => ("EchoCaveModel", "room", "[I", true)
  | 7 => ("EchoCaveModel", "tunnel", "[I", true)
  | 8 => ("EchoCaveModel", "s", "LEchoCaveModel$Sound;", true)
  | _ => ("EchoCaveModel", "ahead", "LEchoCaveModel$Sound;", true)
def tyX6 : Nat → FieldType := fun k => match k with
  | 0 => .int
  | 1 => .int
  | 2 => .int
  | 3 => .int
  | 4 => .int
  | 5 => .int
  | 6 => .array .int
  | 7 => .array .int
  | 8 => .object "EchoCaveModel$Sound"
  | _ => .object "EchoCaveModel$Sound"
abbrev wsX60 : List Cond := u_ws RX6 TX6 10
theorem nmX6 : ∀ a, a < 10 → ∀ b, b < 10 → a ≠ b → (TX6 a).2.1 ≠ (TX6 b).2.1 := by decide +kernel
theorem tyX6_ok : ∀ k, k < 10 → parseFieldDescriptor (TX6 k).2.2.1 = some (tyX6 k) := by decide +kernel
abbrev cX6_init : ByteArray := prog_7_method_1_code
def yX6_init : MethodName := ⟨RX6, "<init>", "()V"⟩
abbrev cX6_thrown : ByteArray := prog_7_method_2_code
def yX6_thrown : MethodName := ⟨RX6, "thrown", "()I"⟩
abbrev cX6_no : ByteArray := prog_7_method_3_code
def yX6_no : MethodName := ⟨RX6, "no", "(I)I"⟩
abbrev cX6_isIn : ByteArray := prog_7_method_4_code
def yX6_isIn : MethodName := ⟨RX6, "isIn", "(III)Z"⟩
abbrev cX6_isChamber : ByteArray := prog_7_method_5_code
def yX6_isChamber : MethodName := ⟨RX6, "isChamber", "(I)Z"⟩
abbrev cX6_touches : ByteArray := prog_7_method_6_code
def yX6_touches : MethodName := ⟨RX6, "touches", "(II)Z"⟩
abbrev cX6_isOpen : ByteArray := prog_7_method_7_code
def yX6_isOpen : MethodName := ⟨RX6, "isOpen", "(II)Z"⟩
abbrev cX6_isWord : ByteArray := prog_7_method_8_code
def yX6_isWord : MethodName := ⟨RX6, "isWord", "(I)Z"⟩
abbrev cX6_addChamber : ByteArray := prog_7_method_9_code
def yX6_addChamber : MethodName := ⟨RX6, "addChamber", "(III)I"⟩
abbrev cX6_addPassage : ByteArray := prog_7_method_10_code
def yX6_addPassage : MethodName := ⟨RX6, "addPassage", "(IIII)I"⟩
abbrev cX6_setWater : ByteArray := prog_7_method_11_code
def yX6_setWater : MethodName := ⟨RX6, "setWater", "(I)I"⟩
abbrev cX6_setBats : ByteArray := prog_7_method_12_code
def yX6_setBats : MethodName := ⟨RX6, "setBats", "(II)I"⟩
abbrev cX6_setClapper : ByteArray := prog_7_method_13_code
def yX6_setClapper : MethodName := ⟨RX6, "setClapper", "(III)I"⟩
abbrev cX6_setEar : ByteArray := prog_7_method_14_code
def yX6_setEar : MethodName := ⟨RX6, "setEar", "(I)I"⟩
abbrev cX6_chamberTold : ByteArray := prog_7_method_15_code
def yX6_chamberTold : MethodName := ⟨RX6, "chamberTold", "(II)I"⟩
abbrev cX6_chamber : ByteArray := prog_7_method_16_code
def yX6_chamber : MethodName := ⟨RX6, "chamber", "(II)I"⟩
abbrev cX6_passageTold : ByteArray := prog_7_method_17_code
def yX6_passageTold : MethodName := ⟨RX6, "passageTold", "(II)I"⟩
abbrev cX6_passage : ByteArray := prog_7_method_18_code
def yX6_passage : MethodName := ⟨RX6, "passage", "(II)I"⟩
abbrev cX6_say : ByteArray := prog_7_method_19_code
def yX6_say : MethodName := ⟨RX6, "say", "(II)I"⟩
abbrev cX6_heard : ByteArray := prog_7_method_20_code
def yX6_heard : MethodName := ⟨RX6, "heard", "(II)I"⟩
abbrev cX6_inOrder : ByteArray := prog_7_method_21_code
def yX6_inOrder : MethodName := ⟨RX6, "inOrder", "()Z"⟩
abbrev cX6_first : ByteArray := prog_7_method_22_code
def yX6_first : MethodName := ⟨RX6, "first", "(I)I"⟩
abbrev cX6_counted : ByteArray := prog_7_method_23_code
def yX6_counted : MethodName := ⟨RX6, "counted", "(I)I"⟩
abbrev cX6_count : ByteArray := prog_7_method_24_code
def yX6_count : MethodName := ⟨RX6, "count", "(I)I"⟩
abbrev cX6_comes : ByteArray := prog_7_method_25_code
def yX6_comes : MethodName := ⟨RX6, "comes", "(II)Z"⟩
abbrev cX6_would : ByteArray := prog_7_method_26_code
def yX6_would : MethodName := ⟨RX6, "would", "(III)I"⟩
abbrev cX6_advise : ByteArray := prog_7_method_27_code
def yX6_advise : MethodName := ⟨RX6, "advise", "(IIII)I"⟩
abbrev cX6_longest : ByteArray := prog_7_method_28_code
def yX6_longest : MethodName := ⟨RX6, "longest", "(II)I"⟩
abbrev cX6_quickest : ByteArray := prog_7_method_29_code
def yX6_quickest : MethodName := ⟨RX6, "quickest", "(I)I"⟩
abbrev cX6_shortest : ByteArray := prog_7_method_30_code
def yX6_shortest : MethodName := ⟨RX6, "shortest", "(III)I"⟩
abbrev cX6_way : ByteArray := prog_7_method_31_code
def yX6_way : MethodName := ⟨RX6, "way", "(II)I"⟩
abbrev cX6_highest : ByteArray := prog_7_method_32_code
def yX6_highest : MethodName := ⟨RX6, "highest", "(I)I"⟩
abbrev cX6_mean : ByteArray := prog_7_method_33_code
def yX6_mean : MethodName := ⟨RX6, "mean", "()D"⟩
abbrev cX6_digest : ByteArray := prog_7_method_34_code
def yX6_digest : MethodName := ⟨RX6, "digest", "()J"⟩
def RJx145de : String := "java/io/Serializable"
def TJx145de : u_T := fun k => match k with
  | _ => ("", "", "", false)
def tyJx145de : Nat → FieldType := fun k => match k with
  | _ => .int
abbrev wsJx145de0 : List Cond := u_ws RJx145de TJx145de 0
theorem nmJx145de : ∀ a, a < 0 → ∀ b, b < 0 → a ≠ b → (TJx145de a).2.1 ≠ (TJx145de b).2.1 := by decide +kernel
theorem tyJx145de_ok : ∀ k, k < 0 → parseFieldDescriptor (TJx145de k).2.2.1 = some (tyJx145de k) := by decide +kernel
def RJ9 : String := "java/lang/Math"
def TJ9 : u_T := fun k => match k with
  | _ => ("", "", "", false)
def tyJ9 : Nat → FieldType := fun k => match k with
  | _ => .int
abbrev wsJ90 : List Cond := u_ws RJ9 TJ9 0
theorem nmJ9 : ∀ a, a < 0 → ∀ b, b < 0 → a ≠ b → (TJ9 a).2.1 ≠ (TJ9 b).2.1 := by decide +kernel
theorem tyJ9_ok : ∀ k, k < 0 → parseFieldDescriptor (TJ9 k).2.2.1 = some (tyJ9 k) := by decide +kernel
abbrev cJ9_max_7cf53 : ByteArray := prog_13_method_65_code
def yJ9_max_7cf53 : MethodName := ⟨RJ9, "max", "(II)I"⟩
abbrev cJ9_min_7cf53 : ByteArray := prog_13_method_69_code
def yJ9_min_7cf53 : MethodName := ⟨RJ9, "min", "(II)I"⟩
def RJ0 : String := "java/lang/String"
def TJ0 : u_T := fun k => match k with
  | _ => ("", "", "", false)
def tyJ0 : Nat → FieldType := fun k => match k with
  | _ => .int
abbrev wsJ00 : List Cond := u_ws RJ0 TJ0 0
theorem nmJ0 : ∀ a, a < 0 → ∀ b, b < 0 → a ≠ b → (TJ0 a).2.1 ≠ (TJ0 b).2.1 := by decide +kernel
theorem tyJ0_ok : ∀ k, k < 0 → parseFieldDescriptor (TJ0 k).2.2.1 = some (tyJ0 k) := by decide +kernel
def RJ10 : String := "java/lang/System"
def TJ10 : u_T := fun k => match k with
  | _ => ("", "", "", false)
def tyJ10 : Nat → FieldType := fun k => match k with
  | _ => .int
abbrev wsJ100 : List Cond := u_ws RJ10 TJ10 0
theorem nmJ10 : ∀ a, a < 0 → ∀ b, b < 0 → a ≠ b → (TJ10 a).2.1 ≠ (TJ10 b).2.1 := by decide +kernel
theorem tyJ10_ok : ∀ k, k < 0 → parseFieldDescriptor (TJ10 k).2.2.1 = some (tyJ10 k) := by decide +kernel
def RJ7 : String := "java/util/Arrays"
def TJ7 : u_T := fun k => match k with
  | _ => ("", "", "", false)
def tyJ7 : Nat → FieldType := fun k => match k with
  | _ => .int
abbrev wsJ70 : List Cond := u_ws RJ7 TJ7 0
theorem nmJ7 : ∀ a, a < 0 → ∀ b, b < 0 → a ≠ b → (TJ7 a).2.1 ≠ (TJ7 b).2.1 := by decide +kernel
theorem tyJ7_ok : ∀ k, k < 0 → parseFieldDescriptor (TJ7 k).2.2.1 = some (tyJ7 k) := by decide +kernel
abbrev cJ7_fill_53178 : ByteArray := prog_18_method_103_code
def yJ7_fill_53178 : MethodName := ⟨RJ7, "fill", "([II)V"⟩
def RL : String := "EchoCaveLaw"
abbrev cL_addChamber : ByteArray := method_3_code
def yL_addChamber : MethodName := ⟨RL, "addChamber", "(LEchoCave;III[J)I"⟩
abbrev cL_addPassage : ByteArray := method_4_code
def yL_addPassage : MethodName := ⟨RL, "addPassage", "(LEchoCave;IIII[J)I"⟩
abbrev cL_setWater : ByteArray := method_5_code
def yL_setWater : MethodName := ⟨RL, "setWater", "(LEchoCave;I[J)I"⟩
abbrev cL_setBats : ByteArray := method_6_code
def yL_setBats : MethodName := ⟨RL, "setBats", "(LEchoCave;II[J)I"⟩
abbrev cL_setClapper : ByteArray := method_7_code
def yL_setClapper : MethodName := ⟨RL, "setClapper", "(LEchoCave;III[J)I"⟩
abbrev cL_setEar : ByteArray := method_8_code
def yL_setEar : MethodName := ⟨RL, "setEar", "(LEchoCave;I[J)I"⟩
abbrev cL_chamber : ByteArray := method_9_code
def yL_chamber : MethodName := ⟨RL, "chamber", "(LEchoCave;II[J)I"⟩
abbrev cL_passage : ByteArray := method_10_code
def yL_passage : MethodName := ⟨RL, "passage", "(LEchoCave;II[J)I"⟩
abbrev cL_say : ByteArray := method_11_code
def yL_say : MethodName := ⟨RL, "say", "(LEchoCave;II[J)I"⟩
abbrev cL_heard : ByteArray := method_12_code
def yL_heard : MethodName := ⟨RL, "heard", "(LEchoCave;II[J)I"⟩
abbrev cL_first : ByteArray := method_13_code
def yL_first : MethodName := ⟨RL, "first", "(LEchoCave;I[J)I"⟩
abbrev cL_count : ByteArray := method_14_code
def yL_count : MethodName := ⟨RL, "count", "(LEchoCave;I[J)I"⟩
abbrev cL_would : ByteArray := method_15_code
def yL_would : MethodName := ⟨RL, "would", "(LEchoCave;III[J)I"⟩
abbrev cL_advise : ByteArray := method_16_code
def yL_advise : MethodName := ⟨RL, "advise", "(LEchoCave;IIII[J)I"⟩
abbrev cL_longest : ByteArray := method_17_code
def yL_longest : MethodName := ⟨RL, "longest", "(LEchoCave;II[J)I"⟩
abbrev cL_quickest : ByteArray := method_18_code
def yL_quickest : MethodName := ⟨RL, "quickest", "(LEchoCave;I[J)I"⟩
abbrev cL_way : ByteArray := method_19_code
def yL_way : MethodName := ⟨RL, "way", "(LEchoCave;II[J)I"⟩
abbrev cL_highest : ByteArray := method_20_code
def yL_highest : MethodName := ⟨RL, "highest", "(LEchoCave;I[J)I"⟩
abbrev cL_law : ByteArray := code
def yL_law : MethodName := ⟨RL, "law", "([I)Z"⟩
def wsX0_init : List Cond := .code yX0_init cX0_init 1 none :: ([.methodLink RX0 3 objectInit, .instanceMethod objectInit, .code objectInit ⟨#[0xb1]⟩ 1 none, .arrayClass .int, .fieldLink RX0 9 "EchoCave$Cave" "wall" "[I", .fieldLink RX0 15 "EchoCave$Cave" "height" "[I", .fieldLink RX0 18 "EchoCave$Cave" "bats" "[I", .fieldLink RX0 21 "EchoCave$Cave" "syllable" "[I", .fieldLink RX0 24 "EchoCave$Cave" "delay" "[I", .fieldLink RX0 27 "EchoCave$Cave" "doors" "[I", .classLink RX0 30 "[[I", .fieldLink RX0 32 "EchoCave$Cave" "passageBehind" "[[I", .fieldLink RX0 35 "EchoCave$Cave" "from" "[I", .fieldLink RX0 38 "EchoCave$Cave" "to" "[I", .fieldLink RX0 41 "EchoCave$Cave" "length" "[I", .fieldLink RX0 44 "EchoCave$Cave" "narrow" "[I", .fieldLink RX0 47 "EchoCave$Cave" "found" "[I", .fieldLink RX0 50 "EchoCave$Cave" "chambers" "I", .fieldLink RX0 54 "EchoCave$Cave" "passages" "I", .fieldLink RX0 57 "EchoCave$Cave" "water" "I"] ++ wsX00)
def wsX4_isWithin : List Cond := .code yX4_isWithin cX4_isWithin 3 (some .boolean) :: ([])
def wsX0_hasChamber : List Cond := .code yX0_hasChamber cX0_hasChamber 2 (some .boolean) :: ([.fieldLink RX0 50 "EchoCave$Cave" "chambers" "I", .static yX4_isWithin, .initialized RX4, .code yX4_isWithin cX4_isWithin 3 (some .boolean)] ++ wsX00)
def wsX0_hasPassage : List Cond := .code yX0_hasPassage cX0_hasPassage 2 (some .boolean) :: ([.fieldLink RX0 54 "EchoCave$Cave" "passages" "I", .static yX4_isWithin, .initialized RX4, .code yX4_isWithin cX4_isWithin 3 (some .boolean)] ++ wsX00)
def wsX0_findChamber : List Cond := .code yX0_findChamber cX0_findChamber 5 (some .int) :: ([.fieldLink RX0 50 "EchoCave$Cave" "chambers" "I", .fieldLink RX0 9 "EchoCave$Cave" "wall" "[I", .fieldLink RX0 15 "EchoCave$Cave" "height" "[I", .fieldLink RX0 18 "EchoCave$Cave" "bats" "[I"] ++ wsX00)
def wsX0_addDoor : List Cond := .code yX0_addDoor cX0_addDoor 3 none :: ([.fieldLink RX0 32 "EchoCave$Cave" "passageBehind" "[[I", .fieldLink RX0 27 "EchoCave$Cave" "doors" "[I"] ++ wsX00)
def wsX0_findPassage : List Cond := .code yX0_findPassage cX0_findPassage 6 (some .int) :: ([.fieldLink RX0 54 "EchoCave$Cave" "passages" "I", .fieldLink RX0 35 "EchoCave$Cave" "from" "[I", .fieldLink RX0 38 "EchoCave$Cave" "to" "[I", .fieldLink RX0 41 "EchoCave$Cave" "length" "[I", .fieldLink RX0 44 "EchoCave$Cave" "narrow" "[I", .methodLink RX0 64 yX0_addDoor, .instanceMethod yX0_addDoor, .selects RX0 yX0_addDoor yX0_addDoor, .initialized RX0, .code yX0_addDoor cX0_addDoor 3 none, .fieldLink RX0 32 "EchoCave$Cave" "passageBehind" "[[I", .fieldLink RX0 27 "EchoCave$Cave" "doors" "[I"] ++ wsX00)
def wsX0_putClapper : List Cond := .code yX0_putClapper cX0_putClapper 4 none :: ([.fieldLink RX0 21 "EchoCave$Cave" "syllable" "[I", .fieldLink RX0 24 "EchoCave$Cave" "delay" "[I"] ++ wsX00)
def wsX0_isOpen : List Cond := .code yX0_isOpen cX0_isOpen 2 (some .boolean) :: ([.fieldLink RX0 15 "EchoCave$Cave" "height" "[I", .fieldLink RX0 35 "EchoCave$Cave" "from" "[I", .fieldLink RX0 57 "EchoCave$Cave" "water" "I", .fieldLink RX0 38 "EchoCave$Cave" "to" "[I"] ++ wsX00)
def wsX0_otherEnd : List Cond := .code yX0_otherEnd cX0_otherEnd 3 (some .int) :: ([.fieldLink RX0 35 "EchoCave$Cave" "from" "[I", .fieldLink RX0 38 "EchoCave$Cave" "to" "[I"] ++ wsX00)
def wsX0_drowns : List Cond := .code yX0_drowns cX0_drowns 3 (some .boolean) :: ([.fieldLink RX0 18 "EchoCave$Cave" "bats" "[I"] ++ wsX00)
def wsX0_strengthBehind : List Cond := .code yX0_strengthBehind cX0_strengthBehind 3 (some .int) :: ([.fieldLink RX0 44 "EchoCave$Cave" "narrow" "[I"] ++ wsX00)
def wsX0_strengthFromWall : List Cond := .code yX0_strengthFromWall cX0_strengthFromWall 3 (some .int) :: ([.fieldLink RX0 9 "EchoCave$Cave" "wall" "[I"] ++ wsX00)
def wsX0_openPassages : List Cond := .code yX0_openPassages cX0_openPassages 3 (some .int) :: ([.fieldLink RX0 54 "EchoCave$Cave" "passages" "I", .methodLink RX0 68 yX0_isOpen, .instanceMethod yX0_isOpen, .selects RX0 yX0_isOpen yX0_isOpen, .initialized RX0, .code yX0_isOpen cX0_isOpen 2 (some .boolean), .fieldLink RX0 15 "EchoCave$Cave" "height" "[I", .fieldLink RX0 35 "EchoCave$Cave" "from" "[I", .fieldLink RX0 57 "EchoCave$Cave" "water" "I", .fieldLink RX0 38 "EchoCave$Cave" "to" "[I"] ++ wsX00)
def wsX0_clappers : List Cond := .code yX0_clappers cX0_clappers 3 (some .int) :: ([.fieldLink RX0 50 "EchoCave$Cave" "chambers" "I", .fieldLink RX0 21 "EchoCave$Cave" "syllable" "[I"] ++ wsX00)
def wsX0_openDoors : List Cond := .code yX0_openDoors cX0_openDoors 4 (some .int) :: ([.fieldLink RX0 27 "EchoCave$Cave" "doors" "[I", .fieldLink RX0 32 "EchoCave$Cave" "passageBehind" "[[I", .methodLink RX0 68 yX0_isOpen, .instanceMethod yX0_isOpen, .selects RX0 yX0_isOpen yX0_isOpen, .initialized RX0, .code yX0_isOpen cX0_isOpen 2 (some .boolean), .fieldLink RX0 15 "EchoCave$Cave" "height" "[I", .fieldLink RX0 35 "EchoCave$Cave" "from" "[I", .fieldLink RX0 57 "EchoCave$Cave" "water" "I", .fieldLink RX0 38 "EchoCave$Cave" "to" "[I"] ++ wsX00)
def wsX0_chamberFact : List Cond := .code yX0_chamberFact cX0_chamberFact 3 (some .int) :: ([.fieldLink RX0 9 "EchoCave$Cave" "wall" "[I", .fieldLink RX0 15 "EchoCave$Cave" "height" "[I", .fieldLink RX0 18 "EchoCave$Cave" "bats" "[I", .fieldLink RX0 21 "EchoCave$Cave" "syllable" "[I", .fieldLink RX0 24 "EchoCave$Cave" "delay" "[I", .fieldLink RX0 27 "EchoCave$Cave" "doors" "[I", .methodLink RX0 72 yX0_openDoors, .instanceMethod yX0_openDoors, .selects RX0 yX0_openDoors yX0_openDoors, .initialized RX0, .code yX0_openDoors cX0_openDoors 4 (some .int), .fieldLink RX0 32 "EchoCave$Cave" "passageBehind" "[[I", .methodLink RX0 68 yX0_isOpen, .instanceMethod yX0_isOpen, .selects RX0 yX0_isOpen yX0_isOpen, .code yX0_isOpen cX0_isOpen 2 (some .boolean), .fieldLink RX0 35 "EchoCave$Cave" "from" "[I", .fieldLink RX0 57 "EchoCave$Cave" "water" "I", .fieldLink RX0 38 "EchoCave$Cave" "to" "[I"] ++ wsX00)
def wsX0_passageFact : List Cond := .code yX0_passageFact cX0_passageFact 3 (some .int) :: ([.fieldLink RX0 35 "EchoCave$Cave" "from" "[I", .fieldLink RX0 38 "EchoCave$Cave" "to" "[I", .fieldLink RX0 41 "EchoCave$Cave" "length" "[I", .fieldLink RX0 44 "EchoCave$Cave" "narrow" "[I", .methodLink RX0 68 yX0_isOpen, .instanceMethod yX0_isOpen, .selects RX0 yX0_isOpen yX0_isOpen, .initialized RX0, .code yX0_isOpen cX0_isOpen 2 (some .boolean), .fieldLink RX0 15 "EchoCave$Cave" "height" "[I", .fieldLink RX0 57 "EchoCave$Cave" "water" "I"] ++ wsX00)
def wsJ7_fill_53178 : List Cond := .code yJ7_fill_53178 cJ7_fill_53178 4 none :: ([])
def wsX0_shorten : List Cond := .code yX0_shorten cX0_shorten 5 none :: ([.fieldLink RX0 47 "EchoCave$Cave" "found" "[I"] ++ wsX00)
def wsX0_shortestWay : List Cond := .code yX0_shortestWay cX0_shortestWay 5 (some .int) :: ([.fieldLink RX0 47 "EchoCave$Cave" "found" "[I", .fieldLink RX0 50 "EchoCave$Cave" "chambers" "I", .fieldLink RX0 54 "EchoCave$Cave" "passages" "I", .fieldLink RX0 35 "EchoCave$Cave" "from" "[I", .fieldLink RX0 38 "EchoCave$Cave" "to" "[I", .fieldLink RX0 41 "EchoCave$Cave" "length" "[I", .methodLink RX0 76 yJ7_fill_53178, .static yJ7_fill_53178, .initialized RJ7, .code yJ7_fill_53178 cJ7_fill_53178 4 none, .methodLink RX0 68 yX0_isOpen, .instanceMethod yX0_isOpen, .selects RX0 yX0_isOpen yX0_isOpen, .initialized RX0, .code yX0_isOpen cX0_isOpen 2 (some .boolean), .fieldLink RX0 15 "EchoCave$Cave" "height" "[I", .fieldLink RX0 57 "EchoCave$Cave" "water" "I", .methodLink RX0 82 yX0_shorten, .instanceMethod yX0_shorten, .selects RX0 yX0_shorten yX0_shorten, .code yX0_shorten cX0_shorten 5 none] ++ wsX00)
def wsX0_raise : List Cond := .code yX0_raise cX0_raise 4 none :: ([.fieldLink RX0 15 "EchoCave$Cave" "height" "[I", .methodLink RX0 89 Lib.Math.min.name, .static Lib.Math.min.name, .initialized "java/lang/Math", .code Lib.Math.min.name Lib.Math.min.code 2 (some .int), .fieldLink RX0 47 "EchoCave$Cave" "found" "[I", .methodLink RX0 95 Lib.Math.max.name, .static Lib.Math.max.name, .code Lib.Math.max.name Lib.Math.max.code 2 (some .int)] ++ wsX00)
def wsX0_highestWater : List Cond := .code yX0_highestWater cX0_highestWater 4 (some .int) :: ([.fieldLink RX0 47 "EchoCave$Cave" "found" "[I", .fieldLink RX0 50 "EchoCave$Cave" "chambers" "I", .fieldLink RX0 54 "EchoCave$Cave" "passages" "I", .fieldLink RX0 35 "EchoCave$Cave" "from" "[I", .fieldLink RX0 38 "EchoCave$Cave" "to" "[I", .methodLink RX0 76 yJ7_fill_53178, .static yJ7_fill_53178, .initialized RJ7, .code yJ7_fill_53178 cJ7_fill_53178 4 none, .methodLink RX0 86 yX0_raise, .instanceMethod yX0_raise, .selects RX0 yX0_raise yX0_raise, .initialized RX0, .code yX0_raise cX0_raise 4 none, .fieldLink RX0 15 "EchoCave$Cave" "height" "[I", .methodLink RX0 89 Lib.Math.min.name, .static Lib.Math.min.name, .initialized "java/lang/Math", .code Lib.Math.min.name Lib.Math.min.code 2 (some .int), .methodLink RX0 95 Lib.Math.max.name, .static Lib.Math.max.name, .code Lib.Math.max.name Lib.Math.max.code 2 (some .int)] ++ wsX00)
def wsX1_init : List Cond := .code yX1_init cX1_init 1 none :: ([.methodLink RX1 5 objectInit, .instanceMethod objectInit, .code objectInit ⟨#[0xb1]⟩ 1 none, .arrayClass .int, .fieldLink RX1 11 "EchoCave$Comings" "heap" "[I", .fieldLink RX1 15 "EchoCave$Comings" "size" "I"] ++ wsX10)
def wsX1_pack : List Cond := .code yX1_pack cX1_pack 5 (some .int) :: ([])
def wsX1_timeOf : List Cond := .code yX1_timeOf cX1_timeOf 1 (some .int) :: ([])
def wsX1_chamberOf : List Cond := .code yX1_chamberOf cX1_chamberOf 1 (some .int) :: ([])
def wsX1_runOf : List Cond := .code yX1_runOf cX1_runOf 1 (some .int) :: ([])
def wsX1_passageOf : List Cond := .code yX1_passageOf cX1_passageOf 1 (some .int) :: ([])
def wsX1_strengthOf : List Cond := .code yX1_strengthOf cX1_strengthOf 1 (some .int) :: ([])
def wsX1_clear : List Cond := .code yX1_clear cX1_clear 1 none :: ([.fieldLink RX1 15 "EchoCave$Comings" "size" "I"] ++ wsX10)
def wsX1_isEmpty : List Cond := .code yX1_isEmpty cX1_isEmpty 1 (some .boolean) :: ([.fieldLink RX1 15 "EchoCave$Comings" "size" "I"] ++ wsX10)
def wsX1_put : List Cond := .code yX1_put cX1_put 3 none :: ([.fieldLink RX1 15 "EchoCave$Comings" "size" "I", .fieldLink RX1 11 "EchoCave$Comings" "heap" "[I"] ++ wsX10)
def wsX1_sink : List Cond := .code yX1_sink cX1_sink 4 none :: ([.fieldLink RX1 15 "EchoCave$Comings" "size" "I", .fieldLink RX1 11 "EchoCave$Comings" "heap" "[I"] ++ wsX10)
def wsX1_takeNext : List Cond := .code yX1_takeNext cX1_takeNext 2 (some .int) :: ([.fieldLink RX1 11 "EchoCave$Comings" "heap" "[I", .fieldLink RX1 15 "EchoCave$Comings" "size" "I", .methodLink RX1 19 yX1_sink, .instanceMethod yX1_sink, .selects RX1 yX1_sink yX1_sink, .initialized RX1, .code yX1_sink cX1_sink 4 none] ++ wsX10)
def wsX2_init : List Cond := .code yX2_init cX2_init 1 none :: ([.methodLink RX2 3 objectInit, .instanceMethod objectInit, .code objectInit ⟨#[0xb1]⟩ 1 none, .arrayClass .int, .fieldLink RX2 9 "EchoCave$Echo" "facts" "[I", .fieldLink RX2 15 "EchoCave$Echo" "firstTime" "[I", .fieldLink RX2 18 "EchoCave$Echo" "places" "I", .fieldLink RX2 22 "EchoCave$Echo" "ear" "I", .fieldLink RX2 25 "EchoCave$Echo" "kept" "I", .fieldLink RX2 28 "EchoCave$Echo" "counted" "I", .fieldLink RX2 31 "EchoCave$Echo" "placesInOrder" "I", .fieldLink RX2 34 "EchoCave$Echo" "lastTime" "I"] ++ wsX20)
def wsX2_begin : List Cond := .code yX2_begin cX2_begin 3 none :: ([.fieldLink RX2 18 "EchoCave$Echo" "places" "I", .fieldLink RX2 22 "EchoCave$Echo" "ear" "I", .fieldLink RX2 25 "EchoCave$Echo" "kept" "I", .fieldLink RX2 28 "EchoCave$Echo" "counted" "I", .fieldLink RX2 31 "EchoCave$Echo" "placesInOrder" "I", .fieldLink RX2 34 "EchoCave$Echo" "lastTime" "I", .fieldLink RX2 15 "EchoCave$Echo" "firstTime" "[I", .methodLink RX2 37 yJ7_fill_53178, .static yJ7_fill_53178, .initialized RJ7, .code yJ7_fill_53178 cJ7_fill_53178 4 none] ++ wsX20)
def wsX2_letCount : List Cond := .code yX2_letCount cX2_letCount 3 none :: ([.fieldLink RX2 28 "EchoCave$Echo" "counted" "I", .fieldLink RX2 34 "EchoCave$Echo" "lastTime" "I", .fieldLink RX2 15 "EchoCave$Echo" "firstTime" "[I", .fieldLink RX2 31 "EchoCave$Echo" "placesInOrder" "I", .static yX4_isWithin, .initialized RX4, .code yX4_isWithin cX4_isWithin 3 (some .boolean)] ++ wsX20)
def wsX2_hear : List Cond := .code yX2_hear cX2_hear 6 none :: ([.fieldLink RX2 25 "EchoCave$Echo" "kept" "I", .fieldLink RX2 9 "EchoCave$Echo" "facts" "[I", .fieldLink RX2 22 "EchoCave$Echo" "ear" "I", .methodLink RX2 43 yX2_letCount, .instanceMethod yX2_letCount, .selects RX2 yX2_letCount yX2_letCount, .initialized RX2, .code yX2_letCount cX2_letCount 3 none, .fieldLink RX2 28 "EchoCave$Echo" "counted" "I", .fieldLink RX2 34 "EchoCave$Echo" "lastTime" "I", .fieldLink RX2 15 "EchoCave$Echo" "firstTime" "[I", .fieldLink RX2 31 "EchoCave$Echo" "placesInOrder" "I", .static yX4_isWithin, .initialized RX4, .code yX4_isWithin cX4_isWithin 3 (some .boolean)] ++ wsX20)
def wsX2_cameInOrder : List Cond := .code yX2_cameInOrder cX2_cameInOrder 1 (some .boolean) :: ([.fieldLink RX2 18 "EchoCave$Echo" "places" "I", .fieldLink RX2 31 "EchoCave$Echo" "placesInOrder" "I"] ++ wsX20)
def wsX2_heardFact : List Cond := .code yX2_heardFact cX2_heardFact 3 (some .int) :: ([.fieldLink RX2 9 "EchoCave$Echo" "facts" "[I"] ++ wsX20)
def wsX2_meanStrength : List Cond := .code yX2_meanStrength cX2_meanStrength 3 (some .double) :: ([.fieldLink RX2 25 "EchoCave$Echo" "kept" "I", .methodLink RX2 51 yX2_heardFact, .instanceMethod yX2_heardFact, .selects RX2 yX2_heardFact yX2_heardFact, .initialized RX2, .code yX2_heardFact cX2_heardFact 3 (some .int), .fieldLink RX2 9 "EchoCave$Echo" "facts" "[I"] ++ wsX20)
def wsX3_init : List Cond := .code yX3_init cX3_init 2 none :: ([.methodLink RX3 3 objectInit, .instanceMethod objectInit, .code objectInit ⟨#[0xb1]⟩ 1 none, .fieldLink RX3 9 "EchoCave$Sound" "cave" "LEchoCave$Cave;", .classLink RX3 15 RX1, .instantiable RX1 2, .initialized RX1, .fieldLink RX3 18 "EchoCave$Sound" "comings" "LEchoCave$Comings;", .arrayClass .int, .fieldLink RX3 22 "EchoCave$Sound" "syllable" "[I", .fieldLink RX3 26 "EchoCave$Sound" "place" "[I", .arrayClass .long, .fieldLink RX3 29 "EchoCave$Sound" "passagesUsed" "[J", .fieldLink RX3 33 "EchoCave$Sound" "runs" "I", .fieldLink RX3 37 "EchoCave$Sound" "clappersSetOff" "I", .methodLink RX3 17 yX1_init, .instanceMethod yX1_init, .code yX1_init cX1_init 1 none, .methodLink RX1 5 objectInit, .fieldLink RX1 11 "EchoCave$Comings" "heap" "[I", .fieldLink RX1 15 "EchoCave$Comings" "size" "I"] ++ wsX30 ++ wsX10)
def wsX4_placesOf : List Cond := .code yX4_placesOf cX4_placesOf 3 (some .int) :: ([])
def wsX3_startRun : List Cond := .code yX3_startRun cX3_startRun 6 none :: ([.fieldLink RX3 33 "EchoCave$Sound" "runs" "I", .fieldLink RX3 22 "EchoCave$Sound" "syllable" "[I", .fieldLink RX3 26 "EchoCave$Sound" "place" "[I", .fieldLink RX3 29 "EchoCave$Sound" "passagesUsed" "[J", .fieldLink RX3 18 "EchoCave$Sound" "comings" "LEchoCave$Comings;", .methodLink RX3 72 yX1_pack, .static yX1_pack, .initialized RX1, .code yX1_pack cX1_pack 5 (some .int), .methodLink RX3 76 yX1_put, .instanceMethod yX1_put, .selects RX1 yX1_put yX1_put, .code yX1_put cX1_put 3 none, .fieldLink RX1 15 "EchoCave$Comings" "size" "I", .fieldLink RX1 11 "EchoCave$Comings" "heap" "[I"] ++ wsX30 ++ wsX10)
def wsX3_begin_r1 : List Cond := [Cond.fieldLink RX3 18 "EchoCave$Sound" "comings" "LEchoCave$Comings;", Cond.fieldLink RX3 33 "EchoCave$Sound" "runs" "I", Cond.fieldLink RX3 37 "EchoCave$Sound" "clappersSetOff" "I", Cond.methodLink RX3 65 yX1_clear, Cond.instanceMethod yX1_clear, Cond.selects RX1 yX1_clear yX1_clear, Cond.initialized RX1, Cond.code yX1_clear cX1_clear 1 none, Cond.fieldLink RX1 15 "EchoCave$Comings" "size" "I", Cond.methodLink RX3 68 yX3_startRun, Cond.instanceMethod yX3_startRun, Cond.selects RX3 yX3_startRun yX3_startRun, Cond.initialized RX3, Cond.code yX3_startRun cX3_startRun 6 none, Cond.fieldLink RX3 22 "EchoCave$Sound" "syllable" "[I", Cond.fieldLink RX3 26 "EchoCave$Sound" "place" "[I", Cond.fieldLink RX3 29 "EchoCave$Sound" "passagesUsed" "[J", Cond.methodLink RX3 72 yX1_pack, Cond.static yX1_pack, Cond.code yX1_pack cX1_pack 5 (some .int), Cond.methodLink RX3 76 yX1_put, Cond.instanceMethod yX1_put, Cond.selects RX1 yX1_put yX1_put, Cond.code yX1_put cX1_put 3 none]
def wsX3_begin_r2 : List Cond := [Cond.fieldLink RX1 11 "EchoCave$Comings" "heap" "[I"]
def wsX3_begin : List Cond := .code yX3_begin cX3_begin 6 none :: ((wsX3_begin_r1 ++ wsX3_begin_r2) ++ wsX30 ++ wsX10)
def wsX3_setOffClapper : List Cond := .code yX3_setOffClapper cX3_setOffClapper 6 none :: ([.fieldLink RX3 9 "EchoCave$Sound" "cave" "LEchoCave$Cave;", .fieldLink RX3 22 "EchoCave$Sound" "syllable" "[I", .fieldLink RX3 37 "EchoCave$Sound" "clappersSetOff" "I", .fieldLink RX3 26 "EchoCave$Sound" "place" "[I", .methodLink RX3 68 yX3_startRun, .instanceMethod yX3_startRun, .selects RX3 yX3_startRun yX3_startRun, .initialized RX3, .code yX3_startRun cX3_startRun 6 none, .fieldLink RX3 33 "EchoCave$Sound" "runs" "I", .fieldLink RX3 29 "EchoCave$Sound" "passagesUsed" "[J", .fieldLink RX3 18 "EchoCave$Sound" "comings" "LEchoCave$Comings;", .methodLink RX3 72 yX1_pack, .static yX1_pack, .initialized RX1, .code yX1_pack cX1_pack 5 (some .int), .methodLink RX3 76 yX1_put, .instanceMethod yX1_put, .selects RX1 yX1_put yX1_put, .code yX1_put cX1_put 3 none, .fieldLink RX1 15 "EchoCave$Comings" "size" "I", .fieldLink RX1 11 "EchoCave$Comings" "heap" "[I"] ++ wsX30 ++ wsX00 ++ wsX10)
def wsX3_goInto_r1 : List Cond := [Cond.fieldLink RX3 9 "EchoCave$Sound" "cave" "LEchoCave$Cave;", Cond.fieldLink RX3 29 "EchoCave$Sound" "passagesUsed" "[J", Cond.fieldLink RX3 18 "EchoCave$Sound" "comings" "LEchoCave$Comings;", Cond.methodLink RX3 145 yX0_otherEnd, Cond.instanceMethod yX0_otherEnd, Cond.selects RX0 yX0_otherEnd yX0_otherEnd, Cond.initialized RX0, Cond.code yX0_otherEnd cX0_otherEnd 3 (some .int), Cond.fieldLink RX0 35 "EchoCave$Cave" "from" "[I", Cond.fieldLink RX0 38 "EchoCave$Cave" "to" "[I", Cond.methodLink RX3 148 yX0_strengthBehind, Cond.instanceMethod yX0_strengthBehind, Cond.selects RX0 yX0_strengthBehind yX0_strengthBehind, Cond.code yX0_strengthBehind cX0_strengthBehind 3 (some .int), Cond.fieldLink RX0 44 "EchoCave$Cave" "narrow" "[I", Cond.methodLink RX3 72 yX1_pack, Cond.static yX1_pack, Cond.initialized RX1, Cond.code yX1_pack cX1_pack 5 (some .int), Cond.methodLink RX3 76 yX1_put, Cond.instanceMethod yX1_put, Cond.selects RX1 yX1_put yX1_put, Cond.code yX1_put cX1_put 3 none, Cond.fieldLink RX1 15 "EchoCave$Comings" "size" "I"]
def wsX3_goInto_r2 : List Cond := [Cond.fieldLink RX1 11 "EchoCave$Comings" "heap" "[I"]
def wsX3_goInto : List Cond := .code yX3_goInto cX3_goInto 10 none :: ((wsX3_goInto_r1 ++ wsX3_goInto_r2) ++ wsX30 ++ wsX00 ++ wsX10)
def wsX3_goOn_r1 : List Cond := [Cond.fieldLink RX3 9 "EchoCave$Sound" "cave" "LEchoCave$Cave;", Cond.methodLink RX3 136 yX0_isOpen, Cond.instanceMethod yX0_isOpen, Cond.selects RX0 yX0_isOpen yX0_isOpen, Cond.initialized RX0, Cond.code yX0_isOpen cX0_isOpen 2 (some .boolean), Cond.fieldLink RX0 15 "EchoCave$Cave" "height" "[I", Cond.fieldLink RX0 35 "EchoCave$Cave" "from" "[I", Cond.fieldLink RX0 57 "EchoCave$Cave" "water" "I", Cond.fieldLink RX0 38 "EchoCave$Cave" "to" "[I", Cond.methodLink RX3 122 yX3_goInto, Cond.instanceMethod yX3_goInto, Cond.selects RX3 yX3_goInto yX3_goInto, Cond.initialized RX3, Cond.code yX3_goInto cX3_goInto 10 none, Cond.fieldLink RX3 29 "EchoCave$Sound" "passagesUsed" "[J", Cond.fieldLink RX3 18 "EchoCave$Sound" "comings" "LEchoCave$Comings;", Cond.methodLink RX3 145 yX0_otherEnd, Cond.instanceMethod yX0_otherEnd, Cond.selects RX0 yX0_otherEnd yX0_otherEnd, Cond.code yX0_otherEnd cX0_otherEnd 3 (some .int), Cond.methodLink RX3 148 yX0_strengthBehind, Cond.instanceMethod yX0_strengthBehind, Cond.selects RX0 yX0_strengthBehind yX0_strengthBehind]
def wsX3_goOn_r2 : List Cond := [Cond.code yX0_strengthBehind cX0_strengthBehind 3 (some .int), Cond.fieldLink RX0 44 "EchoCave$Cave" "narrow" "[I", Cond.methodLink RX3 72 yX1_pack, Cond.static yX1_pack, Cond.initialized RX1, Cond.code yX1_pack cX1_pack 5 (some .int), Cond.methodLink RX3 76 yX1_put, Cond.instanceMethod yX1_put, Cond.selects RX1 yX1_put yX1_put, Cond.code yX1_put cX1_put 3 none, Cond.fieldLink RX1 15 "EchoCave$Comings" "size" "I", Cond.fieldLink RX1 11 "EchoCave$Comings" "heap" "[I"]
def wsX3_goOn : List Cond := .code yX3_goOn cX3_goOn 8 none :: ((wsX3_goOn_r1 ++ wsX3_goOn_r2) ++ wsX30 ++ wsX00 ++ wsX10)
def wsX3_come_r1 : List Cond := [Cond.fieldLink RX3 33 "EchoCave$Sound" "runs" "I", Cond.fieldLink RX3 9 "EchoCave$Sound" "cave" "LEchoCave$Cave;", Cond.fieldLink RX3 26 "EchoCave$Sound" "place" "[I", Cond.fieldLink RX3 22 "EchoCave$Sound" "syllable" "[I", Cond.methodLink RX3 80 yX1_timeOf, Cond.static yX1_timeOf, Cond.initialized RX1, Cond.code yX1_timeOf cX1_timeOf 1 (some .int), Cond.methodLink RX3 83 yX1_chamberOf, Cond.static yX1_chamberOf, Cond.code yX1_chamberOf cX1_chamberOf 1 (some .int), Cond.methodLink RX3 86 yX1_runOf, Cond.static yX1_runOf, Cond.code yX1_runOf cX1_runOf 1 (some .int), Cond.methodLink RX3 89 yX1_passageOf, Cond.static yX1_passageOf, Cond.code yX1_passageOf cX1_passageOf 1 (some .int), Cond.methodLink RX3 92 yX1_strengthOf, Cond.static yX1_strengthOf, Cond.code yX1_strengthOf cX1_strengthOf 1 (some .int), Cond.methodLink RX3 95 yX0_hasChamber, Cond.instanceMethod yX0_hasChamber, Cond.selects RX0 yX0_hasChamber yX0_hasChamber, Cond.initialized RX0]
def wsX3_come_r2 : List Cond := [Cond.code yX0_hasChamber cX0_hasChamber 2 (some .boolean), Cond.fieldLink RX0 50 "EchoCave$Cave" "chambers" "I", Cond.static yX4_isWithin, Cond.initialized RX4, Cond.code yX4_isWithin cX4_isWithin 3 (some .boolean), Cond.methodLink RX3 104 yX2_hear, Cond.instanceMethod yX2_hear, Cond.selects RX2 yX2_hear yX2_hear, Cond.initialized RX2, Cond.code yX2_hear cX2_hear 6 none, Cond.fieldLink RX2 25 "EchoCave$Echo" "kept" "I", Cond.fieldLink RX2 9 "EchoCave$Echo" "facts" "[I", Cond.fieldLink RX2 22 "EchoCave$Echo" "ear" "I", Cond.methodLink RX2 43 yX2_letCount, Cond.instanceMethod yX2_letCount, Cond.selects RX2 yX2_letCount yX2_letCount, Cond.code yX2_letCount cX2_letCount 3 none, Cond.fieldLink RX2 28 "EchoCave$Echo" "counted" "I", Cond.fieldLink RX2 34 "EchoCave$Echo" "lastTime" "I", Cond.fieldLink RX2 15 "EchoCave$Echo" "firstTime" "[I", Cond.fieldLink RX2 31 "EchoCave$Echo" "placesInOrder" "I", Cond.methodLink RX3 108 yX0_drowns, Cond.instanceMethod yX0_drowns, Cond.selects RX0 yX0_drowns yX0_drowns]
def wsX3_come_r3 : List Cond := [Cond.code yX0_drowns cX0_drowns 3 (some .boolean), Cond.fieldLink RX0 18 "EchoCave$Cave" "bats" "[I", Cond.methodLink RX3 112 yX3_setOffClapper, Cond.instanceMethod yX3_setOffClapper, Cond.selects RX3 yX3_setOffClapper yX3_setOffClapper, Cond.initialized RX3, Cond.code yX3_setOffClapper cX3_setOffClapper 6 none, Cond.fieldLink RX3 37 "EchoCave$Sound" "clappersSetOff" "I", Cond.methodLink RX3 68 yX3_startRun, Cond.instanceMethod yX3_startRun, Cond.selects RX3 yX3_startRun yX3_startRun, Cond.code yX3_startRun cX3_startRun 6 none, Cond.fieldLink RX3 29 "EchoCave$Sound" "passagesUsed" "[J", Cond.fieldLink RX3 18 "EchoCave$Sound" "comings" "LEchoCave$Comings;", Cond.methodLink RX3 72 yX1_pack, Cond.static yX1_pack, Cond.code yX1_pack cX1_pack 5 (some .int), Cond.methodLink RX3 76 yX1_put, Cond.instanceMethod yX1_put, Cond.selects RX1 yX1_put yX1_put, Cond.code yX1_put cX1_put 3 none, Cond.fieldLink RX1 15 "EchoCave$Comings" "size" "I", Cond.fieldLink RX1 11 "EchoCave$Comings" "heap" "[I", Cond.methodLink RX3 115 yX3_goOn]
def wsX3_come_r4 : List Cond := [Cond.instanceMethod yX3_goOn, Cond.selects RX3 yX3_goOn yX3_goOn, Cond.code yX3_goOn cX3_goOn 8 none, Cond.methodLink RX3 136 yX0_isOpen, Cond.instanceMethod yX0_isOpen, Cond.selects RX0 yX0_isOpen yX0_isOpen, Cond.code yX0_isOpen cX0_isOpen 2 (some .boolean), Cond.fieldLink RX0 15 "EchoCave$Cave" "height" "[I", Cond.fieldLink RX0 35 "EchoCave$Cave" "from" "[I", Cond.fieldLink RX0 57 "EchoCave$Cave" "water" "I", Cond.fieldLink RX0 38 "EchoCave$Cave" "to" "[I", Cond.methodLink RX3 122 yX3_goInto, Cond.instanceMethod yX3_goInto, Cond.selects RX3 yX3_goInto yX3_goInto, Cond.code yX3_goInto cX3_goInto 10 none, Cond.methodLink RX3 145 yX0_otherEnd, Cond.instanceMethod yX0_otherEnd, Cond.selects RX0 yX0_otherEnd yX0_otherEnd, Cond.code yX0_otherEnd cX0_otherEnd 3 (some .int), Cond.methodLink RX3 148 yX0_strengthBehind, Cond.instanceMethod yX0_strengthBehind, Cond.selects RX0 yX0_strengthBehind yX0_strengthBehind, Cond.code yX0_strengthBehind cX0_strengthBehind 3 (some .int), Cond.fieldLink RX0 44 "EchoCave$Cave" "narrow" "[I"]
def wsX3_come_r5 : List Cond := [Cond.methodLink RX3 118 yX0_strengthFromWall, Cond.instanceMethod yX0_strengthFromWall, Cond.selects RX0 yX0_strengthFromWall yX0_strengthFromWall, Cond.code yX0_strengthFromWall cX0_strengthFromWall 3 (some .int), Cond.fieldLink RX0 9 "EchoCave$Cave" "wall" "[I"]
def wsX3_come : List Cond := .code yX3_come cX3_come 8 none :: ((wsX3_come_r1 ++ (wsX3_come_r2 ++ (wsX3_come_r3 ++ (wsX3_come_r4 ++ wsX3_come_r5)))) ++ wsX30 ++ wsX00 ++ wsX20 ++ wsX10)
def wsX3_runThrough_r1 : List Cond := [Cond.fieldLink RX3 18 "EchoCave$Sound" "comings" "LEchoCave$Comings;", Cond.static yX4_placesOf, Cond.initialized RX4, Cond.code yX4_placesOf cX4_placesOf 3 (some .int), Cond.methodLink RX3 44 yX2_begin, Cond.instanceMethod yX2_begin, Cond.selects RX2 yX2_begin yX2_begin, Cond.initialized RX2, Cond.code yX2_begin cX2_begin 3 none, Cond.fieldLink RX2 18 "EchoCave$Echo" "places" "I", Cond.fieldLink RX2 22 "EchoCave$Echo" "ear" "I", Cond.fieldLink RX2 25 "EchoCave$Echo" "kept" "I", Cond.fieldLink RX2 28 "EchoCave$Echo" "counted" "I", Cond.fieldLink RX2 31 "EchoCave$Echo" "placesInOrder" "I", Cond.fieldLink RX2 34 "EchoCave$Echo" "lastTime" "I", Cond.fieldLink RX2 15 "EchoCave$Echo" "firstTime" "[I", Cond.methodLink RX2 37 yJ7_fill_53178, Cond.static yJ7_fill_53178, Cond.initialized RJ7, Cond.code yJ7_fill_53178 cJ7_fill_53178 4 none, Cond.methodLink RX3 50 yX3_begin, Cond.instanceMethod yX3_begin, Cond.selects RX3 yX3_begin yX3_begin, Cond.initialized RX3]
def wsX3_runThrough_r2 : List Cond := [Cond.code yX3_begin cX3_begin 6 none, Cond.fieldLink RX3 33 "EchoCave$Sound" "runs" "I", Cond.fieldLink RX3 37 "EchoCave$Sound" "clappersSetOff" "I", Cond.methodLink RX3 65 yX1_clear, Cond.instanceMethod yX1_clear, Cond.selects RX1 yX1_clear yX1_clear, Cond.initialized RX1, Cond.code yX1_clear cX1_clear 1 none, Cond.fieldLink RX1 15 "EchoCave$Comings" "size" "I", Cond.methodLink RX3 68 yX3_startRun, Cond.instanceMethod yX3_startRun, Cond.selects RX3 yX3_startRun yX3_startRun, Cond.code yX3_startRun cX3_startRun 6 none, Cond.fieldLink RX3 22 "EchoCave$Sound" "syllable" "[I", Cond.fieldLink RX3 26 "EchoCave$Sound" "place" "[I", Cond.fieldLink RX3 29 "EchoCave$Sound" "passagesUsed" "[J", Cond.methodLink RX3 72 yX1_pack, Cond.static yX1_pack, Cond.code yX1_pack cX1_pack 5 (some .int), Cond.methodLink RX3 76 yX1_put, Cond.instanceMethod yX1_put, Cond.selects RX1 yX1_put yX1_put, Cond.code yX1_put cX1_put 3 none, Cond.fieldLink RX1 11 "EchoCave$Comings" "heap" "[I"]
def wsX3_runThrough_r3 : List Cond := [Cond.methodLink RX3 53 yX1_isEmpty, Cond.instanceMethod yX1_isEmpty, Cond.selects RX1 yX1_isEmpty yX1_isEmpty, Cond.code yX1_isEmpty cX1_isEmpty 1 (some .boolean), Cond.methodLink RX3 57 yX1_takeNext, Cond.instanceMethod yX1_takeNext, Cond.selects RX1 yX1_takeNext yX1_takeNext, Cond.code yX1_takeNext cX1_takeNext 2 (some .int), Cond.methodLink RX1 19 yX1_sink, Cond.instanceMethod yX1_sink, Cond.selects RX1 yX1_sink yX1_sink, Cond.code yX1_sink cX1_sink 4 none, Cond.methodLink RX3 61 yX3_come, Cond.instanceMethod yX3_come, Cond.selects RX3 yX3_come yX3_come, Cond.code yX3_come cX3_come 8 none, Cond.fieldLink RX3 9 "EchoCave$Sound" "cave" "LEchoCave$Cave;", Cond.methodLink RX3 80 yX1_timeOf, Cond.static yX1_timeOf, Cond.code yX1_timeOf cX1_timeOf 1 (some .int), Cond.methodLink RX3 83 yX1_chamberOf, Cond.static yX1_chamberOf, Cond.code yX1_chamberOf cX1_chamberOf 1 (some .int), Cond.methodLink RX3 86 yX1_runOf]
def wsX3_runThrough_r4 : List Cond := [Cond.static yX1_runOf, Cond.code yX1_runOf cX1_runOf 1 (some .int), Cond.methodLink RX3 89 yX1_passageOf, Cond.static yX1_passageOf, Cond.code yX1_passageOf cX1_passageOf 1 (some .int), Cond.methodLink RX3 92 yX1_strengthOf, Cond.static yX1_strengthOf, Cond.code yX1_strengthOf cX1_strengthOf 1 (some .int), Cond.methodLink RX3 95 yX0_hasChamber, Cond.instanceMethod yX0_hasChamber, Cond.selects RX0 yX0_hasChamber yX0_hasChamber, Cond.initialized RX0, Cond.code yX0_hasChamber cX0_hasChamber 2 (some .boolean), Cond.fieldLink RX0 50 "EchoCave$Cave" "chambers" "I", Cond.static yX4_isWithin, Cond.code yX4_isWithin cX4_isWithin 3 (some .boolean), Cond.methodLink RX3 104 yX2_hear, Cond.instanceMethod yX2_hear, Cond.selects RX2 yX2_hear yX2_hear, Cond.code yX2_hear cX2_hear 6 none, Cond.fieldLink RX2 9 "EchoCave$Echo" "facts" "[I", Cond.methodLink RX2 43 yX2_letCount, Cond.instanceMethod yX2_letCount, Cond.selects RX2 yX2_letCount yX2_letCount]
def wsX3_runThrough_r5 : List Cond := [Cond.code yX2_letCount cX2_letCount 3 none, Cond.methodLink RX3 108 yX0_drowns, Cond.instanceMethod yX0_drowns, Cond.selects RX0 yX0_drowns yX0_drowns, Cond.code yX0_drowns cX0_drowns 3 (some .boolean), Cond.fieldLink RX0 18 "EchoCave$Cave" "bats" "[I", Cond.methodLink RX3 112 yX3_setOffClapper, Cond.instanceMethod yX3_setOffClapper, Cond.selects RX3 yX3_setOffClapper yX3_setOffClapper, Cond.code yX3_setOffClapper cX3_setOffClapper 6 none, Cond.methodLink RX3 115 yX3_goOn, Cond.instanceMethod yX3_goOn, Cond.selects RX3 yX3_goOn yX3_goOn, Cond.code yX3_goOn cX3_goOn 8 none, Cond.methodLink RX3 136 yX0_isOpen, Cond.instanceMethod yX0_isOpen, Cond.selects RX0 yX0_isOpen yX0_isOpen, Cond.code yX0_isOpen cX0_isOpen 2 (some .boolean), Cond.fieldLink RX0 15 "EchoCave$Cave" "height" "[I", Cond.fieldLink RX0 35 "EchoCave$Cave" "from" "[I", Cond.fieldLink RX0 57 "EchoCave$Cave" "water" "I", Cond.fieldLink RX0 38 "EchoCave$Cave" "to" "[I", Cond.methodLink RX3 122 yX3_goInto, Cond.instanceMethod yX3_goInto]
def wsX3_runThrough_r6 : List Cond := [Cond.selects RX3 yX3_goInto yX3_goInto, Cond.code yX3_goInto cX3_goInto 10 none, Cond.methodLink RX3 145 yX0_otherEnd, Cond.instanceMethod yX0_otherEnd, Cond.selects RX0 yX0_otherEnd yX0_otherEnd, Cond.code yX0_otherEnd cX0_otherEnd 3 (some .int), Cond.methodLink RX3 148 yX0_strengthBehind, Cond.instanceMethod yX0_strengthBehind, Cond.selects RX0 yX0_strengthBehind yX0_strengthBehind, Cond.code yX0_strengthBehind cX0_strengthBehind 3 (some .int), Cond.fieldLink RX0 44 "EchoCave$Cave" "narrow" "[I", Cond.methodLink RX3 118 yX0_strengthFromWall, Cond.instanceMethod yX0_strengthFromWall, Cond.selects RX0 yX0_strengthFromWall yX0_strengthFromWall, Cond.code yX0_strengthFromWall cX0_strengthFromWall 3 (some .int), Cond.fieldLink RX0 9 "EchoCave$Cave" "wall" "[I"]
def wsX3_runThrough : List Cond := .code yX3_runThrough cX3_runThrough 7 none :: ((wsX3_runThrough_r1 ++ (wsX3_runThrough_r2 ++ (wsX3_runThrough_r3 ++ (wsX3_runThrough_r4 ++ (wsX3_runThrough_r5 ++ wsX3_runThrough_r6))))) ++ wsX30 ++ wsX20 ++ wsX10 ++ wsX00)
def wsX4_init_r1 : List Cond := [Cond.methodLink RX4 3 objectInit, Cond.instanceMethod objectInit, Cond.code objectInit ⟨#[0xb1]⟩ 1 none, Cond.classLink RX4 9 RX0, Cond.instantiable RX0 15, Cond.initialized RX0, Cond.fieldLink RX4 12 "EchoCave" "cave" "LEchoCave$Cave;", Cond.classLink RX4 16 RX3, Cond.instantiable RX3 7, Cond.initialized RX3, Cond.fieldLink RX4 21 "EchoCave" "sound" "LEchoCave$Sound;", Cond.classLink RX4 25 RX2, Cond.instantiable RX2 8, Cond.initialized RX2, Cond.fieldLink RX4 28 "EchoCave" "latest" "LEchoCave$Echo;", Cond.fieldLink RX4 32 "EchoCave" "trial" "LEchoCave$Echo;", Cond.fieldLink RX4 35 "EchoCave" "ear" "I", Cond.fieldLink RX4 39 "EchoCave" "wordsSaid" "I", Cond.fieldLink RX4 42 "EchoCave" "latestWord" "I", Cond.methodLink RX4 11 yX0_init, Cond.instanceMethod yX0_init, Cond.code yX0_init cX0_init 1 none, Cond.methodLink RX0 3 objectInit, Cond.arrayClass .int]
def wsX4_init_r2 : List Cond := [Cond.fieldLink RX0 9 "EchoCave$Cave" "wall" "[I", Cond.fieldLink RX0 15 "EchoCave$Cave" "height" "[I", Cond.fieldLink RX0 18 "EchoCave$Cave" "bats" "[I", Cond.fieldLink RX0 21 "EchoCave$Cave" "syllable" "[I", Cond.fieldLink RX0 24 "EchoCave$Cave" "delay" "[I", Cond.fieldLink RX0 27 "EchoCave$Cave" "doors" "[I", Cond.classLink RX0 30 "[[I", Cond.fieldLink RX0 32 "EchoCave$Cave" "passageBehind" "[[I", Cond.fieldLink RX0 35 "EchoCave$Cave" "from" "[I", Cond.fieldLink RX0 38 "EchoCave$Cave" "to" "[I", Cond.fieldLink RX0 41 "EchoCave$Cave" "length" "[I", Cond.fieldLink RX0 44 "EchoCave$Cave" "narrow" "[I", Cond.fieldLink RX0 47 "EchoCave$Cave" "found" "[I", Cond.fieldLink RX0 50 "EchoCave$Cave" "chambers" "I", Cond.fieldLink RX0 54 "EchoCave$Cave" "passages" "I", Cond.fieldLink RX0 57 "EchoCave$Cave" "water" "I", Cond.methodLink RX4 18 yX3_init, Cond.instanceMethod yX3_init, Cond.code yX3_init cX3_init 2 none, Cond.methodLink RX3 3 objectInit, Cond.fieldLink RX3 9 "EchoCave$Sound" "cave" "LEchoCave$Cave;", Cond.classLink RX3 15 RX1, Cond.instantiable RX1 2, Cond.initialized RX1]
def wsX4_init_r3 : List Cond := [Cond.fieldLink RX3 18 "EchoCave$Sound" "comings" "LEchoCave$Comings;", Cond.fieldLink RX3 22 "EchoCave$Sound" "syllable" "[I", Cond.fieldLink RX3 26 "EchoCave$Sound" "place" "[I", Cond.arrayClass .long, Cond.fieldLink RX3 29 "EchoCave$Sound" "passagesUsed" "[J", Cond.fieldLink RX3 33 "EchoCave$Sound" "runs" "I", Cond.fieldLink RX3 37 "EchoCave$Sound" "clappersSetOff" "I", Cond.methodLink RX3 17 yX1_init, Cond.instanceMethod yX1_init, Cond.code yX1_init cX1_init 1 none, Cond.methodLink RX1 5 objectInit, Cond.fieldLink RX1 11 "EchoCave$Comings" "heap" "[I", Cond.fieldLink RX1 15 "EchoCave$Comings" "size" "I", Cond.methodLink RX4 27 yX2_init, Cond.instanceMethod yX2_init, Cond.code yX2_init cX2_init 1 none, Cond.methodLink RX2 3 objectInit, Cond.fieldLink RX2 9 "EchoCave$Echo" "facts" "[I", Cond.fieldLink RX2 15 "EchoCave$Echo" "firstTime" "[I", Cond.fieldLink RX2 18 "EchoCave$Echo" "places" "I", Cond.fieldLink RX2 22 "EchoCave$Echo" "ear" "I", Cond.fieldLink RX2 25 "EchoCave$Echo" "kept" "I", Cond.fieldLink RX2 28 "EchoCave$Echo" "counted" "I", Cond.fieldLink RX2 31 "EchoCave$Echo" "placesInOrder" "I"]
def wsX4_init_r4 : List Cond := [Cond.fieldLink RX2 34 "EchoCave$Echo" "lastTime" "I"]
def wsX4_init : List Cond := .code yX4_init cX4_init 1 none :: ((wsX4_init_r1 ++ (wsX4_init_r2 ++ (wsX4_init_r3 ++ wsX4_init_r4))) ++ wsX00 ++ wsX40 ++ wsX30 ++ wsX20 ++ wsX10)
def wsX4_requireArgument : List Cond := .code yX4_requireArgument cX4_requireArgument 1 none :: ([.classLink RX4 181 "java/lang/IllegalArgumentException", .initialized "java/lang/IllegalArgumentException"] ++ (vx_atS RX4 185 "java/lang/IllegalArgumentException" ["java/lang/RuntimeException", "java/lang/Exception"]).filter goodWord)
def wsX4_addChamber : List Cond := .code yX4_addChamber cX4_addChamber 4 (some .int) :: ([.classLink RX4 56 "java/lang/IllegalStateException", .initialized "java/lang/IllegalStateException", .fieldLink RX4 12 "EchoCave" "cave" "LEchoCave$Cave;", .methodLink RX4 45 yX4_isWithin, .static yX4_isWithin, .initialized RX4, .code yX4_isWithin cX4_isWithin 3 (some .boolean), .methodLink RX4 49 yX4_requireArgument, .static yX4_requireArgument, .code yX4_requireArgument cX4_requireArgument 1 none, .classLink RX4 181 "java/lang/IllegalArgumentException", .initialized "java/lang/IllegalArgumentException", .methodLink RX4 63 yX0_findChamber, .instanceMethod yX0_findChamber, .selects RX0 yX0_findChamber yX0_findChamber, .initialized RX0, .code yX0_findChamber cX0_findChamber 5 (some .int), .fieldLink RX0 50 "EchoCave$Cave" "chambers" "I", .fieldLink RX0 9 "EchoCave$Cave" "wall" "[I", .fieldLink RX0 15 "EchoCave$Cave" "height" "[I", .fieldLink RX0 18 "EchoCave$Cave" "bats" "[I"] ++ wsX40 ++ wsX00 ++ (vx_atS RX4 60 "java/lang/IllegalStateException" ["java/lang/RuntimeException", "java/lang/Exception"]).filter goodWord ++ (vx_atS RX4 185 "java/lang/IllegalArgumentException" ["java/lang/RuntimeException", "java/lang/Exception"]).filter goodWord)
def wsX4_requireIndex : List Cond := .code yX4_requireIndex cX4_requireIndex 1 none :: ([.classLink RX4 176 "java/lang/IndexOutOfBoundsException", .initialized "java/lang/IndexOutOfBoundsException"] ++ (vx_atS RX4 180 "java/lang/IndexOutOfBoundsException" ["java/lang/RuntimeException", "java/lang/Exception"]).filter goodWord)
def wsX4_addPassage_r1 : List Cond := [Cond.classLink RX4 56 "java/lang/IllegalStateException", Cond.initialized "java/lang/IllegalStateException", Cond.fieldLink RX4 12 "EchoCave" "cave" "LEchoCave$Cave;", Cond.methodLink RX4 67 yX0_hasChamber, Cond.instanceMethod yX0_hasChamber, Cond.selects RX0 yX0_hasChamber yX0_hasChamber, Cond.initialized RX0, Cond.code yX0_hasChamber cX0_hasChamber 2 (some .boolean), Cond.fieldLink RX0 50 "EchoCave$Cave" "chambers" "I", Cond.static yX4_isWithin, Cond.initialized RX4, Cond.code yX4_isWithin cX4_isWithin 3 (some .boolean), Cond.methodLink RX4 71 yX4_requireIndex, Cond.static yX4_requireIndex, Cond.code yX4_requireIndex cX4_requireIndex 1 none, Cond.classLink RX4 176 "java/lang/IndexOutOfBoundsException", Cond.initialized "java/lang/IndexOutOfBoundsException", Cond.methodLink RX4 49 yX4_requireArgument, Cond.static yX4_requireArgument, Cond.code yX4_requireArgument cX4_requireArgument 1 none, Cond.classLink RX4 181 "java/lang/IllegalArgumentException", Cond.initialized "java/lang/IllegalArgumentException", Cond.methodLink RX4 45 yX4_isWithin, Cond.methodLink RX4 79 yX0_findPassage]
def wsX4_addPassage_r2 : List Cond := [Cond.instanceMethod yX0_findPassage, Cond.selects RX0 yX0_findPassage yX0_findPassage, Cond.code yX0_findPassage cX0_findPassage 6 (some .int), Cond.fieldLink RX0 54 "EchoCave$Cave" "passages" "I", Cond.fieldLink RX0 35 "EchoCave$Cave" "from" "[I", Cond.fieldLink RX0 38 "EchoCave$Cave" "to" "[I", Cond.fieldLink RX0 41 "EchoCave$Cave" "length" "[I", Cond.fieldLink RX0 44 "EchoCave$Cave" "narrow" "[I", Cond.methodLink RX0 64 yX0_addDoor, Cond.instanceMethod yX0_addDoor, Cond.selects RX0 yX0_addDoor yX0_addDoor, Cond.code yX0_addDoor cX0_addDoor 3 none, Cond.fieldLink RX0 32 "EchoCave$Cave" "passageBehind" "[[I", Cond.fieldLink RX0 27 "EchoCave$Cave" "doors" "[I"]
def wsX4_addPassage : List Cond := .code yX4_addPassage cX4_addPassage 5 (some .int) :: ((wsX4_addPassage_r1 ++ wsX4_addPassage_r2) ++ wsX40 ++ wsX00 ++ (vx_atS RX4 60 "java/lang/IllegalStateException" ["java/lang/RuntimeException", "java/lang/Exception"]).filter goodWord ++ (vx_atS RX4 180 "java/lang/IndexOutOfBoundsException" ["java/lang/RuntimeException", "java/lang/Exception"]).filter goodWord ++ (vx_atS RX4 185 "java/lang/IllegalArgumentException" ["java/lang/RuntimeException", "java/lang/Exception"]).filter goodWord)
def wsX4_setWater : List Cond := .code yX4_setWater cX4_setWater 3 (some .int) :: ([.fieldLink RX4 12 "EchoCave" "cave" "LEchoCave$Cave;", .methodLink RX4 45 yX4_isWithin, .static yX4_isWithin, .initialized RX4, .code yX4_isWithin cX4_isWithin 3 (some .boolean), .methodLink RX4 49 yX4_requireArgument, .static yX4_requireArgument, .code yX4_requireArgument cX4_requireArgument 1 none, .classLink RX4 181 "java/lang/IllegalArgumentException", .initialized "java/lang/IllegalArgumentException"] ++ wsX40 ++ wsX00 ++ (vx_atS RX4 185 "java/lang/IllegalArgumentException" ["java/lang/RuntimeException", "java/lang/Exception"]).filter goodWord)
def wsX4_setBats : List Cond := .code yX4_setBats cX4_setBats 4 (some .int) :: ([.fieldLink RX4 12 "EchoCave" "cave" "LEchoCave$Cave;", .methodLink RX4 67 yX0_hasChamber, .instanceMethod yX0_hasChamber, .selects RX0 yX0_hasChamber yX0_hasChamber, .initialized RX0, .code yX0_hasChamber cX0_hasChamber 2 (some .boolean), .fieldLink RX0 50 "EchoCave$Cave" "chambers" "I", .static yX4_isWithin, .initialized RX4, .code yX4_isWithin cX4_isWithin 3 (some .boolean), .methodLink RX4 71 yX4_requireIndex, .static yX4_requireIndex, .code yX4_requireIndex cX4_requireIndex 1 none, .classLink RX4 176 "java/lang/IndexOutOfBoundsException", .initialized "java/lang/IndexOutOfBoundsException", .methodLink RX4 45 yX4_isWithin, .methodLink RX4 49 yX4_requireArgument, .static yX4_requireArgument, .code yX4_requireArgument cX4_requireArgument 1 none, .classLink RX4 181 "java/lang/IllegalArgumentException", .initialized "java/lang/IllegalArgumentException"] ++ wsX40 ++ wsX00 ++ (vx_atS RX4 180 "java/lang/IndexOutOfBoundsException" ["java/lang/RuntimeException", "java/lang/Exception"]).filter goodWord ++ (vx_atS RX4 185 "java/lang/IllegalArgumentException" ["java/lang/RuntimeException", "java/lang/Exception"]).filter goodWord)
def wsX4_setClapper_r1 : List Cond := [Cond.fieldLink RX4 12 "EchoCave" "cave" "LEchoCave$Cave;", Cond.methodLink RX4 67 yX0_hasChamber, Cond.instanceMethod yX0_hasChamber, Cond.selects RX0 yX0_hasChamber yX0_hasChamber, Cond.initialized RX0, Cond.code yX0_hasChamber cX0_hasChamber 2 (some .boolean), Cond.fieldLink RX0 50 "EchoCave$Cave" "chambers" "I", Cond.static yX4_isWithin, Cond.initialized RX4, Cond.code yX4_isWithin cX4_isWithin 3 (some .boolean), Cond.methodLink RX4 71 yX4_requireIndex, Cond.static yX4_requireIndex, Cond.code yX4_requireIndex cX4_requireIndex 1 none, Cond.classLink RX4 176 "java/lang/IndexOutOfBoundsException", Cond.initialized "java/lang/IndexOutOfBoundsException", Cond.methodLink RX4 49 yX4_requireArgument, Cond.static yX4_requireArgument, Cond.code yX4_requireArgument cX4_requireArgument 1 none, Cond.classLink RX4 181 "java/lang/IllegalArgumentException", Cond.initialized "java/lang/IllegalArgumentException", Cond.methodLink RX4 45 yX4_isWithin, Cond.methodLink RX4 93 yX0_putClapper, Cond.instanceMethod yX0_putClapper, Cond.selects RX0 yX0_putClapper yX0_putClapper]
def wsX4_setClapper_r2 : List Cond := [Cond.code yX0_putClapper cX0_putClapper 4 none, Cond.fieldLink RX0 21 "EchoCave$Cave" "syllable" "[I", Cond.fieldLink RX0 24 "EchoCave$Cave" "delay" "[I"]
def wsX4_setClapper : List Cond := .code yX4_setClapper cX4_setClapper 5 (some .int) :: ((wsX4_setClapper_r1 ++ wsX4_setClapper_r2) ++ wsX40 ++ wsX00 ++ (vx_atS RX4 180 "java/lang/IndexOutOfBoundsException" ["java/lang/RuntimeException", "java/lang/Exception"]).filter goodWord ++ (vx_atS RX4 185 "java/lang/IllegalArgumentException" ["java/lang/RuntimeException", "java/lang/Exception"]).filter goodWord)
def wsX4_setEar : List Cond := .code yX4_setEar cX4_setEar 3 (some .int) :: ([.fieldLink RX4 35 "EchoCave" "ear" "I", .methodLink RX4 45 yX4_isWithin, .static yX4_isWithin, .initialized RX4, .code yX4_isWithin cX4_isWithin 3 (some .boolean), .methodLink RX4 49 yX4_requireArgument, .static yX4_requireArgument, .code yX4_requireArgument cX4_requireArgument 1 none, .classLink RX4 181 "java/lang/IllegalArgumentException", .initialized "java/lang/IllegalArgumentException"] ++ wsX40 ++ (vx_atS RX4 185 "java/lang/IllegalArgumentException" ["java/lang/RuntimeException", "java/lang/Exception"]).filter goodWord)
def wsX4_chamber_r1 : List Cond := [Cond.fieldLink RX4 12 "EchoCave" "cave" "LEchoCave$Cave;", Cond.methodLink RX4 67 yX0_hasChamber, Cond.instanceMethod yX0_hasChamber, Cond.selects RX0 yX0_hasChamber yX0_hasChamber, Cond.initialized RX0, Cond.code yX0_hasChamber cX0_hasChamber 2 (some .boolean), Cond.fieldLink RX0 50 "EchoCave$Cave" "chambers" "I", Cond.static yX4_isWithin, Cond.initialized RX4, Cond.code yX4_isWithin cX4_isWithin 3 (some .boolean), Cond.methodLink RX4 71 yX4_requireIndex, Cond.static yX4_requireIndex, Cond.code yX4_requireIndex cX4_requireIndex 1 none, Cond.classLink RX4 176 "java/lang/IndexOutOfBoundsException", Cond.initialized "java/lang/IndexOutOfBoundsException", Cond.methodLink RX4 45 yX4_isWithin, Cond.methodLink RX4 97 yX0_chamberFact, Cond.instanceMethod yX0_chamberFact, Cond.selects RX0 yX0_chamberFact yX0_chamberFact, Cond.code yX0_chamberFact cX0_chamberFact 3 (some .int), Cond.fieldLink RX0 9 "EchoCave$Cave" "wall" "[I", Cond.fieldLink RX0 15 "EchoCave$Cave" "height" "[I", Cond.fieldLink RX0 18 "EchoCave$Cave" "bats" "[I", Cond.fieldLink RX0 21 "EchoCave$Cave" "syllable" "[I"]
def wsX4_chamber_r2 : List Cond := [Cond.fieldLink RX0 24 "EchoCave$Cave" "delay" "[I", Cond.fieldLink RX0 27 "EchoCave$Cave" "doors" "[I", Cond.methodLink RX0 72 yX0_openDoors, Cond.instanceMethod yX0_openDoors, Cond.selects RX0 yX0_openDoors yX0_openDoors, Cond.code yX0_openDoors cX0_openDoors 4 (some .int), Cond.fieldLink RX0 32 "EchoCave$Cave" "passageBehind" "[[I", Cond.methodLink RX0 68 yX0_isOpen, Cond.instanceMethod yX0_isOpen, Cond.selects RX0 yX0_isOpen yX0_isOpen, Cond.code yX0_isOpen cX0_isOpen 2 (some .boolean), Cond.fieldLink RX0 35 "EchoCave$Cave" "from" "[I", Cond.fieldLink RX0 57 "EchoCave$Cave" "water" "I", Cond.fieldLink RX0 38 "EchoCave$Cave" "to" "[I"]
def wsX4_chamber : List Cond := .code yX4_chamber cX4_chamber 3 (some .int) :: ((wsX4_chamber_r1 ++ wsX4_chamber_r2) ++ wsX40 ++ wsX00 ++ (vx_atS RX4 180 "java/lang/IndexOutOfBoundsException" ["java/lang/RuntimeException", "java/lang/Exception"]).filter goodWord)
def wsX4_passage_r1 : List Cond := [Cond.fieldLink RX4 12 "EchoCave" "cave" "LEchoCave$Cave;", Cond.methodLink RX4 101 yX0_hasPassage, Cond.instanceMethod yX0_hasPassage, Cond.selects RX0 yX0_hasPassage yX0_hasPassage, Cond.initialized RX0, Cond.code yX0_hasPassage cX0_hasPassage 2 (some .boolean), Cond.fieldLink RX0 54 "EchoCave$Cave" "passages" "I", Cond.static yX4_isWithin, Cond.initialized RX4, Cond.code yX4_isWithin cX4_isWithin 3 (some .boolean), Cond.methodLink RX4 71 yX4_requireIndex, Cond.static yX4_requireIndex, Cond.code yX4_requireIndex cX4_requireIndex 1 none, Cond.classLink RX4 176 "java/lang/IndexOutOfBoundsException", Cond.initialized "java/lang/IndexOutOfBoundsException", Cond.methodLink RX4 45 yX4_isWithin, Cond.methodLink RX4 104 yX0_passageFact, Cond.instanceMethod yX0_passageFact, Cond.selects RX0 yX0_passageFact yX0_passageFact, Cond.code yX0_passageFact cX0_passageFact 3 (some .int), Cond.fieldLink RX0 35 "EchoCave$Cave" "from" "[I", Cond.fieldLink RX0 38 "EchoCave$Cave" "to" "[I", Cond.fieldLink RX0 41 "EchoCave$Cave" "length" "[I", Cond.fieldLink RX0 44 "EchoCave$Cave" "narrow" "[I"]
def wsX4_passage_r2 : List Cond := [Cond.methodLink RX0 68 yX0_isOpen, Cond.instanceMethod yX0_isOpen, Cond.selects RX0 yX0_isOpen yX0_isOpen, Cond.code yX0_isOpen cX0_isOpen 2 (some .boolean), Cond.fieldLink RX0 15 "EchoCave$Cave" "height" "[I", Cond.fieldLink RX0 57 "EchoCave$Cave" "water" "I"]
def wsX4_passage : List Cond := .code yX4_passage cX4_passage 3 (some .int) :: ((wsX4_passage_r1 ++ wsX4_passage_r2) ++ wsX40 ++ wsX00 ++ (vx_atS RX4 180 "java/lang/IndexOutOfBoundsException" ["java/lang/RuntimeException", "java/lang/Exception"]).filter goodWord)
def wsX4_isWord : List Cond := .code yX4_isWord cX4_isWord 2 (some .boolean) :: ([.constant RX4 175 (999999), .methodLink RX4 45 yX4_isWithin, .static yX4_isWithin, .initialized RX4, .code yX4_isWithin cX4_isWithin 3 (some .boolean)])
def wsX4_requireWordAndBeat : List Cond := .code yX4_requireWordAndBeat cX4_requireWordAndBeat 2 none :: ([.methodLink RX4 151 yX4_isWord, .static yX4_isWord, .initialized RX4, .code yX4_isWord cX4_isWord 2 (some .boolean), .constant RX4 175 (999999), .methodLink RX4 45 yX4_isWithin, .static yX4_isWithin, .code yX4_isWithin cX4_isWithin 3 (some .boolean), .methodLink RX4 49 yX4_requireArgument, .static yX4_requireArgument, .code yX4_requireArgument cX4_requireArgument 1 none, .classLink RX4 181 "java/lang/IllegalArgumentException", .initialized "java/lang/IllegalArgumentException"] ++ (vx_atS RX4 185 "java/lang/IllegalArgumentException" ["java/lang/RuntimeException", "java/lang/Exception"]).filter goodWord)
def wsX4_say_r1 : List Cond := [Cond.fieldLink RX4 21 "EchoCave" "sound" "LEchoCave$Sound;", Cond.fieldLink RX4 35 "EchoCave" "ear" "I", Cond.fieldLink RX4 28 "EchoCave" "latest" "LEchoCave$Echo;", Cond.fieldLink RX4 39 "EchoCave" "wordsSaid" "I", Cond.fieldLink RX4 42 "EchoCave" "latestWord" "I", Cond.methodLink RX4 107 yX4_requireWordAndBeat, Cond.static yX4_requireWordAndBeat, Cond.initialized RX4, Cond.code yX4_requireWordAndBeat cX4_requireWordAndBeat 2 none, Cond.methodLink RX4 151 yX4_isWord, Cond.static yX4_isWord, Cond.code yX4_isWord cX4_isWord 2 (some .boolean), Cond.constant RX4 175 (999999), Cond.methodLink RX4 45 yX4_isWithin, Cond.static yX4_isWithin, Cond.code yX4_isWithin cX4_isWithin 3 (some .boolean), Cond.methodLink RX4 49 yX4_requireArgument, Cond.static yX4_requireArgument, Cond.code yX4_requireArgument cX4_requireArgument 1 none, Cond.classLink RX4 181 "java/lang/IllegalArgumentException", Cond.initialized "java/lang/IllegalArgumentException", Cond.methodLink RX4 111 yX3_runThrough, Cond.instanceMethod yX3_runThrough, Cond.selects RX3 yX3_runThrough yX3_runThrough]
def wsX4_say_r2 : List Cond := [Cond.initialized RX3, Cond.code yX3_runThrough cX3_runThrough 7 none, Cond.fieldLink RX3 18 "EchoCave$Sound" "comings" "LEchoCave$Comings;", Cond.static yX4_placesOf, Cond.code yX4_placesOf cX4_placesOf 3 (some .int), Cond.methodLink RX3 44 yX2_begin, Cond.instanceMethod yX2_begin, Cond.selects RX2 yX2_begin yX2_begin, Cond.initialized RX2, Cond.code yX2_begin cX2_begin 3 none, Cond.fieldLink RX2 18 "EchoCave$Echo" "places" "I", Cond.fieldLink RX2 22 "EchoCave$Echo" "ear" "I", Cond.fieldLink RX2 25 "EchoCave$Echo" "kept" "I", Cond.fieldLink RX2 28 "EchoCave$Echo" "counted" "I", Cond.fieldLink RX2 31 "EchoCave$Echo" "placesInOrder" "I", Cond.fieldLink RX2 34 "EchoCave$Echo" "lastTime" "I", Cond.fieldLink RX2 15 "EchoCave$Echo" "firstTime" "[I", Cond.methodLink RX2 37 yJ7_fill_53178, Cond.static yJ7_fill_53178, Cond.initialized RJ7, Cond.code yJ7_fill_53178 cJ7_fill_53178 4 none, Cond.methodLink RX3 50 yX3_begin, Cond.instanceMethod yX3_begin, Cond.selects RX3 yX3_begin yX3_begin]
def wsX4_say_r3 : List Cond := [Cond.code yX3_begin cX3_begin 6 none, Cond.fieldLink RX3 33 "EchoCave$Sound" "runs" "I", Cond.fieldLink RX3 37 "EchoCave$Sound" "clappersSetOff" "I", Cond.methodLink RX3 65 yX1_clear, Cond.instanceMethod yX1_clear, Cond.selects RX1 yX1_clear yX1_clear, Cond.initialized RX1, Cond.code yX1_clear cX1_clear 1 none, Cond.fieldLink RX1 15 "EchoCave$Comings" "size" "I", Cond.methodLink RX3 68 yX3_startRun, Cond.instanceMethod yX3_startRun, Cond.selects RX3 yX3_startRun yX3_startRun, Cond.code yX3_startRun cX3_startRun 6 none, Cond.fieldLink RX3 22 "EchoCave$Sound" "syllable" "[I", Cond.fieldLink RX3 26 "EchoCave$Sound" "place" "[I", Cond.fieldLink RX3 29 "EchoCave$Sound" "passagesUsed" "[J", Cond.methodLink RX3 72 yX1_pack, Cond.static yX1_pack, Cond.code yX1_pack cX1_pack 5 (some .int), Cond.methodLink RX3 76 yX1_put, Cond.instanceMethod yX1_put, Cond.selects RX1 yX1_put yX1_put, Cond.code yX1_put cX1_put 3 none, Cond.fieldLink RX1 11 "EchoCave$Comings" "heap" "[I"]
def wsX4_say_r4 : List Cond := [Cond.methodLink RX3 53 yX1_isEmpty, Cond.instanceMethod yX1_isEmpty, Cond.selects RX1 yX1_isEmpty yX1_isEmpty, Cond.code yX1_isEmpty cX1_isEmpty 1 (some .boolean), Cond.methodLink RX3 57 yX1_takeNext, Cond.instanceMethod yX1_takeNext, Cond.selects RX1 yX1_takeNext yX1_takeNext, Cond.code yX1_takeNext cX1_takeNext 2 (some .int), Cond.methodLink RX1 19 yX1_sink, Cond.instanceMethod yX1_sink, Cond.selects RX1 yX1_sink yX1_sink, Cond.code yX1_sink cX1_sink 4 none, Cond.methodLink RX3 61 yX3_come, Cond.instanceMethod yX3_come, Cond.selects RX3 yX3_come yX3_come, Cond.code yX3_come cX3_come 8 none, Cond.fieldLink RX3 9 "EchoCave$Sound" "cave" "LEchoCave$Cave;", Cond.methodLink RX3 80 yX1_timeOf, Cond.static yX1_timeOf, Cond.code yX1_timeOf cX1_timeOf 1 (some .int), Cond.methodLink RX3 83 yX1_chamberOf, Cond.static yX1_chamberOf, Cond.code yX1_chamberOf cX1_chamberOf 1 (some .int), Cond.methodLink RX3 86 yX1_runOf]
def wsX4_say_r5 : List Cond := [Cond.static yX1_runOf, Cond.code yX1_runOf cX1_runOf 1 (some .int), Cond.methodLink RX3 89 yX1_passageOf, Cond.static yX1_passageOf, Cond.code yX1_passageOf cX1_passageOf 1 (some .int), Cond.methodLink RX3 92 yX1_strengthOf, Cond.static yX1_strengthOf, Cond.code yX1_strengthOf cX1_strengthOf 1 (some .int), Cond.methodLink RX3 95 yX0_hasChamber, Cond.instanceMethod yX0_hasChamber, Cond.selects RX0 yX0_hasChamber yX0_hasChamber, Cond.initialized RX0, Cond.code yX0_hasChamber cX0_hasChamber 2 (some .boolean), Cond.fieldLink RX0 50 "EchoCave$Cave" "chambers" "I", Cond.methodLink RX3 104 yX2_hear, Cond.instanceMethod yX2_hear, Cond.selects RX2 yX2_hear yX2_hear, Cond.code yX2_hear cX2_hear 6 none, Cond.fieldLink RX2 9 "EchoCave$Echo" "facts" "[I", Cond.methodLink RX2 43 yX2_letCount, Cond.instanceMethod yX2_letCount, Cond.selects RX2 yX2_letCount yX2_letCount, Cond.code yX2_letCount cX2_letCount 3 none, Cond.methodLink RX3 108 yX0_drowns]
def wsX4_say_r6 : List Cond := [Cond.instanceMethod yX0_drowns, Cond.selects RX0 yX0_drowns yX0_drowns, Cond.code yX0_drowns cX0_drowns 3 (some .boolean), Cond.fieldLink RX0 18 "EchoCave$Cave" "bats" "[I", Cond.methodLink RX3 112 yX3_setOffClapper, Cond.instanceMethod yX3_setOffClapper, Cond.selects RX3 yX3_setOffClapper yX3_setOffClapper, Cond.code yX3_setOffClapper cX3_setOffClapper 6 none, Cond.methodLink RX3 115 yX3_goOn, Cond.instanceMethod yX3_goOn, Cond.selects RX3 yX3_goOn yX3_goOn, Cond.code yX3_goOn cX3_goOn 8 none, Cond.methodLink RX3 136 yX0_isOpen, Cond.instanceMethod yX0_isOpen, Cond.selects RX0 yX0_isOpen yX0_isOpen, Cond.code yX0_isOpen cX0_isOpen 2 (some .boolean), Cond.fieldLink RX0 15 "EchoCave$Cave" "height" "[I", Cond.fieldLink RX0 35 "EchoCave$Cave" "from" "[I", Cond.fieldLink RX0 57 "EchoCave$Cave" "water" "I", Cond.fieldLink RX0 38 "EchoCave$Cave" "to" "[I", Cond.methodLink RX3 122 yX3_goInto, Cond.instanceMethod yX3_goInto, Cond.selects RX3 yX3_goInto yX3_goInto, Cond.code yX3_goInto cX3_goInto 10 none]
def wsX4_say_r7 : List Cond := [Cond.methodLink RX3 145 yX0_otherEnd, Cond.instanceMethod yX0_otherEnd, Cond.selects RX0 yX0_otherEnd yX0_otherEnd, Cond.code yX0_otherEnd cX0_otherEnd 3 (some .int), Cond.methodLink RX3 148 yX0_strengthBehind, Cond.instanceMethod yX0_strengthBehind, Cond.selects RX0 yX0_strengthBehind yX0_strengthBehind, Cond.code yX0_strengthBehind cX0_strengthBehind 3 (some .int), Cond.fieldLink RX0 44 "EchoCave$Cave" "narrow" "[I", Cond.methodLink RX3 118 yX0_strengthFromWall, Cond.instanceMethod yX0_strengthFromWall, Cond.selects RX0 yX0_strengthFromWall yX0_strengthFromWall, Cond.code yX0_strengthFromWall cX0_strengthFromWall 3 (some .int), Cond.fieldLink RX0 9 "EchoCave$Cave" "wall" "[I"]
def wsX4_say : List Cond := .code yX4_say cX4_say 3 (some .int) :: ((wsX4_say_r1 ++ (wsX4_say_r2 ++ (wsX4_say_r3 ++ (wsX4_say_r4 ++ (wsX4_say_r5 ++ (wsX4_say_r6 ++ wsX4_say_r7)))))) ++ wsX40 ++ wsX20 ++ wsX30 ++ wsX10 ++ wsX00 ++ (vx_atS RX4 185 "java/lang/IllegalArgumentException" ["java/lang/RuntimeException", "java/lang/Exception"]).filter goodWord)
def wsX4_heard : List Cond := .code yX4_heard cX4_heard 3 (some .int) :: ([.fieldLink RX4 28 "EchoCave" "latest" "LEchoCave$Echo;", .methodLink RX4 45 yX4_isWithin, .static yX4_isWithin, .initialized RX4, .code yX4_isWithin cX4_isWithin 3 (some .boolean), .methodLink RX4 71 yX4_requireIndex, .static yX4_requireIndex, .code yX4_requireIndex cX4_requireIndex 1 none, .classLink RX4 176 "java/lang/IndexOutOfBoundsException", .initialized "java/lang/IndexOutOfBoundsException", .methodLink RX4 121 yX2_heardFact, .instanceMethod yX2_heardFact, .selects RX2 yX2_heardFact yX2_heardFact, .initialized RX2, .code yX2_heardFact cX2_heardFact 3 (some .int), .fieldLink RX2 9 "EchoCave$Echo" "facts" "[I"] ++ wsX40 ++ wsX20 ++ (vx_atS RX4 180 "java/lang/IndexOutOfBoundsException" ["java/lang/RuntimeException", "java/lang/Exception"]).filter goodWord)
def wsX4_inOrder : List Cond := .code yX4_inOrder cX4_inOrder 1 (some .boolean) :: ([.fieldLink RX4 28 "EchoCave" "latest" "LEchoCave$Echo;", .methodLink RX4 124 yX2_cameInOrder, .instanceMethod yX2_cameInOrder, .selects RX2 yX2_cameInOrder yX2_cameInOrder, .initialized RX2, .code yX2_cameInOrder cX2_cameInOrder 1 (some .boolean), .fieldLink RX2 18 "EchoCave$Echo" "places" "I", .fieldLink RX2 31 "EchoCave$Echo" "placesInOrder" "I"] ++ wsX40 ++ wsX20)
def wsX4_first : List Cond := .code yX4_first cX4_first 2 (some .int) :: ([.fieldLink RX4 28 "EchoCave" "latest" "LEchoCave$Echo;", .methodLink RX4 45 yX4_isWithin, .static yX4_isWithin, .initialized RX4, .code yX4_isWithin cX4_isWithin 3 (some .boolean), .methodLink RX4 71 yX4_requireIndex, .static yX4_requireIndex, .code yX4_requireIndex cX4_requireIndex 1 none, .classLink RX4 176 "java/lang/IndexOutOfBoundsException", .initialized "java/lang/IndexOutOfBoundsException"] ++ wsX40 ++ wsX20 ++ (vx_atS RX4 180 "java/lang/IndexOutOfBoundsException" ["java/lang/RuntimeException", "java/lang/Exception"]).filter goodWord)
def wsX4_countFact_r1 : List Cond := [Cond.fieldLink RX4 12 "EchoCave" "cave" "LEchoCave$Cave;", Cond.fieldLink RX4 35 "EchoCave" "ear" "I", Cond.fieldLink RX4 39 "EchoCave" "wordsSaid" "I", Cond.fieldLink RX4 42 "EchoCave" "latestWord" "I", Cond.fieldLink RX4 28 "EchoCave" "latest" "LEchoCave$Echo;", Cond.methodLink RX4 168 yX0_openPassages, Cond.instanceMethod yX0_openPassages, Cond.selects RX0 yX0_openPassages yX0_openPassages, Cond.initialized RX0, Cond.code yX0_openPassages cX0_openPassages 3 (some .int), Cond.fieldLink RX0 54 "EchoCave$Cave" "passages" "I", Cond.methodLink RX0 68 yX0_isOpen, Cond.instanceMethod yX0_isOpen, Cond.selects RX0 yX0_isOpen yX0_isOpen, Cond.code yX0_isOpen cX0_isOpen 2 (some .boolean), Cond.fieldLink RX0 15 "EchoCave$Cave" "height" "[I", Cond.fieldLink RX0 35 "EchoCave$Cave" "from" "[I", Cond.fieldLink RX0 57 "EchoCave$Cave" "water" "I", Cond.fieldLink RX0 38 "EchoCave$Cave" "to" "[I", Cond.methodLink RX4 172 yX0_clappers, Cond.instanceMethod yX0_clappers, Cond.selects RX0 yX0_clappers yX0_clappers, Cond.code yX0_clappers cX0_clappers 3 (some .int), Cond.fieldLink RX0 50 "EchoCave$Cave" "chambers" "I"]
def wsX4_countFact_r2 : List Cond := [Cond.fieldLink RX0 21 "EchoCave$Cave" "syllable" "[I"]
def wsX4_countFact : List Cond := .code yX4_countFact cX4_countFact 2 (some .int) :: ((wsX4_countFact_r1 ++ wsX4_countFact_r2) ++ wsX40 ++ wsX00 ++ wsX20)
def wsX4_count_r1 : List Cond := [Cond.methodLink RX4 45 yX4_isWithin, Cond.static yX4_isWithin, Cond.initialized RX4, Cond.code yX4_isWithin cX4_isWithin 3 (some .boolean), Cond.methodLink RX4 71 yX4_requireIndex, Cond.static yX4_requireIndex, Cond.code yX4_requireIndex cX4_requireIndex 1 none, Cond.classLink RX4 176 "java/lang/IndexOutOfBoundsException", Cond.initialized "java/lang/IndexOutOfBoundsException", Cond.methodLink RX4 134 yX4_countFact, Cond.instanceMethod yX4_countFact, Cond.selects RX4 yX4_countFact yX4_countFact, Cond.code yX4_countFact cX4_countFact 2 (some .int), Cond.fieldLink RX4 12 "EchoCave" "cave" "LEchoCave$Cave;", Cond.fieldLink RX4 35 "EchoCave" "ear" "I", Cond.fieldLink RX4 39 "EchoCave" "wordsSaid" "I", Cond.fieldLink RX4 42 "EchoCave" "latestWord" "I", Cond.fieldLink RX4 28 "EchoCave" "latest" "LEchoCave$Echo;", Cond.methodLink RX4 168 yX0_openPassages, Cond.instanceMethod yX0_openPassages, Cond.selects RX0 yX0_openPassages yX0_openPassages, Cond.initialized RX0, Cond.code yX0_openPassages cX0_openPassages 3 (some .int), Cond.fieldLink RX0 54 "EchoCave$Cave" "passages" "I"]
def wsX4_count_r2 : List Cond := [Cond.methodLink RX0 68 yX0_isOpen, Cond.instanceMethod yX0_isOpen, Cond.selects RX0 yX0_isOpen yX0_isOpen, Cond.code yX0_isOpen cX0_isOpen 2 (some .boolean), Cond.fieldLink RX0 15 "EchoCave$Cave" "height" "[I", Cond.fieldLink RX0 35 "EchoCave$Cave" "from" "[I", Cond.fieldLink RX0 57 "EchoCave$Cave" "water" "I", Cond.fieldLink RX0 38 "EchoCave$Cave" "to" "[I", Cond.methodLink RX4 172 yX0_clappers, Cond.instanceMethod yX0_clappers, Cond.selects RX0 yX0_clappers yX0_clappers, Cond.code yX0_clappers cX0_clappers 3 (some .int), Cond.fieldLink RX0 50 "EchoCave$Cave" "chambers" "I", Cond.fieldLink RX0 21 "EchoCave$Cave" "syllable" "[I"]
def wsX4_count : List Cond := .code yX4_count cX4_count 2 (some .int) :: ((wsX4_count_r1 ++ wsX4_count_r2) ++ wsX40 ++ wsX00 ++ wsX20 ++ (vx_atS RX4 180 "java/lang/IndexOutOfBoundsException" ["java/lang/RuntimeException", "java/lang/Exception"]).filter goodWord)
def wsX4_would_r1 : List Cond := [Cond.fieldLink RX4 21 "EchoCave" "sound" "LEchoCave$Sound;", Cond.fieldLink RX4 35 "EchoCave" "ear" "I", Cond.fieldLink RX4 32 "EchoCave" "trial" "LEchoCave$Echo;", Cond.methodLink RX4 107 yX4_requireWordAndBeat, Cond.static yX4_requireWordAndBeat, Cond.initialized RX4, Cond.code yX4_requireWordAndBeat cX4_requireWordAndBeat 2 none, Cond.methodLink RX4 151 yX4_isWord, Cond.static yX4_isWord, Cond.code yX4_isWord cX4_isWord 2 (some .boolean), Cond.constant RX4 175 (999999), Cond.methodLink RX4 45 yX4_isWithin, Cond.static yX4_isWithin, Cond.code yX4_isWithin cX4_isWithin 3 (some .boolean), Cond.methodLink RX4 49 yX4_requireArgument, Cond.static yX4_requireArgument, Cond.code yX4_requireArgument cX4_requireArgument 1 none, Cond.classLink RX4 181 "java/lang/IllegalArgumentException", Cond.initialized "java/lang/IllegalArgumentException", Cond.methodLink RX4 71 yX4_requireIndex, Cond.static yX4_requireIndex, Cond.code yX4_requireIndex cX4_requireIndex 1 none, Cond.classLink RX4 176 "java/lang/IndexOutOfBoundsException", Cond.initialized "java/lang/IndexOutOfBoundsException"]
def wsX4_would_r2 : List Cond := [Cond.methodLink RX4 111 yX3_runThrough, Cond.instanceMethod yX3_runThrough, Cond.selects RX3 yX3_runThrough yX3_runThrough, Cond.initialized RX3, Cond.code yX3_runThrough cX3_runThrough 7 none, Cond.fieldLink RX3 18 "EchoCave$Sound" "comings" "LEchoCave$Comings;", Cond.static yX4_placesOf, Cond.code yX4_placesOf cX4_placesOf 3 (some .int), Cond.methodLink RX3 44 yX2_begin, Cond.instanceMethod yX2_begin, Cond.selects RX2 yX2_begin yX2_begin, Cond.initialized RX2, Cond.code yX2_begin cX2_begin 3 none, Cond.fieldLink RX2 18 "EchoCave$Echo" "places" "I", Cond.fieldLink RX2 22 "EchoCave$Echo" "ear" "I", Cond.fieldLink RX2 25 "EchoCave$Echo" "kept" "I", Cond.fieldLink RX2 28 "EchoCave$Echo" "counted" "I", Cond.fieldLink RX2 31 "EchoCave$Echo" "placesInOrder" "I", Cond.fieldLink RX2 34 "EchoCave$Echo" "lastTime" "I", Cond.fieldLink RX2 15 "EchoCave$Echo" "firstTime" "[I", Cond.methodLink RX2 37 yJ7_fill_53178, Cond.static yJ7_fill_53178, Cond.initialized RJ7, Cond.code yJ7_fill_53178 cJ7_fill_53178 4 none]
def wsX4_would_r3 : List Cond := [Cond.methodLink RX3 50 yX3_begin, Cond.instanceMethod yX3_begin, Cond.selects RX3 yX3_begin yX3_begin, Cond.code yX3_begin cX3_begin 6 none, Cond.fieldLink RX3 33 "EchoCave$Sound" "runs" "I", Cond.fieldLink RX3 37 "EchoCave$Sound" "clappersSetOff" "I", Cond.methodLink RX3 65 yX1_clear, Cond.instanceMethod yX1_clear, Cond.selects RX1 yX1_clear yX1_clear, Cond.initialized RX1, Cond.code yX1_clear cX1_clear 1 none, Cond.fieldLink RX1 15 "EchoCave$Comings" "size" "I", Cond.methodLink RX3 68 yX3_startRun, Cond.instanceMethod yX3_startRun, Cond.selects RX3 yX3_startRun yX3_startRun, Cond.code yX3_startRun cX3_startRun 6 none, Cond.fieldLink RX3 22 "EchoCave$Sound" "syllable" "[I", Cond.fieldLink RX3 26 "EchoCave$Sound" "place" "[I", Cond.fieldLink RX3 29 "EchoCave$Sound" "passagesUsed" "[J", Cond.methodLink RX3 72 yX1_pack, Cond.static yX1_pack, Cond.code yX1_pack cX1_pack 5 (some .int), Cond.methodLink RX3 76 yX1_put, Cond.instanceMethod yX1_put]
def wsX4_would_r4 : List Cond := [Cond.selects RX1 yX1_put yX1_put, Cond.code yX1_put cX1_put 3 none, Cond.fieldLink RX1 11 "EchoCave$Comings" "heap" "[I", Cond.methodLink RX3 53 yX1_isEmpty, Cond.instanceMethod yX1_isEmpty, Cond.selects RX1 yX1_isEmpty yX1_isEmpty, Cond.code yX1_isEmpty cX1_isEmpty 1 (some .boolean), Cond.methodLink RX3 57 yX1_takeNext, Cond.instanceMethod yX1_takeNext, Cond.selects RX1 yX1_takeNext yX1_takeNext, Cond.code yX1_takeNext cX1_takeNext 2 (some .int), Cond.methodLink RX1 19 yX1_sink, Cond.instanceMethod yX1_sink, Cond.selects RX1 yX1_sink yX1_sink, Cond.code yX1_sink cX1_sink 4 none, Cond.methodLink RX3 61 yX3_come, Cond.instanceMethod yX3_come, Cond.selects RX3 yX3_come yX3_come, Cond.code yX3_come cX3_come 8 none, Cond.fieldLink RX3 9 "EchoCave$Sound" "cave" "LEchoCave$Cave;", Cond.methodLink RX3 80 yX1_timeOf, Cond.static yX1_timeOf, Cond.code yX1_timeOf cX1_timeOf 1 (some .int), Cond.methodLink RX3 83 yX1_chamberOf]
def wsX4_would_r5 : List Cond := [Cond.static yX1_chamberOf, Cond.code yX1_chamberOf cX1_chamberOf 1 (some .int), Cond.methodLink RX3 86 yX1_runOf, Cond.static yX1_runOf, Cond.code yX1_runOf cX1_runOf 1 (some .int), Cond.methodLink RX3 89 yX1_passageOf, Cond.static yX1_passageOf, Cond.code yX1_passageOf cX1_passageOf 1 (some .int), Cond.methodLink RX3 92 yX1_strengthOf, Cond.static yX1_strengthOf, Cond.code yX1_strengthOf cX1_strengthOf 1 (some .int), Cond.methodLink RX3 95 yX0_hasChamber, Cond.instanceMethod yX0_hasChamber, Cond.selects RX0 yX0_hasChamber yX0_hasChamber, Cond.initialized RX0, Cond.code yX0_hasChamber cX0_hasChamber 2 (some .boolean), Cond.fieldLink RX0 50 "EchoCave$Cave" "chambers" "I", Cond.methodLink RX3 104 yX2_hear, Cond.instanceMethod yX2_hear, Cond.selects RX2 yX2_hear yX2_hear, Cond.code yX2_hear cX2_hear 6 none, Cond.fieldLink RX2 9 "EchoCave$Echo" "facts" "[I", Cond.methodLink RX2 43 yX2_letCount, Cond.instanceMethod yX2_letCount]
def wsX4_would_r6 : List Cond := [Cond.selects RX2 yX2_letCount yX2_letCount, Cond.code yX2_letCount cX2_letCount 3 none, Cond.methodLink RX3 108 yX0_drowns, Cond.instanceMethod yX0_drowns, Cond.selects RX0 yX0_drowns yX0_drowns, Cond.code yX0_drowns cX0_drowns 3 (some .boolean), Cond.fieldLink RX0 18 "EchoCave$Cave" "bats" "[I", Cond.methodLink RX3 112 yX3_setOffClapper, Cond.instanceMethod yX3_setOffClapper, Cond.selects RX3 yX3_setOffClapper yX3_setOffClapper, Cond.code yX3_setOffClapper cX3_setOffClapper 6 none, Cond.methodLink RX3 115 yX3_goOn, Cond.instanceMethod yX3_goOn, Cond.selects RX3 yX3_goOn yX3_goOn, Cond.code yX3_goOn cX3_goOn 8 none, Cond.methodLink RX3 136 yX0_isOpen, Cond.instanceMethod yX0_isOpen, Cond.selects RX0 yX0_isOpen yX0_isOpen, Cond.code yX0_isOpen cX0_isOpen 2 (some .boolean), Cond.fieldLink RX0 15 "EchoCave$Cave" "height" "[I", Cond.fieldLink RX0 35 "EchoCave$Cave" "from" "[I", Cond.fieldLink RX0 57 "EchoCave$Cave" "water" "I", Cond.fieldLink RX0 38 "EchoCave$Cave" "to" "[I", Cond.methodLink RX3 122 yX3_goInto]
def wsX4_would_r7 : List Cond := [Cond.instanceMethod yX3_goInto, Cond.selects RX3 yX3_goInto yX3_goInto, Cond.code yX3_goInto cX3_goInto 10 none, Cond.methodLink RX3 145 yX0_otherEnd, Cond.instanceMethod yX0_otherEnd, Cond.selects RX0 yX0_otherEnd yX0_otherEnd, Cond.code yX0_otherEnd cX0_otherEnd 3 (some .int), Cond.methodLink RX3 148 yX0_strengthBehind, Cond.instanceMethod yX0_strengthBehind, Cond.selects RX0 yX0_strengthBehind yX0_strengthBehind, Cond.code yX0_strengthBehind cX0_strengthBehind 3 (some .int), Cond.fieldLink RX0 44 "EchoCave$Cave" "narrow" "[I", Cond.methodLink RX3 118 yX0_strengthFromWall, Cond.instanceMethod yX0_strengthFromWall, Cond.selects RX0 yX0_strengthFromWall yX0_strengthFromWall, Cond.code yX0_strengthFromWall cX0_strengthFromWall 3 (some .int), Cond.fieldLink RX0 9 "EchoCave$Cave" "wall" "[I", Cond.methodLink RX4 124 yX2_cameInOrder, Cond.instanceMethod yX2_cameInOrder, Cond.selects RX2 yX2_cameInOrder yX2_cameInOrder, Cond.code yX2_cameInOrder cX2_cameInOrder 1 (some .boolean)]
def wsX4_would : List Cond := .code yX4_would cX4_would 4 (some .int) :: ((wsX4_would_r1 ++ (wsX4_would_r2 ++ (wsX4_would_r3 ++ (wsX4_would_r4 ++ (wsX4_would_r5 ++ (wsX4_would_r6 ++ wsX4_would_r7)))))) ++ wsX40 ++ wsX20 ++ wsX30 ++ wsX10 ++ wsX00 ++ (vx_atS RX4 185 "java/lang/IllegalArgumentException" ["java/lang/RuntimeException", "java/lang/Exception"]).filter goodWord ++ (vx_atS RX4 180 "java/lang/IndexOutOfBoundsException" ["java/lang/RuntimeException", "java/lang/Exception"]).filter goodWord)
def wsX4_wouldComeInOrder_r1 : List Cond := [Cond.fieldLink RX4 21 "EchoCave" "sound" "LEchoCave$Sound;", Cond.fieldLink RX4 35 "EchoCave" "ear" "I", Cond.fieldLink RX4 32 "EchoCave" "trial" "LEchoCave$Echo;", Cond.methodLink RX4 111 yX3_runThrough, Cond.instanceMethod yX3_runThrough, Cond.selects RX3 yX3_runThrough yX3_runThrough, Cond.initialized RX3, Cond.code yX3_runThrough cX3_runThrough 7 none, Cond.fieldLink RX3 18 "EchoCave$Sound" "comings" "LEchoCave$Comings;", Cond.static yX4_placesOf, Cond.initialized RX4, Cond.code yX4_placesOf cX4_placesOf 3 (some .int), Cond.methodLink RX3 44 yX2_begin, Cond.instanceMethod yX2_begin, Cond.selects RX2 yX2_begin yX2_begin, Cond.initialized RX2, Cond.code yX2_begin cX2_begin 3 none, Cond.fieldLink RX2 18 "EchoCave$Echo" "places" "I", Cond.fieldLink RX2 22 "EchoCave$Echo" "ear" "I", Cond.fieldLink RX2 25 "EchoCave$Echo" "kept" "I", Cond.fieldLink RX2 28 "EchoCave$Echo" "counted" "I", Cond.fieldLink RX2 31 "EchoCave$Echo" "placesInOrder" "I", Cond.fieldLink RX2 34 "EchoCave$Echo" "lastTime" "I", Cond.fieldLink RX2 15 "EchoCave$Echo" "firstTime" "[I"]
def wsX4_wouldComeInOrder_r2 : List Cond := [Cond.methodLink RX2 37 yJ7_fill_53178, Cond.static yJ7_fill_53178, Cond.initialized RJ7, Cond.code yJ7_fill_53178 cJ7_fill_53178 4 none, Cond.methodLink RX3 50 yX3_begin, Cond.instanceMethod yX3_begin, Cond.selects RX3 yX3_begin yX3_begin, Cond.code yX3_begin cX3_begin 6 none, Cond.fieldLink RX3 33 "EchoCave$Sound" "runs" "I", Cond.fieldLink RX3 37 "EchoCave$Sound" "clappersSetOff" "I", Cond.methodLink RX3 65 yX1_clear, Cond.instanceMethod yX1_clear, Cond.selects RX1 yX1_clear yX1_clear, Cond.initialized RX1, Cond.code yX1_clear cX1_clear 1 none, Cond.fieldLink RX1 15 "EchoCave$Comings" "size" "I", Cond.methodLink RX3 68 yX3_startRun, Cond.instanceMethod yX3_startRun, Cond.selects RX3 yX3_startRun yX3_startRun, Cond.code yX3_startRun cX3_startRun 6 none, Cond.fieldLink RX3 22 "EchoCave$Sound" "syllable" "[I", Cond.fieldLink RX3 26 "EchoCave$Sound" "place" "[I", Cond.fieldLink RX3 29 "EchoCave$Sound" "passagesUsed" "[J", Cond.methodLink RX3 72 yX1_pack]
def wsX4_wouldComeInOrder_r3 : List Cond := [Cond.static yX1_pack, Cond.code yX1_pack cX1_pack 5 (some .int), Cond.methodLink RX3 76 yX1_put, Cond.instanceMethod yX1_put, Cond.selects RX1 yX1_put yX1_put, Cond.code yX1_put cX1_put 3 none, Cond.fieldLink RX1 11 "EchoCave$Comings" "heap" "[I", Cond.methodLink RX3 53 yX1_isEmpty, Cond.instanceMethod yX1_isEmpty, Cond.selects RX1 yX1_isEmpty yX1_isEmpty, Cond.code yX1_isEmpty cX1_isEmpty 1 (some .boolean), Cond.methodLink RX3 57 yX1_takeNext, Cond.instanceMethod yX1_takeNext, Cond.selects RX1 yX1_takeNext yX1_takeNext, Cond.code yX1_takeNext cX1_takeNext 2 (some .int), Cond.methodLink RX1 19 yX1_sink, Cond.instanceMethod yX1_sink, Cond.selects RX1 yX1_sink yX1_sink, Cond.code yX1_sink cX1_sink 4 none, Cond.methodLink RX3 61 yX3_come, Cond.instanceMethod yX3_come, Cond.selects RX3 yX3_come yX3_come, Cond.code yX3_come cX3_come 8 none, Cond.fieldLink RX3 9 "EchoCave$Sound" "cave" "LEchoCave$Cave;"]
def wsX4_wouldComeInOrder_r4 : List Cond := [Cond.methodLink RX3 80 yX1_timeOf, Cond.static yX1_timeOf, Cond.code yX1_timeOf cX1_timeOf 1 (some .int), Cond.methodLink RX3 83 yX1_chamberOf, Cond.static yX1_chamberOf, Cond.code yX1_chamberOf cX1_chamberOf 1 (some .int), Cond.methodLink RX3 86 yX1_runOf, Cond.static yX1_runOf, Cond.code yX1_runOf cX1_runOf 1 (some .int), Cond.methodLink RX3 89 yX1_passageOf, Cond.static yX1_passageOf, Cond.code yX1_passageOf cX1_passageOf 1 (some .int), Cond.methodLink RX3 92 yX1_strengthOf, Cond.static yX1_strengthOf, Cond.code yX1_strengthOf cX1_strengthOf 1 (some .int), Cond.methodLink RX3 95 yX0_hasChamber, Cond.instanceMethod yX0_hasChamber, Cond.selects RX0 yX0_hasChamber yX0_hasChamber, Cond.initialized RX0, Cond.code yX0_hasChamber cX0_hasChamber 2 (some .boolean), Cond.fieldLink RX0 50 "EchoCave$Cave" "chambers" "I", Cond.static yX4_isWithin, Cond.code yX4_isWithin cX4_isWithin 3 (some .boolean), Cond.methodLink RX3 104 yX2_hear]
def wsX4_wouldComeInOrder_r5 : List Cond := [Cond.instanceMethod yX2_hear, Cond.selects RX2 yX2_hear yX2_hear, Cond.code yX2_hear cX2_hear 6 none, Cond.fieldLink RX2 9 "EchoCave$Echo" "facts" "[I", Cond.methodLink RX2 43 yX2_letCount, Cond.instanceMethod yX2_letCount, Cond.selects RX2 yX2_letCount yX2_letCount, Cond.code yX2_letCount cX2_letCount 3 none, Cond.methodLink RX3 108 yX0_drowns, Cond.instanceMethod yX0_drowns, Cond.selects RX0 yX0_drowns yX0_drowns, Cond.code yX0_drowns cX0_drowns 3 (some .boolean), Cond.fieldLink RX0 18 "EchoCave$Cave" "bats" "[I", Cond.methodLink RX3 112 yX3_setOffClapper, Cond.instanceMethod yX3_setOffClapper, Cond.selects RX3 yX3_setOffClapper yX3_setOffClapper, Cond.code yX3_setOffClapper cX3_setOffClapper 6 none, Cond.methodLink RX3 115 yX3_goOn, Cond.instanceMethod yX3_goOn, Cond.selects RX3 yX3_goOn yX3_goOn, Cond.code yX3_goOn cX3_goOn 8 none, Cond.methodLink RX3 136 yX0_isOpen, Cond.instanceMethod yX0_isOpen, Cond.selects RX0 yX0_isOpen yX0_isOpen]
def wsX4_wouldComeInOrder_r6 : List Cond := [Cond.code yX0_isOpen cX0_isOpen 2 (some .boolean), Cond.fieldLink RX0 15 "EchoCave$Cave" "height" "[I", Cond.fieldLink RX0 35 "EchoCave$Cave" "from" "[I", Cond.fieldLink RX0 57 "EchoCave$Cave" "water" "I", Cond.fieldLink RX0 38 "EchoCave$Cave" "to" "[I", Cond.methodLink RX3 122 yX3_goInto, Cond.instanceMethod yX3_goInto, Cond.selects RX3 yX3_goInto yX3_goInto, Cond.code yX3_goInto cX3_goInto 10 none, Cond.methodLink RX3 145 yX0_otherEnd, Cond.instanceMethod yX0_otherEnd, Cond.selects RX0 yX0_otherEnd yX0_otherEnd, Cond.code yX0_otherEnd cX0_otherEnd 3 (some .int), Cond.methodLink RX3 148 yX0_strengthBehind, Cond.instanceMethod yX0_strengthBehind, Cond.selects RX0 yX0_strengthBehind yX0_strengthBehind, Cond.code yX0_strengthBehind cX0_strengthBehind 3 (some .int), Cond.fieldLink RX0 44 "EchoCave$Cave" "narrow" "[I", Cond.methodLink RX3 118 yX0_strengthFromWall, Cond.instanceMethod yX0_strengthFromWall, Cond.selects RX0 yX0_strengthFromWall yX0_strengthFromWall, Cond.code yX0_strengthFromWall cX0_strengthFromWall 3 (some .int), Cond.fieldLink RX0 9 "EchoCave$Cave" "wall" "[I", Cond.methodLink RX4 124 yX2_cameInOrder]
def wsX4_wouldComeInOrder_r7 : List Cond := [Cond.instanceMethod yX2_cameInOrder, Cond.selects RX2 yX2_cameInOrder yX2_cameInOrder, Cond.code yX2_cameInOrder cX2_cameInOrder 1 (some .boolean)]
def wsX4_wouldComeInOrder : List Cond := .code yX4_wouldComeInOrder cX4_wouldComeInOrder 3 (some .boolean) :: ((wsX4_wouldComeInOrder_r1 ++ (wsX4_wouldComeInOrder_r2 ++ (wsX4_wouldComeInOrder_r3 ++ (wsX4_wouldComeInOrder_r4 ++ (wsX4_wouldComeInOrder_r5 ++ (wsX4_wouldComeInOrder_r6 ++ wsX4_wouldComeInOrder_r7)))))) ++ wsX40 ++ wsX30 ++ wsX20 ++ wsX10 ++ wsX00)
def wsX4_advise_r1 : List Cond := [Cond.fieldLink RX4 12 "EchoCave" "cave" "LEchoCave$Cave;", Cond.methodLink RX4 107 yX4_requireWordAndBeat, Cond.static yX4_requireWordAndBeat, Cond.initialized RX4, Cond.code yX4_requireWordAndBeat cX4_requireWordAndBeat 2 none, Cond.methodLink RX4 151 yX4_isWord, Cond.static yX4_isWord, Cond.code yX4_isWord cX4_isWord 2 (some .boolean), Cond.constant RX4 175 (999999), Cond.methodLink RX4 45 yX4_isWithin, Cond.static yX4_isWithin, Cond.code yX4_isWithin cX4_isWithin 3 (some .boolean), Cond.methodLink RX4 49 yX4_requireArgument, Cond.static yX4_requireArgument, Cond.code yX4_requireArgument cX4_requireArgument 1 none, Cond.classLink RX4 181 "java/lang/IllegalArgumentException", Cond.initialized "java/lang/IllegalArgumentException", Cond.methodLink RX4 93 yX0_putClapper, Cond.instanceMethod yX0_putClapper, Cond.selects RX0 yX0_putClapper yX0_putClapper, Cond.initialized RX0, Cond.code yX0_putClapper cX0_putClapper 4 none, Cond.fieldLink RX0 21 "EchoCave$Cave" "syllable" "[I", Cond.fieldLink RX0 24 "EchoCave$Cave" "delay" "[I"]
def wsX4_advise_r2 : List Cond := [Cond.methodLink RX4 147 yX4_wouldComeInOrder, Cond.instanceMethod yX4_wouldComeInOrder, Cond.selects RX4 yX4_wouldComeInOrder yX4_wouldComeInOrder, Cond.code yX4_wouldComeInOrder cX4_wouldComeInOrder 3 (some .boolean), Cond.fieldLink RX4 21 "EchoCave" "sound" "LEchoCave$Sound;", Cond.fieldLink RX4 35 "EchoCave" "ear" "I", Cond.fieldLink RX4 32 "EchoCave" "trial" "LEchoCave$Echo;", Cond.methodLink RX4 111 yX3_runThrough, Cond.instanceMethod yX3_runThrough, Cond.selects RX3 yX3_runThrough yX3_runThrough, Cond.initialized RX3, Cond.code yX3_runThrough cX3_runThrough 7 none, Cond.fieldLink RX3 18 "EchoCave$Sound" "comings" "LEchoCave$Comings;", Cond.static yX4_placesOf, Cond.code yX4_placesOf cX4_placesOf 3 (some .int), Cond.methodLink RX3 44 yX2_begin, Cond.instanceMethod yX2_begin, Cond.selects RX2 yX2_begin yX2_begin, Cond.initialized RX2, Cond.code yX2_begin cX2_begin 3 none, Cond.fieldLink RX2 18 "EchoCave$Echo" "places" "I", Cond.fieldLink RX2 22 "EchoCave$Echo" "ear" "I", Cond.fieldLink RX2 25 "EchoCave$Echo" "kept" "I", Cond.fieldLink RX2 28 "EchoCave$Echo" "counted" "I"]
def wsX4_advise_r3 : List Cond := [Cond.fieldLink RX2 31 "EchoCave$Echo" "placesInOrder" "I", Cond.fieldLink RX2 34 "EchoCave$Echo" "lastTime" "I", Cond.fieldLink RX2 15 "EchoCave$Echo" "firstTime" "[I", Cond.methodLink RX2 37 yJ7_fill_53178, Cond.static yJ7_fill_53178, Cond.initialized RJ7, Cond.code yJ7_fill_53178 cJ7_fill_53178 4 none, Cond.methodLink RX3 50 yX3_begin, Cond.instanceMethod yX3_begin, Cond.selects RX3 yX3_begin yX3_begin, Cond.code yX3_begin cX3_begin 6 none, Cond.fieldLink RX3 33 "EchoCave$Sound" "runs" "I", Cond.fieldLink RX3 37 "EchoCave$Sound" "clappersSetOff" "I", Cond.methodLink RX3 65 yX1_clear, Cond.instanceMethod yX1_clear, Cond.selects RX1 yX1_clear yX1_clear, Cond.initialized RX1, Cond.code yX1_clear cX1_clear 1 none, Cond.fieldLink RX1 15 "EchoCave$Comings" "size" "I", Cond.methodLink RX3 68 yX3_startRun, Cond.instanceMethod yX3_startRun, Cond.selects RX3 yX3_startRun yX3_startRun, Cond.code yX3_startRun cX3_startRun 6 none, Cond.fieldLink RX3 22 "EchoCave$Sound" "syllable" "[I"]
def wsX4_advise_r4 : List Cond := [Cond.fieldLink RX3 26 "EchoCave$Sound" "place" "[I", Cond.fieldLink RX3 29 "EchoCave$Sound" "passagesUsed" "[J", Cond.methodLink RX3 72 yX1_pack, Cond.static yX1_pack, Cond.code yX1_pack cX1_pack 5 (some .int), Cond.methodLink RX3 76 yX1_put, Cond.instanceMethod yX1_put, Cond.selects RX1 yX1_put yX1_put, Cond.code yX1_put cX1_put 3 none, Cond.fieldLink RX1 11 "EchoCave$Comings" "heap" "[I", Cond.methodLink RX3 53 yX1_isEmpty, Cond.instanceMethod yX1_isEmpty, Cond.selects RX1 yX1_isEmpty yX1_isEmpty, Cond.code yX1_isEmpty cX1_isEmpty 1 (some .boolean), Cond.methodLink RX3 57 yX1_takeNext, Cond.instanceMethod yX1_takeNext, Cond.selects RX1 yX1_takeNext yX1_takeNext, Cond.code yX1_takeNext cX1_takeNext 2 (some .int), Cond.methodLink RX1 19 yX1_sink, Cond.instanceMethod yX1_sink, Cond.selects RX1 yX1_sink yX1_sink, Cond.code yX1_sink cX1_sink 4 none, Cond.methodLink RX3 61 yX3_come, Cond.instanceMethod yX3_come]
def wsX4_advise_r5 : List Cond := [Cond.selects RX3 yX3_come yX3_come, Cond.code yX3_come cX3_come 8 none, Cond.fieldLink RX3 9 "EchoCave$Sound" "cave" "LEchoCave$Cave;", Cond.methodLink RX3 80 yX1_timeOf, Cond.static yX1_timeOf, Cond.code yX1_timeOf cX1_timeOf 1 (some .int), Cond.methodLink RX3 83 yX1_chamberOf, Cond.static yX1_chamberOf, Cond.code yX1_chamberOf cX1_chamberOf 1 (some .int), Cond.methodLink RX3 86 yX1_runOf, Cond.static yX1_runOf, Cond.code yX1_runOf cX1_runOf 1 (some .int), Cond.methodLink RX3 89 yX1_passageOf, Cond.static yX1_passageOf, Cond.code yX1_passageOf cX1_passageOf 1 (some .int), Cond.methodLink RX3 92 yX1_strengthOf, Cond.static yX1_strengthOf, Cond.code yX1_strengthOf cX1_strengthOf 1 (some .int), Cond.methodLink RX3 95 yX0_hasChamber, Cond.instanceMethod yX0_hasChamber, Cond.selects RX0 yX0_hasChamber yX0_hasChamber, Cond.code yX0_hasChamber cX0_hasChamber 2 (some .boolean), Cond.fieldLink RX0 50 "EchoCave$Cave" "chambers" "I", Cond.methodLink RX3 104 yX2_hear]
def wsX4_advise_r6 : List Cond := [Cond.instanceMethod yX2_hear, Cond.selects RX2 yX2_hear yX2_hear, Cond.code yX2_hear cX2_hear 6 none, Cond.fieldLink RX2 9 "EchoCave$Echo" "facts" "[I", Cond.methodLink RX2 43 yX2_letCount, Cond.instanceMethod yX2_letCount, Cond.selects RX2 yX2_letCount yX2_letCount, Cond.code yX2_letCount cX2_letCount 3 none, Cond.methodLink RX3 108 yX0_drowns, Cond.instanceMethod yX0_drowns, Cond.selects RX0 yX0_drowns yX0_drowns, Cond.code yX0_drowns cX0_drowns 3 (some .boolean), Cond.fieldLink RX0 18 "EchoCave$Cave" "bats" "[I", Cond.methodLink RX3 112 yX3_setOffClapper, Cond.instanceMethod yX3_setOffClapper, Cond.selects RX3 yX3_setOffClapper yX3_setOffClapper, Cond.code yX3_setOffClapper cX3_setOffClapper 6 none, Cond.methodLink RX3 115 yX3_goOn, Cond.instanceMethod yX3_goOn, Cond.selects RX3 yX3_goOn yX3_goOn, Cond.code yX3_goOn cX3_goOn 8 none, Cond.methodLink RX3 136 yX0_isOpen, Cond.instanceMethod yX0_isOpen, Cond.selects RX0 yX0_isOpen yX0_isOpen]
def wsX4_advise_r7 : List Cond := [Cond.code yX0_isOpen cX0_isOpen 2 (some .boolean), Cond.fieldLink RX0 15 "EchoCave$Cave" "height" "[I", Cond.fieldLink RX0 35 "EchoCave$Cave" "from" "[I", Cond.fieldLink RX0 57 "EchoCave$Cave" "water" "I", Cond.fieldLink RX0 38 "EchoCave$Cave" "to" "[I", Cond.methodLink RX3 122 yX3_goInto, Cond.instanceMethod yX3_goInto, Cond.selects RX3 yX3_goInto yX3_goInto, Cond.code yX3_goInto cX3_goInto 10 none, Cond.methodLink RX3 145 yX0_otherEnd, Cond.instanceMethod yX0_otherEnd, Cond.selects RX0 yX0_otherEnd yX0_otherEnd, Cond.code yX0_otherEnd cX0_otherEnd 3 (some .int), Cond.methodLink RX3 148 yX0_strengthBehind, Cond.instanceMethod yX0_strengthBehind, Cond.selects RX0 yX0_strengthBehind yX0_strengthBehind, Cond.code yX0_strengthBehind cX0_strengthBehind 3 (some .int), Cond.fieldLink RX0 44 "EchoCave$Cave" "narrow" "[I", Cond.methodLink RX3 118 yX0_strengthFromWall, Cond.instanceMethod yX0_strengthFromWall, Cond.selects RX0 yX0_strengthFromWall yX0_strengthFromWall, Cond.code yX0_strengthFromWall cX0_strengthFromWall 3 (some .int), Cond.fieldLink RX0 9 "EchoCave$Cave" "wall" "[I", Cond.methodLink RX4 124 yX2_cameInOrder]
def wsX4_advise_r8 : List Cond := [Cond.instanceMethod yX2_cameInOrder, Cond.selects RX2 yX2_cameInOrder yX2_cameInOrder, Cond.code yX2_cameInOrder cX2_cameInOrder 1 (some .boolean)]
def wsX4_advise : List Cond := .code yX4_advise cX4_advise 9 (some .int) :: ((wsX4_advise_r1 ++ (wsX4_advise_r2 ++ (wsX4_advise_r3 ++ (wsX4_advise_r4 ++ (wsX4_advise_r5 ++ (wsX4_advise_r6 ++ (wsX4_advise_r7 ++ wsX4_advise_r8))))))) ++ wsX40 ++ wsX00 ++ wsX30 ++ wsX20 ++ wsX10 ++ (vx_atS RX4 185 "java/lang/IllegalArgumentException" ["java/lang/RuntimeException", "java/lang/Exception"]).filter goodWord)
def wsX4_longest_r1 : List Cond := [Cond.methodLink RX4 45 yX4_isWithin, Cond.static yX4_isWithin, Cond.initialized RX4, Cond.code yX4_isWithin cX4_isWithin 3 (some .boolean), Cond.methodLink RX4 49 yX4_requireArgument, Cond.static yX4_requireArgument, Cond.code yX4_requireArgument cX4_requireArgument 1 none, Cond.classLink RX4 181 "java/lang/IllegalArgumentException", Cond.initialized "java/lang/IllegalArgumentException", Cond.methodLink RX4 147 yX4_wouldComeInOrder, Cond.instanceMethod yX4_wouldComeInOrder, Cond.selects RX4 yX4_wouldComeInOrder yX4_wouldComeInOrder, Cond.code yX4_wouldComeInOrder cX4_wouldComeInOrder 3 (some .boolean), Cond.fieldLink RX4 21 "EchoCave" "sound" "LEchoCave$Sound;", Cond.fieldLink RX4 35 "EchoCave" "ear" "I", Cond.fieldLink RX4 32 "EchoCave" "trial" "LEchoCave$Echo;", Cond.methodLink RX4 111 yX3_runThrough, Cond.instanceMethod yX3_runThrough, Cond.selects RX3 yX3_runThrough yX3_runThrough, Cond.initialized RX3, Cond.code yX3_runThrough cX3_runThrough 7 none, Cond.fieldLink RX3 18 "EchoCave$Sound" "comings" "LEchoCave$Comings;", Cond.static yX4_placesOf, Cond.code yX4_placesOf cX4_placesOf 3 (some .int)]
def wsX4_longest_r2 : List Cond := [Cond.methodLink RX3 44 yX2_begin, Cond.instanceMethod yX2_begin, Cond.selects RX2 yX2_begin yX2_begin, Cond.initialized RX2, Cond.code yX2_begin cX2_begin 3 none, Cond.fieldLink RX2 18 "EchoCave$Echo" "places" "I", Cond.fieldLink RX2 22 "EchoCave$Echo" "ear" "I", Cond.fieldLink RX2 25 "EchoCave$Echo" "kept" "I", Cond.fieldLink RX2 28 "EchoCave$Echo" "counted" "I", Cond.fieldLink RX2 31 "EchoCave$Echo" "placesInOrder" "I", Cond.fieldLink RX2 34 "EchoCave$Echo" "lastTime" "I", Cond.fieldLink RX2 15 "EchoCave$Echo" "firstTime" "[I", Cond.methodLink RX2 37 yJ7_fill_53178, Cond.static yJ7_fill_53178, Cond.initialized RJ7, Cond.code yJ7_fill_53178 cJ7_fill_53178 4 none, Cond.methodLink RX3 50 yX3_begin, Cond.instanceMethod yX3_begin, Cond.selects RX3 yX3_begin yX3_begin, Cond.code yX3_begin cX3_begin 6 none, Cond.fieldLink RX3 33 "EchoCave$Sound" "runs" "I", Cond.fieldLink RX3 37 "EchoCave$Sound" "clappersSetOff" "I", Cond.methodLink RX3 65 yX1_clear, Cond.instanceMethod yX1_clear]
def wsX4_longest_r3 : List Cond := [Cond.selects RX1 yX1_clear yX1_clear, Cond.initialized RX1, Cond.code yX1_clear cX1_clear 1 none, Cond.fieldLink RX1 15 "EchoCave$Comings" "size" "I", Cond.methodLink RX3 68 yX3_startRun, Cond.instanceMethod yX3_startRun, Cond.selects RX3 yX3_startRun yX3_startRun, Cond.code yX3_startRun cX3_startRun 6 none, Cond.fieldLink RX3 22 "EchoCave$Sound" "syllable" "[I", Cond.fieldLink RX3 26 "EchoCave$Sound" "place" "[I", Cond.fieldLink RX3 29 "EchoCave$Sound" "passagesUsed" "[J", Cond.methodLink RX3 72 yX1_pack, Cond.static yX1_pack, Cond.code yX1_pack cX1_pack 5 (some .int), Cond.methodLink RX3 76 yX1_put, Cond.instanceMethod yX1_put, Cond.selects RX1 yX1_put yX1_put, Cond.code yX1_put cX1_put 3 none, Cond.fieldLink RX1 11 "EchoCave$Comings" "heap" "[I", Cond.methodLink RX3 53 yX1_isEmpty, Cond.instanceMethod yX1_isEmpty, Cond.selects RX1 yX1_isEmpty yX1_isEmpty, Cond.code yX1_isEmpty cX1_isEmpty 1 (some .boolean), Cond.methodLink RX3 57 yX1_takeNext]
def wsX4_longest_r4 : List Cond := [Cond.instanceMethod yX1_takeNext, Cond.selects RX1 yX1_takeNext yX1_takeNext, Cond.code yX1_takeNext cX1_takeNext 2 (some .int), Cond.methodLink RX1 19 yX1_sink, Cond.instanceMethod yX1_sink, Cond.selects RX1 yX1_sink yX1_sink, Cond.code yX1_sink cX1_sink 4 none, Cond.methodLink RX3 61 yX3_come, Cond.instanceMethod yX3_come, Cond.selects RX3 yX3_come yX3_come, Cond.code yX3_come cX3_come 8 none, Cond.fieldLink RX3 9 "EchoCave$Sound" "cave" "LEchoCave$Cave;", Cond.methodLink RX3 80 yX1_timeOf, Cond.static yX1_timeOf, Cond.code yX1_timeOf cX1_timeOf 1 (some .int), Cond.methodLink RX3 83 yX1_chamberOf, Cond.static yX1_chamberOf, Cond.code yX1_chamberOf cX1_chamberOf 1 (some .int), Cond.methodLink RX3 86 yX1_runOf, Cond.static yX1_runOf, Cond.code yX1_runOf cX1_runOf 1 (some .int), Cond.methodLink RX3 89 yX1_passageOf, Cond.static yX1_passageOf, Cond.code yX1_passageOf cX1_passageOf 1 (some .int)]
def wsX4_longest_r5 : List Cond := [Cond.methodLink RX3 92 yX1_strengthOf, Cond.static yX1_strengthOf, Cond.code yX1_strengthOf cX1_strengthOf 1 (some .int), Cond.methodLink RX3 95 yX0_hasChamber, Cond.instanceMethod yX0_hasChamber, Cond.selects RX0 yX0_hasChamber yX0_hasChamber, Cond.initialized RX0, Cond.code yX0_hasChamber cX0_hasChamber 2 (some .boolean), Cond.fieldLink RX0 50 "EchoCave$Cave" "chambers" "I", Cond.methodLink RX3 104 yX2_hear, Cond.instanceMethod yX2_hear, Cond.selects RX2 yX2_hear yX2_hear, Cond.code yX2_hear cX2_hear 6 none, Cond.fieldLink RX2 9 "EchoCave$Echo" "facts" "[I", Cond.methodLink RX2 43 yX2_letCount, Cond.instanceMethod yX2_letCount, Cond.selects RX2 yX2_letCount yX2_letCount, Cond.code yX2_letCount cX2_letCount 3 none, Cond.methodLink RX3 108 yX0_drowns, Cond.instanceMethod yX0_drowns, Cond.selects RX0 yX0_drowns yX0_drowns, Cond.code yX0_drowns cX0_drowns 3 (some .boolean), Cond.fieldLink RX0 18 "EchoCave$Cave" "bats" "[I", Cond.methodLink RX3 112 yX3_setOffClapper]
def wsX4_longest_r6 : List Cond := [Cond.instanceMethod yX3_setOffClapper, Cond.selects RX3 yX3_setOffClapper yX3_setOffClapper, Cond.code yX3_setOffClapper cX3_setOffClapper 6 none, Cond.methodLink RX3 115 yX3_goOn, Cond.instanceMethod yX3_goOn, Cond.selects RX3 yX3_goOn yX3_goOn, Cond.code yX3_goOn cX3_goOn 8 none, Cond.methodLink RX3 136 yX0_isOpen, Cond.instanceMethod yX0_isOpen, Cond.selects RX0 yX0_isOpen yX0_isOpen, Cond.code yX0_isOpen cX0_isOpen 2 (some .boolean), Cond.fieldLink RX0 15 "EchoCave$Cave" "height" "[I", Cond.fieldLink RX0 35 "EchoCave$Cave" "from" "[I", Cond.fieldLink RX0 57 "EchoCave$Cave" "water" "I", Cond.fieldLink RX0 38 "EchoCave$Cave" "to" "[I", Cond.methodLink RX3 122 yX3_goInto, Cond.instanceMethod yX3_goInto, Cond.selects RX3 yX3_goInto yX3_goInto, Cond.code yX3_goInto cX3_goInto 10 none, Cond.methodLink RX3 145 yX0_otherEnd, Cond.instanceMethod yX0_otherEnd, Cond.selects RX0 yX0_otherEnd yX0_otherEnd, Cond.code yX0_otherEnd cX0_otherEnd 3 (some .int), Cond.methodLink RX3 148 yX0_strengthBehind]
def wsX4_longest_r7 : List Cond := [Cond.instanceMethod yX0_strengthBehind, Cond.selects RX0 yX0_strengthBehind yX0_strengthBehind, Cond.code yX0_strengthBehind cX0_strengthBehind 3 (some .int), Cond.fieldLink RX0 44 "EchoCave$Cave" "narrow" "[I", Cond.methodLink RX3 118 yX0_strengthFromWall, Cond.instanceMethod yX0_strengthFromWall, Cond.selects RX0 yX0_strengthFromWall yX0_strengthFromWall, Cond.code yX0_strengthFromWall cX0_strengthFromWall 3 (some .int), Cond.fieldLink RX0 9 "EchoCave$Cave" "wall" "[I", Cond.methodLink RX4 124 yX2_cameInOrder, Cond.instanceMethod yX2_cameInOrder, Cond.selects RX2 yX2_cameInOrder yX2_cameInOrder, Cond.code yX2_cameInOrder cX2_cameInOrder 1 (some .boolean)]
def wsX4_longest : List Cond := .code yX4_longest cX4_longest 6 (some .int) :: ((wsX4_longest_r1 ++ (wsX4_longest_r2 ++ (wsX4_longest_r3 ++ (wsX4_longest_r4 ++ (wsX4_longest_r5 ++ (wsX4_longest_r6 ++ wsX4_longest_r7)))))) ++ wsX40 ++ wsX30 ++ wsX20 ++ wsX10 ++ wsX00 ++ (vx_atS RX4 185 "java/lang/IllegalArgumentException" ["java/lang/RuntimeException", "java/lang/Exception"]).filter goodWord)
def wsX4_quickest_r1 : List Cond := [Cond.methodLink RX4 151 yX4_isWord, Cond.static yX4_isWord, Cond.initialized RX4, Cond.code yX4_isWord cX4_isWord 2 (some .boolean), Cond.constant RX4 175 (999999), Cond.methodLink RX4 45 yX4_isWithin, Cond.static yX4_isWithin, Cond.code yX4_isWithin cX4_isWithin 3 (some .boolean), Cond.methodLink RX4 49 yX4_requireArgument, Cond.static yX4_requireArgument, Cond.code yX4_requireArgument cX4_requireArgument 1 none, Cond.classLink RX4 181 "java/lang/IllegalArgumentException", Cond.initialized "java/lang/IllegalArgumentException", Cond.methodLink RX4 147 yX4_wouldComeInOrder, Cond.instanceMethod yX4_wouldComeInOrder, Cond.selects RX4 yX4_wouldComeInOrder yX4_wouldComeInOrder, Cond.code yX4_wouldComeInOrder cX4_wouldComeInOrder 3 (some .boolean), Cond.fieldLink RX4 21 "EchoCave" "sound" "LEchoCave$Sound;", Cond.fieldLink RX4 35 "EchoCave" "ear" "I", Cond.fieldLink RX4 32 "EchoCave" "trial" "LEchoCave$Echo;", Cond.methodLink RX4 111 yX3_runThrough, Cond.instanceMethod yX3_runThrough, Cond.selects RX3 yX3_runThrough yX3_runThrough, Cond.initialized RX3]
def wsX4_quickest_r2 : List Cond := [Cond.code yX3_runThrough cX3_runThrough 7 none, Cond.fieldLink RX3 18 "EchoCave$Sound" "comings" "LEchoCave$Comings;", Cond.static yX4_placesOf, Cond.code yX4_placesOf cX4_placesOf 3 (some .int), Cond.methodLink RX3 44 yX2_begin, Cond.instanceMethod yX2_begin, Cond.selects RX2 yX2_begin yX2_begin, Cond.initialized RX2, Cond.code yX2_begin cX2_begin 3 none, Cond.fieldLink RX2 18 "EchoCave$Echo" "places" "I", Cond.fieldLink RX2 22 "EchoCave$Echo" "ear" "I", Cond.fieldLink RX2 25 "EchoCave$Echo" "kept" "I", Cond.fieldLink RX2 28 "EchoCave$Echo" "counted" "I", Cond.fieldLink RX2 31 "EchoCave$Echo" "placesInOrder" "I", Cond.fieldLink RX2 34 "EchoCave$Echo" "lastTime" "I", Cond.fieldLink RX2 15 "EchoCave$Echo" "firstTime" "[I", Cond.methodLink RX2 37 yJ7_fill_53178, Cond.static yJ7_fill_53178, Cond.initialized RJ7, Cond.code yJ7_fill_53178 cJ7_fill_53178 4 none, Cond.methodLink RX3 50 yX3_begin, Cond.instanceMethod yX3_begin, Cond.selects RX3 yX3_begin yX3_begin, Cond.code yX3_begin cX3_begin 6 none]
def wsX4_quickest_r3 : List Cond := [Cond.fieldLink RX3 33 "EchoCave$Sound" "runs" "I", Cond.fieldLink RX3 37 "EchoCave$Sound" "clappersSetOff" "I", Cond.methodLink RX3 65 yX1_clear, Cond.instanceMethod yX1_clear, Cond.selects RX1 yX1_clear yX1_clear, Cond.initialized RX1, Cond.code yX1_clear cX1_clear 1 none, Cond.fieldLink RX1 15 "EchoCave$Comings" "size" "I", Cond.methodLink RX3 68 yX3_startRun, Cond.instanceMethod yX3_startRun, Cond.selects RX3 yX3_startRun yX3_startRun, Cond.code yX3_startRun cX3_startRun 6 none, Cond.fieldLink RX3 22 "EchoCave$Sound" "syllable" "[I", Cond.fieldLink RX3 26 "EchoCave$Sound" "place" "[I", Cond.fieldLink RX3 29 "EchoCave$Sound" "passagesUsed" "[J", Cond.methodLink RX3 72 yX1_pack, Cond.static yX1_pack, Cond.code yX1_pack cX1_pack 5 (some .int), Cond.methodLink RX3 76 yX1_put, Cond.instanceMethod yX1_put, Cond.selects RX1 yX1_put yX1_put, Cond.code yX1_put cX1_put 3 none, Cond.fieldLink RX1 11 "EchoCave$Comings" "heap" "[I", Cond.methodLink RX3 53 yX1_isEmpty]
def wsX4_quickest_r4 : List Cond := [Cond.instanceMethod yX1_isEmpty, Cond.selects RX1 yX1_isEmpty yX1_isEmpty, Cond.code yX1_isEmpty cX1_isEmpty 1 (some .boolean), Cond.methodLink RX3 57 yX1_takeNext, Cond.instanceMethod yX1_takeNext, Cond.selects RX1 yX1_takeNext yX1_takeNext, Cond.code yX1_takeNext cX1_takeNext 2 (some .int), Cond.methodLink RX1 19 yX1_sink, Cond.instanceMethod yX1_sink, Cond.selects RX1 yX1_sink yX1_sink, Cond.code yX1_sink cX1_sink 4 none, Cond.methodLink RX3 61 yX3_come, Cond.instanceMethod yX3_come, Cond.selects RX3 yX3_come yX3_come, Cond.code yX3_come cX3_come 8 none, Cond.fieldLink RX3 9 "EchoCave$Sound" "cave" "LEchoCave$Cave;", Cond.methodLink RX3 80 yX1_timeOf, Cond.static yX1_timeOf, Cond.code yX1_timeOf cX1_timeOf 1 (some .int), Cond.methodLink RX3 83 yX1_chamberOf, Cond.static yX1_chamberOf, Cond.code yX1_chamberOf cX1_chamberOf 1 (some .int), Cond.methodLink RX3 86 yX1_runOf, Cond.static yX1_runOf]
def wsX4_quickest_r5 : List Cond := [Cond.code yX1_runOf cX1_runOf 1 (some .int), Cond.methodLink RX3 89 yX1_passageOf, Cond.static yX1_passageOf, Cond.code yX1_passageOf cX1_passageOf 1 (some .int), Cond.methodLink RX3 92 yX1_strengthOf, Cond.static yX1_strengthOf, Cond.code yX1_strengthOf cX1_strengthOf 1 (some .int), Cond.methodLink RX3 95 yX0_hasChamber, Cond.instanceMethod yX0_hasChamber, Cond.selects RX0 yX0_hasChamber yX0_hasChamber, Cond.initialized RX0, Cond.code yX0_hasChamber cX0_hasChamber 2 (some .boolean), Cond.fieldLink RX0 50 "EchoCave$Cave" "chambers" "I", Cond.methodLink RX3 104 yX2_hear, Cond.instanceMethod yX2_hear, Cond.selects RX2 yX2_hear yX2_hear, Cond.code yX2_hear cX2_hear 6 none, Cond.fieldLink RX2 9 "EchoCave$Echo" "facts" "[I", Cond.methodLink RX2 43 yX2_letCount, Cond.instanceMethod yX2_letCount, Cond.selects RX2 yX2_letCount yX2_letCount, Cond.code yX2_letCount cX2_letCount 3 none, Cond.methodLink RX3 108 yX0_drowns, Cond.instanceMethod yX0_drowns]
def wsX4_quickest_r6 : List Cond := [Cond.selects RX0 yX0_drowns yX0_drowns, Cond.code yX0_drowns cX0_drowns 3 (some .boolean), Cond.fieldLink RX0 18 "EchoCave$Cave" "bats" "[I", Cond.methodLink RX3 112 yX3_setOffClapper, Cond.instanceMethod yX3_setOffClapper, Cond.selects RX3 yX3_setOffClapper yX3_setOffClapper, Cond.code yX3_setOffClapper cX3_setOffClapper 6 none, Cond.methodLink RX3 115 yX3_goOn, Cond.instanceMethod yX3_goOn, Cond.selects RX3 yX3_goOn yX3_goOn, Cond.code yX3_goOn cX3_goOn 8 none, Cond.methodLink RX3 136 yX0_isOpen, Cond.instanceMethod yX0_isOpen, Cond.selects RX0 yX0_isOpen yX0_isOpen, Cond.code yX0_isOpen cX0_isOpen 2 (some .boolean), Cond.fieldLink RX0 15 "EchoCave$Cave" "height" "[I", Cond.fieldLink RX0 35 "EchoCave$Cave" "from" "[I", Cond.fieldLink RX0 57 "EchoCave$Cave" "water" "I", Cond.fieldLink RX0 38 "EchoCave$Cave" "to" "[I", Cond.methodLink RX3 122 yX3_goInto, Cond.instanceMethod yX3_goInto, Cond.selects RX3 yX3_goInto yX3_goInto, Cond.code yX3_goInto cX3_goInto 10 none, Cond.methodLink RX3 145 yX0_otherEnd]
def wsX4_quickest_r7 : List Cond := [Cond.instanceMethod yX0_otherEnd, Cond.selects RX0 yX0_otherEnd yX0_otherEnd, Cond.code yX0_otherEnd cX0_otherEnd 3 (some .int), Cond.methodLink RX3 148 yX0_strengthBehind, Cond.instanceMethod yX0_strengthBehind, Cond.selects RX0 yX0_strengthBehind yX0_strengthBehind, Cond.code yX0_strengthBehind cX0_strengthBehind 3 (some .int), Cond.fieldLink RX0 44 "EchoCave$Cave" "narrow" "[I", Cond.methodLink RX3 118 yX0_strengthFromWall, Cond.instanceMethod yX0_strengthFromWall, Cond.selects RX0 yX0_strengthFromWall yX0_strengthFromWall, Cond.code yX0_strengthFromWall cX0_strengthFromWall 3 (some .int), Cond.fieldLink RX0 9 "EchoCave$Cave" "wall" "[I", Cond.methodLink RX4 124 yX2_cameInOrder, Cond.instanceMethod yX2_cameInOrder, Cond.selects RX2 yX2_cameInOrder yX2_cameInOrder, Cond.code yX2_cameInOrder cX2_cameInOrder 1 (some .boolean)]
def wsX4_quickest : List Cond := .code yX4_quickest cX4_quickest 3 (some .int) :: ((wsX4_quickest_r1 ++ (wsX4_quickest_r2 ++ (wsX4_quickest_r3 ++ (wsX4_quickest_r4 ++ (wsX4_quickest_r5 ++ (wsX4_quickest_r6 ++ wsX4_quickest_r7)))))) ++ wsX40 ++ wsX30 ++ wsX20 ++ wsX10 ++ wsX00 ++ (vx_atS RX4 185 "java/lang/IllegalArgumentException" ["java/lang/RuntimeException", "java/lang/Exception"]).filter goodWord)
def wsX4_way_r1 : List Cond := [Cond.fieldLink RX4 12 "EchoCave" "cave" "LEchoCave$Cave;", Cond.methodLink RX4 67 yX0_hasChamber, Cond.instanceMethod yX0_hasChamber, Cond.selects RX0 yX0_hasChamber yX0_hasChamber, Cond.initialized RX0, Cond.code yX0_hasChamber cX0_hasChamber 2 (some .boolean), Cond.fieldLink RX0 50 "EchoCave$Cave" "chambers" "I", Cond.static yX4_isWithin, Cond.initialized RX4, Cond.code yX4_isWithin cX4_isWithin 3 (some .boolean), Cond.methodLink RX4 71 yX4_requireIndex, Cond.static yX4_requireIndex, Cond.code yX4_requireIndex cX4_requireIndex 1 none, Cond.classLink RX4 176 "java/lang/IndexOutOfBoundsException", Cond.initialized "java/lang/IndexOutOfBoundsException", Cond.methodLink RX4 154 yX0_shortestWay, Cond.instanceMethod yX0_shortestWay, Cond.selects RX0 yX0_shortestWay yX0_shortestWay, Cond.code yX0_shortestWay cX0_shortestWay 5 (some .int), Cond.fieldLink RX0 47 "EchoCave$Cave" "found" "[I", Cond.fieldLink RX0 54 "EchoCave$Cave" "passages" "I", Cond.fieldLink RX0 35 "EchoCave$Cave" "from" "[I", Cond.fieldLink RX0 38 "EchoCave$Cave" "to" "[I", Cond.fieldLink RX0 41 "EchoCave$Cave" "length" "[I"]
def wsX4_way_r2 : List Cond := [Cond.methodLink RX0 76 yJ7_fill_53178, Cond.static yJ7_fill_53178, Cond.initialized RJ7, Cond.code yJ7_fill_53178 cJ7_fill_53178 4 none, Cond.methodLink RX0 68 yX0_isOpen, Cond.instanceMethod yX0_isOpen, Cond.selects RX0 yX0_isOpen yX0_isOpen, Cond.code yX0_isOpen cX0_isOpen 2 (some .boolean), Cond.fieldLink RX0 15 "EchoCave$Cave" "height" "[I", Cond.fieldLink RX0 57 "EchoCave$Cave" "water" "I", Cond.methodLink RX0 82 yX0_shorten, Cond.instanceMethod yX0_shorten, Cond.selects RX0 yX0_shorten yX0_shorten, Cond.code yX0_shorten cX0_shorten 5 none]
def wsX4_way : List Cond := .code yX4_way cX4_way 3 (some .int) :: ((wsX4_way_r1 ++ wsX4_way_r2) ++ wsX40 ++ wsX00 ++ (vx_atS RX4 180 "java/lang/IndexOutOfBoundsException" ["java/lang/RuntimeException", "java/lang/Exception"]).filter goodWord)
def wsX4_highest_r1 : List Cond := [Cond.fieldLink RX4 12 "EchoCave" "cave" "LEchoCave$Cave;", Cond.methodLink RX4 67 yX0_hasChamber, Cond.instanceMethod yX0_hasChamber, Cond.selects RX0 yX0_hasChamber yX0_hasChamber, Cond.initialized RX0, Cond.code yX0_hasChamber cX0_hasChamber 2 (some .boolean), Cond.fieldLink RX0 50 "EchoCave$Cave" "chambers" "I", Cond.static yX4_isWithin, Cond.initialized RX4, Cond.code yX4_isWithin cX4_isWithin 3 (some .boolean), Cond.methodLink RX4 71 yX4_requireIndex, Cond.static yX4_requireIndex, Cond.code yX4_requireIndex cX4_requireIndex 1 none, Cond.classLink RX4 176 "java/lang/IndexOutOfBoundsException", Cond.initialized "java/lang/IndexOutOfBoundsException", Cond.methodLink RX4 157 yX0_highestWater, Cond.instanceMethod yX0_highestWater, Cond.selects RX0 yX0_highestWater yX0_highestWater, Cond.code yX0_highestWater cX0_highestWater 4 (some .int), Cond.fieldLink RX0 47 "EchoCave$Cave" "found" "[I", Cond.fieldLink RX0 54 "EchoCave$Cave" "passages" "I", Cond.fieldLink RX0 35 "EchoCave$Cave" "from" "[I", Cond.fieldLink RX0 38 "EchoCave$Cave" "to" "[I", Cond.methodLink RX0 76 yJ7_fill_53178]
def wsX4_highest_r2 : List Cond := [Cond.static yJ7_fill_53178, Cond.initialized RJ7, Cond.code yJ7_fill_53178 cJ7_fill_53178 4 none, Cond.methodLink RX0 86 yX0_raise, Cond.instanceMethod yX0_raise, Cond.selects RX0 yX0_raise yX0_raise, Cond.code yX0_raise cX0_raise 4 none, Cond.fieldLink RX0 15 "EchoCave$Cave" "height" "[I", Cond.methodLink RX0 89 Lib.Math.min.name, Cond.static Lib.Math.min.name, Cond.initialized "java/lang/Math", Cond.code Lib.Math.min.name Lib.Math.min.code 2 (some .int), Cond.methodLink RX0 95 Lib.Math.max.name, Cond.static Lib.Math.max.name, Cond.code Lib.Math.max.name Lib.Math.max.code 2 (some .int)]
def wsX4_highest : List Cond := .code yX4_highest cX4_highest 2 (some .int) :: ((wsX4_highest_r1 ++ wsX4_highest_r2) ++ wsX40 ++ wsX00 ++ (vx_atS RX4 180 "java/lang/IndexOutOfBoundsException" ["java/lang/RuntimeException", "java/lang/Exception"]).filter goodWord)
def wsX4_mean : List Cond := .code yX4_mean cX4_mean 1 (some .double) :: ([.fieldLink RX4 28 "EchoCave" "latest" "LEchoCave$Echo;", .methodLink RX4 160 yX2_meanStrength, .instanceMethod yX2_meanStrength, .selects RX2 yX2_meanStrength yX2_meanStrength, .initialized RX2, .code yX2_meanStrength cX2_meanStrength 3 (some .double), .fieldLink RX2 25 "EchoCave$Echo" "kept" "I", .methodLink RX2 51 yX2_heardFact, .instanceMethod yX2_heardFact, .selects RX2 yX2_heardFact yX2_heardFact, .code yX2_heardFact cX2_heardFact 3 (some .int), .fieldLink RX2 9 "EchoCave$Echo" "facts" "[I"] ++ wsX40 ++ wsX20)
def wsX4_digest_r1 : List Cond := [Cond.constantLong RX4 164 (691), Cond.constantLong RX4 166 (31), Cond.fieldLink RX4 12 "EchoCave" "cave" "LEchoCave$Cave;", Cond.fieldLink RX4 28 "EchoCave" "latest" "LEchoCave$Echo;", Cond.methodLink RX4 134 yX4_countFact, Cond.instanceMethod yX4_countFact, Cond.selects RX4 yX4_countFact yX4_countFact, Cond.initialized RX4, Cond.code yX4_countFact cX4_countFact 2 (some .int), Cond.fieldLink RX4 35 "EchoCave" "ear" "I", Cond.fieldLink RX4 39 "EchoCave" "wordsSaid" "I", Cond.fieldLink RX4 42 "EchoCave" "latestWord" "I", Cond.methodLink RX4 168 yX0_openPassages, Cond.instanceMethod yX0_openPassages, Cond.selects RX0 yX0_openPassages yX0_openPassages, Cond.initialized RX0, Cond.code yX0_openPassages cX0_openPassages 3 (some .int), Cond.fieldLink RX0 54 "EchoCave$Cave" "passages" "I", Cond.methodLink RX0 68 yX0_isOpen, Cond.instanceMethod yX0_isOpen, Cond.selects RX0 yX0_isOpen yX0_isOpen, Cond.code yX0_isOpen cX0_isOpen 2 (some .boolean), Cond.fieldLink RX0 15 "EchoCave$Cave" "height" "[I", Cond.fieldLink RX0 35 "EchoCave$Cave" "from" "[I"]
def wsX4_digest_r2 : List Cond := [Cond.fieldLink RX0 57 "EchoCave$Cave" "water" "I", Cond.fieldLink RX0 38 "EchoCave$Cave" "to" "[I", Cond.methodLink RX4 172 yX0_clappers, Cond.instanceMethod yX0_clappers, Cond.selects RX0 yX0_clappers yX0_clappers, Cond.code yX0_clappers cX0_clappers 3 (some .int), Cond.fieldLink RX0 50 "EchoCave$Cave" "chambers" "I", Cond.fieldLink RX0 21 "EchoCave$Cave" "syllable" "[I", Cond.methodLink RX4 97 yX0_chamberFact, Cond.instanceMethod yX0_chamberFact, Cond.selects RX0 yX0_chamberFact yX0_chamberFact, Cond.code yX0_chamberFact cX0_chamberFact 3 (some .int), Cond.fieldLink RX0 9 "EchoCave$Cave" "wall" "[I", Cond.fieldLink RX0 18 "EchoCave$Cave" "bats" "[I", Cond.fieldLink RX0 24 "EchoCave$Cave" "delay" "[I", Cond.fieldLink RX0 27 "EchoCave$Cave" "doors" "[I", Cond.methodLink RX0 72 yX0_openDoors, Cond.instanceMethod yX0_openDoors, Cond.selects RX0 yX0_openDoors yX0_openDoors, Cond.code yX0_openDoors cX0_openDoors 4 (some .int), Cond.fieldLink RX0 32 "EchoCave$Cave" "passageBehind" "[[I", Cond.methodLink RX4 104 yX0_passageFact, Cond.instanceMethod yX0_passageFact, Cond.selects RX0 yX0_passageFact yX0_passageFact]
def wsX4_digest_r3 : List Cond := [Cond.code yX0_passageFact cX0_passageFact 3 (some .int), Cond.fieldLink RX0 41 "EchoCave$Cave" "length" "[I", Cond.fieldLink RX0 44 "EchoCave$Cave" "narrow" "[I", Cond.methodLink RX4 121 yX2_heardFact, Cond.instanceMethod yX2_heardFact, Cond.selects RX2 yX2_heardFact yX2_heardFact, Cond.initialized RX2, Cond.code yX2_heardFact cX2_heardFact 3 (some .int), Cond.fieldLink RX2 9 "EchoCave$Echo" "facts" "[I", Cond.methodLink RX4 124 yX2_cameInOrder, Cond.instanceMethod yX2_cameInOrder, Cond.selects RX2 yX2_cameInOrder yX2_cameInOrder, Cond.code yX2_cameInOrder cX2_cameInOrder 1 (some .boolean), Cond.fieldLink RX2 18 "EchoCave$Echo" "places" "I", Cond.fieldLink RX2 31 "EchoCave$Echo" "placesInOrder" "I"]
def wsX4_digest : List Cond := .code yX4_digest cX4_digest 5 (some .long) :: ((wsX4_digest_r1 ++ (wsX4_digest_r2 ++ wsX4_digest_r3)) ++ wsX40 ++ wsX00 ++ wsX20)
def wsX5_init : List Cond := .code yX5_init cX5_init 2 none :: ([.fieldLink RX5 3 "EchoCaveModel$Sound" "this$0" "LEchoCaveModel;", .methodLink RX5 9 objectInit, .instanceMethod objectInit, .code objectInit ⟨#[0xb1]⟩ 1 none, .fieldLink RX5 15 "EchoCaveModel$Sound" "chamber" "I", .arrayClass .int, .fieldLink RX5 19 "EchoCaveModel$Sound" "firsts" "[I", .fieldLink RX5 23 "EchoCaveModel$Sound" "heard" "[I", .fieldLink RX5 26 "EchoCaveModel$Sound" "place" "[I", .fieldLink RX5 29 "EchoCaveModel$Sound" "syllable" "[I", .fieldLink RX5 32 "EchoCaveModel$Sound" "there" "[I", .fieldLink RX5 35 "EchoCaveModel$Sound" "back" "[I", .fieldLink RX5 38 "EchoCaveModel$Sound" "order" "[I", .fieldLink RX5 41 "EchoCaveModel$Sound" "power" "[I"] ++ wsX50)
def wsX5_instead : List Cond := .code yX5_instead cX5_instead 4 none :: ([.fieldLink RX5 15 "EchoCaveModel$Sound" "chamber" "I", .fieldLink RX5 44 "EchoCaveModel$Sound" "with" "I", .fieldLink RX5 47 "EchoCaveModel$Sound" "late" "I"] ++ wsX50)
def wsX5_come : List Cond := .code yX5_come cX5_come 8 none :: ([.fieldLink RX5 50 "EchoCaveModel$Sound" "waiting" "I", .fieldLink RX5 38 "EchoCaveModel$Sound" "order" "[I", .fieldLink RX5 41 "EchoCaveModel$Sound" "power" "[I"] ++ wsX50)
def wsX5_start : List Cond := .code yX5_start cX5_start 6 none :: ([.fieldLink RX5 26 "EchoCaveModel$Sound" "place" "[I", .fieldLink RX5 53 "EchoCaveModel$Sound" "runs" "I", .fieldLink RX5 29 "EchoCaveModel$Sound" "syllable" "[I", .fieldLink RX5 32 "EchoCaveModel$Sound" "there" "[I", .fieldLink RX5 35 "EchoCaveModel$Sound" "back" "[I", .methodLink RX5 56 yX5_come, .instanceMethod yX5_come, .selects RX5 yX5_come yX5_come, .initialized RX5, .code yX5_come cX5_come 8 none, .fieldLink RX5 50 "EchoCaveModel$Sound" "waiting" "I", .fieldLink RX5 38 "EchoCaveModel$Sound" "order" "[I", .fieldLink RX5 41 "EchoCaveModel$Sound" "power" "[I"] ++ wsX50)
def wsX5_go : List Cond := .code yX5_go cX5_go 8 none :: ([.fieldLink RX5 3 "EchoCaveModel$Sound" "this$0" "LEchoCaveModel;", .fieldLink RX5 32 "EchoCaveModel$Sound" "there" "[I", .fieldLink RX5 35 "EchoCaveModel$Sound" "back" "[I", .methodLink RX5 56 yX5_come, .instanceMethod yX5_come, .selects RX5 yX5_come yX5_come, .initialized RX5, .code yX5_come cX5_come 8 none, .fieldLink RX5 50 "EchoCaveModel$Sound" "waiting" "I", .fieldLink RX5 38 "EchoCaveModel$Sound" "order" "[I", .fieldLink RX5 41 "EchoCaveModel$Sound" "power" "[I"] ++ wsX50 ++ wsX60)
def wsX5_hear : List Cond := .code yX5_hear cX5_hear 6 none :: ([.fieldLink RX5 63 "EchoCaveModel$Sound" "kept" "I", .fieldLink RX5 3 "EchoCaveModel$Sound" "this$0" "LEchoCaveModel;", .fieldLink RX5 23 "EchoCaveModel$Sound" "heard" "[I", .fieldLink RX5 26 "EchoCaveModel$Sound" "place" "[I", .fieldLink RX5 29 "EchoCaveModel$Sound" "syllable" "[I", .fieldLink RX5 69 "EchoCaveModel$Sound" "counted" "I", .fieldLink RX5 72 "EchoCaveModel$Sound" "latest" "I", .fieldLink RX5 19 "EchoCaveModel$Sound" "firsts" "[I", .fieldLink RX5 75 "EchoCaveModel$Sound" "inOrder" "I"] ++ wsX50 ++ wsX60)
def wsX5_clap : List Cond := .code yX5_clap cX5_clap 6 none :: ([.fieldLink RX5 15 "EchoCaveModel$Sound" "chamber" "I", .fieldLink RX5 44 "EchoCaveModel$Sound" "with" "I", .fieldLink RX5 3 "EchoCaveModel$Sound" "this$0" "LEchoCaveModel;", .fieldLink RX5 29 "EchoCaveModel$Sound" "syllable" "[I", .fieldLink RX5 81 "EchoCaveModel$Sound" "clapped" "I", .fieldLink RX5 47 "EchoCaveModel$Sound" "late" "I", .fieldLink RX5 26 "EchoCaveModel$Sound" "place" "[I", .methodLink RX5 84 yX5_start, .instanceMethod yX5_start, .selects RX5 yX5_start yX5_start, .initialized RX5, .code yX5_start cX5_start 6 none, .fieldLink RX5 53 "EchoCaveModel$Sound" "runs" "I", .fieldLink RX5 32 "EchoCaveModel$Sound" "there" "[I", .fieldLink RX5 35 "EchoCaveModel$Sound" "back" "[I", .methodLink RX5 56 yX5_come, .instanceMethod yX5_come, .selects RX5 yX5_come yX5_come, .code yX5_come cX5_come 8 none, .fieldLink RX5 50 "EchoCaveModel$Sound" "waiting" "I", .fieldLink RX5 38 "EchoCaveModel$Sound" "order" "[I", .fieldLink RX5 41 "EchoCaveModel$Sound" "power" "[I"] ++ wsX50 ++ wsX60)
def wsX6_touches : List Cond := .code yX6_touches cX6_touches 3 (some .boolean) :: ([.fieldLink RX6 20 "EchoCaveModel" "tunnel" "[I"] ++ wsX60)
def wsX6_isOpen : List Cond := .code yX6_isOpen cX6_isOpen 3 (some .boolean) :: ([.fieldLink RX6 16 "EchoCaveModel" "room" "[I", .fieldLink RX6 20 "EchoCaveModel" "tunnel" "[I"] ++ wsX60)
def wsX5_arrive_r1 : List Cond := [Cond.fieldLink RX5 3 "EchoCaveModel$Sound" "this$0" "LEchoCaveModel;", Cond.methodLink RX5 87 yX5_hear, Cond.instanceMethod yX5_hear, Cond.selects RX5 yX5_hear yX5_hear, Cond.initialized RX5, Cond.code yX5_hear cX5_hear 6 none, Cond.fieldLink RX5 63 "EchoCaveModel$Sound" "kept" "I", Cond.fieldLink RX5 23 "EchoCaveModel$Sound" "heard" "[I", Cond.fieldLink RX5 26 "EchoCaveModel$Sound" "place" "[I", Cond.fieldLink RX5 29 "EchoCaveModel$Sound" "syllable" "[I", Cond.fieldLink RX5 69 "EchoCaveModel$Sound" "counted" "I", Cond.fieldLink RX5 72 "EchoCaveModel$Sound" "latest" "I", Cond.fieldLink RX5 19 "EchoCaveModel$Sound" "firsts" "[I", Cond.fieldLink RX5 75 "EchoCaveModel$Sound" "inOrder" "I", Cond.methodLink RX5 91 yX5_clap, Cond.instanceMethod yX5_clap, Cond.selects RX5 yX5_clap yX5_clap, Cond.code yX5_clap cX5_clap 6 none, Cond.fieldLink RX5 15 "EchoCaveModel$Sound" "chamber" "I", Cond.fieldLink RX5 44 "EchoCaveModel$Sound" "with" "I", Cond.fieldLink RX5 81 "EchoCaveModel$Sound" "clapped" "I", Cond.fieldLink RX5 47 "EchoCaveModel$Sound" "late" "I", Cond.methodLink RX5 84 yX5_start, Cond.instanceMethod yX5_start]
def wsX5_arrive_r2 : List Cond := [Cond.selects RX5 yX5_start yX5_start, Cond.code yX5_start cX5_start 6 none, Cond.fieldLink RX5 53 "EchoCaveModel$Sound" "runs" "I", Cond.fieldLink RX5 32 "EchoCaveModel$Sound" "there" "[I", Cond.fieldLink RX5 35 "EchoCaveModel$Sound" "back" "[I", Cond.methodLink RX5 56 yX5_come, Cond.instanceMethod yX5_come, Cond.selects RX5 yX5_come yX5_come, Cond.code yX5_come cX5_come 8 none, Cond.fieldLink RX5 50 "EchoCaveModel$Sound" "waiting" "I", Cond.fieldLink RX5 38 "EchoCaveModel$Sound" "order" "[I", Cond.fieldLink RX5 41 "EchoCaveModel$Sound" "power" "[I", Cond.instanceMethod yX6_touches, Cond.initialized RX6, Cond.selects RX6 yX6_touches yX6_touches, Cond.code yX6_touches cX6_touches 3 (some .boolean), Cond.fieldLink RX6 20 "EchoCaveModel" "tunnel" "[I", Cond.instanceMethod yX6_isOpen, Cond.selects RX6 yX6_isOpen yX6_isOpen, Cond.code yX6_isOpen cX6_isOpen 3 (some .boolean), Cond.fieldLink RX6 16 "EchoCaveModel" "room" "[I", Cond.methodLink RX5 107 yX5_go, Cond.instanceMethod yX5_go, Cond.selects RX5 yX5_go yX5_go]
def wsX5_arrive_r3 : List Cond := [Cond.code yX5_go cX5_go 8 none]
def wsX5_arrive : List Cond := .code yX5_arrive cX5_arrive 8 none :: ((wsX5_arrive_r1 ++ (wsX5_arrive_r2 ++ wsX5_arrive_r3)) ++ wsX50 ++ wsX60)
def wsX5_say_r1 : List Cond := [Cond.fieldLink RX5 110 "EchoCaveModel$Sound" "word" "I", Cond.fieldLink RX5 113 "EchoCaveModel$Sound" "places" "I", Cond.fieldLink RX5 53 "EchoCaveModel$Sound" "runs" "I", Cond.fieldLink RX5 63 "EchoCaveModel$Sound" "kept" "I", Cond.fieldLink RX5 69 "EchoCaveModel$Sound" "counted" "I", Cond.fieldLink RX5 75 "EchoCaveModel$Sound" "inOrder" "I", Cond.fieldLink RX5 72 "EchoCaveModel$Sound" "latest" "I", Cond.fieldLink RX5 50 "EchoCaveModel$Sound" "waiting" "I", Cond.fieldLink RX5 81 "EchoCaveModel$Sound" "clapped" "I", Cond.fieldLink RX5 19 "EchoCaveModel$Sound" "firsts" "[I", Cond.methodLink RX5 116 Lib.Math.max.name, Cond.static Lib.Math.max.name, Cond.initialized "java/lang/Math", Cond.code Lib.Math.max.name Lib.Math.max.code 2 (some .int), Cond.fieldLink RX5 38 "EchoCaveModel$Sound" "order" "[I", Cond.fieldLink RX5 41 "EchoCaveModel$Sound" "power" "[I", Cond.methodLink RX5 84 yX5_start, Cond.instanceMethod yX5_start, Cond.selects RX5 yX5_start yX5_start, Cond.initialized RX5, Cond.code yX5_start cX5_start 6 none, Cond.fieldLink RX5 26 "EchoCaveModel$Sound" "place" "[I", Cond.fieldLink RX5 29 "EchoCaveModel$Sound" "syllable" "[I", Cond.fieldLink RX5 32 "EchoCaveModel$Sound" "there" "[I"]
def wsX5_say_r2 : List Cond := [Cond.fieldLink RX5 35 "EchoCaveModel$Sound" "back" "[I", Cond.methodLink RX5 56 yX5_come, Cond.instanceMethod yX5_come, Cond.selects RX5 yX5_come yX5_come, Cond.code yX5_come cX5_come 8 none, Cond.methodLink RX5 122 yX5_arrive, Cond.instanceMethod yX5_arrive, Cond.selects RX5 yX5_arrive yX5_arrive, Cond.code yX5_arrive cX5_arrive 8 none, Cond.fieldLink RX5 3 "EchoCaveModel$Sound" "this$0" "LEchoCaveModel;", Cond.methodLink RX5 87 yX5_hear, Cond.instanceMethod yX5_hear, Cond.selects RX5 yX5_hear yX5_hear, Cond.code yX5_hear cX5_hear 6 none, Cond.fieldLink RX5 23 "EchoCaveModel$Sound" "heard" "[I", Cond.methodLink RX5 91 yX5_clap, Cond.instanceMethod yX5_clap, Cond.selects RX5 yX5_clap yX5_clap, Cond.code yX5_clap cX5_clap 6 none, Cond.fieldLink RX5 15 "EchoCaveModel$Sound" "chamber" "I", Cond.fieldLink RX5 44 "EchoCaveModel$Sound" "with" "I", Cond.fieldLink RX5 47 "EchoCaveModel$Sound" "late" "I", Cond.instanceMethod yX6_touches, Cond.initialized RX6]
def wsX5_say_r3 : List Cond := [Cond.selects RX6 yX6_touches yX6_touches, Cond.code yX6_touches cX6_touches 3 (some .boolean), Cond.fieldLink RX6 20 "EchoCaveModel" "tunnel" "[I", Cond.instanceMethod yX6_isOpen, Cond.selects RX6 yX6_isOpen yX6_isOpen, Cond.code yX6_isOpen cX6_isOpen 3 (some .boolean), Cond.fieldLink RX6 16 "EchoCaveModel" "room" "[I", Cond.methodLink RX5 107 yX5_go, Cond.instanceMethod yX5_go, Cond.selects RX5 yX5_go yX5_go, Cond.code yX5_go cX5_go 8 none]
def wsX5_say : List Cond := .code yX5_say cX5_say 5 none :: ((wsX5_say_r1 ++ (wsX5_say_r2 ++ wsX5_say_r3)) ++ wsX50 ++ wsX60)
def wsX5_isInOrder : List Cond := .code yX5_isInOrder cX5_isInOrder 1 (some .boolean) :: ([.fieldLink RX5 113 "EchoCaveModel$Sound" "places" "I", .fieldLink RX5 75 "EchoCaveModel$Sound" "inOrder" "I"] ++ wsX50)
def wsX6_init_r1 : List Cond := [Cond.methodLink RX6 3 objectInit, Cond.instanceMethod objectInit, Cond.code objectInit ⟨#[0xb1]⟩ 1 none, Cond.fieldLink RX6 9 "EchoCaveModel" "chambers" "I", Cond.fieldLink RX6 13 "EchoCaveModel" "ear" "I", Cond.arrayClass .int, Cond.fieldLink RX6 16 "EchoCaveModel" "room" "[I", Cond.fieldLink RX6 20 "EchoCaveModel" "tunnel" "[I", Cond.classLink RX6 23 RX5, Cond.instantiable RX5 21, Cond.initialized RX5, Cond.fieldLink RX6 28 "EchoCaveModel" "s" "LEchoCaveModel$Sound;", Cond.fieldLink RX6 32 "EchoCaveModel" "ahead" "LEchoCaveModel$Sound;", Cond.instanceMethod yX5_init, Cond.code yX5_init cX5_init 2 none, Cond.fieldLink RX5 3 "EchoCaveModel$Sound" "this$0" "LEchoCaveModel;", Cond.methodLink RX5 9 objectInit, Cond.fieldLink RX5 15 "EchoCaveModel$Sound" "chamber" "I", Cond.fieldLink RX5 19 "EchoCaveModel$Sound" "firsts" "[I", Cond.fieldLink RX5 23 "EchoCaveModel$Sound" "heard" "[I", Cond.fieldLink RX5 26 "EchoCaveModel$Sound" "place" "[I", Cond.fieldLink RX5 29 "EchoCaveModel$Sound" "syllable" "[I", Cond.fieldLink RX5 32 "EchoCaveModel$Sound" "there" "[I", Cond.fieldLink RX5 35 "EchoCaveModel$Sound" "back" "[I"]
def wsX6_init_r2 : List Cond := [Cond.fieldLink RX5 38 "EchoCaveModel$Sound" "order" "[I", Cond.fieldLink RX5 41 "EchoCaveModel$Sound" "power" "[I"]
def wsX6_init : List Cond := .code yX6_init cX6_init 1 none :: ((wsX6_init_r1 ++ wsX6_init_r2) ++ wsX60 ++ wsX50)
def wsX6_thrown : List Cond := .code yX6_thrown cX6_thrown 1 (some .int) :: ([.fieldLink RX6 35 "EchoCaveModel" "thrown" "I"] ++ wsX60)
def wsX6_no : List Cond := .code yX6_no cX6_no 2 (some .int) :: ([.fieldLink RX6 35 "EchoCaveModel" "thrown" "I"] ++ wsX60)
def wsX6_isIn : List Cond := .code yX6_isIn cX6_isIn 3 (some .boolean) :: ([])
def wsX6_isChamber : List Cond := .code yX6_isChamber cX6_isChamber 2 (some .boolean) :: ([.fieldLink RX6 9 "EchoCaveModel" "chambers" "I", .methodLink RX6 38 yX6_isIn, .static yX6_isIn, .initialized RX6, .code yX6_isIn cX6_isIn 3 (some .boolean)] ++ wsX60)
def wsX6_isWord : List Cond := .code yX6_isWord cX6_isWord 3 (some .boolean) :: ([.constant RX6 42 (999999), .methodLink RX6 38 yX6_isIn, .static yX6_isIn, .initialized RX6, .code yX6_isIn cX6_isIn 3 (some .boolean)])
def wsX6_addChamber : List Cond := .code yX6_addChamber cX6_addChamber 5 (some .int) :: ([.fieldLink RX6 35 "EchoCaveModel" "thrown" "I", .fieldLink RX6 9 "EchoCaveModel" "chambers" "I", .arrayClass .int, .fieldLink RX6 16 "EchoCaveModel" "room" "[I", .methodLink RX6 47 arraycopyName, .native arraycopyName, .static arraycopyName, .initialized "java/lang/System", .methodLink RX6 38 yX6_isIn, .static yX6_isIn, .initialized RX6, .code yX6_isIn cX6_isIn 3 (some .boolean), .methodLink RX6 43 yX6_no, .instanceMethod yX6_no, .selects RX6 yX6_no yX6_no, .code yX6_no cX6_no 2 (some .int)] ++ wsX60)
def wsX6_addPassage : List Cond := .code yX6_addPassage cX6_addPassage 6 (some .int) :: ([.fieldLink RX6 35 "EchoCaveModel" "thrown" "I", .fieldLink RX6 57 "EchoCaveModel" "passages" "I", .arrayClass .int, .fieldLink RX6 20 "EchoCaveModel" "tunnel" "[I", .methodLink RX6 47 arraycopyName, .native arraycopyName, .static arraycopyName, .initialized "java/lang/System", .methodLink RX6 53 yX6_isChamber, .instanceMethod yX6_isChamber, .selects RX6 yX6_isChamber yX6_isChamber, .initialized RX6, .code yX6_isChamber cX6_isChamber 2 (some .boolean), .fieldLink RX6 9 "EchoCaveModel" "chambers" "I", .methodLink RX6 38 yX6_isIn, .static yX6_isIn, .code yX6_isIn cX6_isIn 3 (some .boolean), .methodLink RX6 43 yX6_no, .instanceMethod yX6_no, .selects RX6 yX6_no yX6_no, .code yX6_no cX6_no 2 (some .int)] ++ wsX60)
def wsX6_setWater : List Cond := .code yX6_setWater cX6_setWater 3 (some .int) :: ([.fieldLink RX6 35 "EchoCaveModel" "thrown" "I", .fieldLink RX6 60 "EchoCaveModel" "water" "I", .methodLink RX6 38 yX6_isIn, .static yX6_isIn, .initialized RX6, .code yX6_isIn cX6_isIn 3 (some .boolean), .methodLink RX6 43 yX6_no, .instanceMethod yX6_no, .selects RX6 yX6_no yX6_no, .code yX6_no cX6_no 2 (some .int)] ++ wsX60)
def wsX6_setBats : List Cond := .code yX6_setBats cX6_setBats 4 (some .int) :: ([.fieldLink RX6 35 "EchoCaveModel" "thrown" "I", .fieldLink RX6 16 "EchoCaveModel" "room" "[I", .methodLink RX6 53 yX6_isChamber, .instanceMethod yX6_isChamber, .selects RX6 yX6_isChamber yX6_isChamber, .initialized RX6, .code yX6_isChamber cX6_isChamber 2 (some .boolean), .fieldLink RX6 9 "EchoCaveModel" "chambers" "I", .methodLink RX6 38 yX6_isIn, .static yX6_isIn, .code yX6_isIn cX6_isIn 3 (some .boolean), .methodLink RX6 43 yX6_no, .instanceMethod yX6_no, .selects RX6 yX6_no yX6_no, .code yX6_no cX6_no 2 (some .int)] ++ wsX60)
def wsX6_setClapper : List Cond := .code yX6_setClapper cX6_setClapper 5 (some .int) :: ([.fieldLink RX6 35 "EchoCaveModel" "thrown" "I", .fieldLink RX6 16 "EchoCaveModel" "room" "[I", .methodLink RX6 53 yX6_isChamber, .instanceMethod yX6_isChamber, .selects RX6 yX6_isChamber yX6_isChamber, .initialized RX6, .code yX6_isChamber cX6_isChamber 2 (some .boolean), .fieldLink RX6 9 "EchoCaveModel" "chambers" "I", .methodLink RX6 38 yX6_isIn, .static yX6_isIn, .code yX6_isIn cX6_isIn 3 (some .boolean), .methodLink RX6 43 yX6_no, .instanceMethod yX6_no, .selects RX6 yX6_no yX6_no, .code yX6_no cX6_no 2 (some .int)] ++ wsX60)
def wsX6_setEar : List Cond := .code yX6_setEar cX6_setEar 3 (some .int) :: ([.fieldLink RX6 35 "EchoCaveModel" "thrown" "I", .fieldLink RX6 13 "EchoCaveModel" "ear" "I", .methodLink RX6 38 yX6_isIn, .static yX6_isIn, .initialized RX6, .code yX6_isIn cX6_isIn 3 (some .boolean), .methodLink RX6 43 yX6_no, .instanceMethod yX6_no, .selects RX6 yX6_no yX6_no, .code yX6_no cX6_no 2 (some .int)] ++ wsX60)
def wsX6_chamberTold : List Cond := .code yX6_chamberTold cX6_chamberTold 5 (some .int) :: ([.fieldLink RX6 16 "EchoCaveModel" "room" "[I", .fieldLink RX6 57 "EchoCaveModel" "passages" "I", .fieldLink RX6 60 "EchoCaveModel" "water" "I", .methodLink RX6 63 yX6_touches, .instanceMethod yX6_touches, .selects RX6 yX6_touches yX6_touches, .initialized RX6, .code yX6_touches cX6_touches 3 (some .boolean), .fieldLink RX6 20 "EchoCaveModel" "tunnel" "[I", .methodLink RX6 67 yX6_isOpen, .instanceMethod yX6_isOpen, .selects RX6 yX6_isOpen yX6_isOpen, .code yX6_isOpen cX6_isOpen 3 (some .boolean)] ++ wsX60)
def wsX6_chamber_r1 : List Cond := [Cond.fieldLink RX6 35 "EchoCaveModel" "thrown" "I", Cond.methodLink RX6 53 yX6_isChamber, Cond.instanceMethod yX6_isChamber, Cond.selects RX6 yX6_isChamber yX6_isChamber, Cond.initialized RX6, Cond.code yX6_isChamber cX6_isChamber 2 (some .boolean), Cond.fieldLink RX6 9 "EchoCaveModel" "chambers" "I", Cond.methodLink RX6 38 yX6_isIn, Cond.static yX6_isIn, Cond.code yX6_isIn cX6_isIn 3 (some .boolean), Cond.methodLink RX6 70 yX6_chamberTold, Cond.instanceMethod yX6_chamberTold, Cond.selects RX6 yX6_chamberTold yX6_chamberTold, Cond.code yX6_chamberTold cX6_chamberTold 5 (some .int), Cond.fieldLink RX6 16 "EchoCaveModel" "room" "[I", Cond.fieldLink RX6 57 "EchoCaveModel" "passages" "I", Cond.fieldLink RX6 60 "EchoCaveModel" "water" "I", Cond.methodLink RX6 63 yX6_touches, Cond.instanceMethod yX6_touches, Cond.selects RX6 yX6_touches yX6_touches, Cond.code yX6_touches cX6_touches 3 (some .boolean), Cond.fieldLink RX6 20 "EchoCaveModel" "tunnel" "[I", Cond.methodLink RX6 67 yX6_isOpen, Cond.instanceMethod yX6_isOpen]
def wsX6_chamber_r2 : List Cond := [Cond.selects RX6 yX6_isOpen yX6_isOpen, Cond.code yX6_isOpen cX6_isOpen 3 (some .boolean), Cond.methodLink RX6 43 yX6_no, Cond.instanceMethod yX6_no, Cond.selects RX6 yX6_no yX6_no, Cond.code yX6_no cX6_no 2 (some .int)]
def wsX6_chamber : List Cond := .code yX6_chamber cX6_chamber 3 (some .int) :: ((wsX6_chamber_r1 ++ wsX6_chamber_r2) ++ wsX60)
def wsX6_passageTold : List Cond := .code yX6_passageTold cX6_passageTold 3 (some .int) :: ([.fieldLink RX6 20 "EchoCaveModel" "tunnel" "[I", .fieldLink RX6 60 "EchoCaveModel" "water" "I", .methodLink RX6 67 yX6_isOpen, .instanceMethod yX6_isOpen, .selects RX6 yX6_isOpen yX6_isOpen, .initialized RX6, .code yX6_isOpen cX6_isOpen 3 (some .boolean), .fieldLink RX6 16 "EchoCaveModel" "room" "[I"] ++ wsX60)
def wsX6_passage : List Cond := .code yX6_passage cX6_passage 3 (some .int) :: ([.fieldLink RX6 35 "EchoCaveModel" "thrown" "I", .fieldLink RX6 57 "EchoCaveModel" "passages" "I", .methodLink RX6 38 yX6_isIn, .static yX6_isIn, .initialized RX6, .code yX6_isIn cX6_isIn 3 (some .boolean), .methodLink RX6 74 yX6_passageTold, .instanceMethod yX6_passageTold, .selects RX6 yX6_passageTold yX6_passageTold, .code yX6_passageTold cX6_passageTold 3 (some .int), .fieldLink RX6 20 "EchoCaveModel" "tunnel" "[I", .fieldLink RX6 60 "EchoCaveModel" "water" "I", .methodLink RX6 67 yX6_isOpen, .instanceMethod yX6_isOpen, .selects RX6 yX6_isOpen yX6_isOpen, .code yX6_isOpen cX6_isOpen 3 (some .boolean), .fieldLink RX6 16 "EchoCaveModel" "room" "[I", .methodLink RX6 43 yX6_no, .instanceMethod yX6_no, .selects RX6 yX6_no yX6_no, .code yX6_no cX6_no 2 (some .int)] ++ wsX60)
def wsX6_say_r1 : List Cond := [Cond.fieldLink RX6 35 "EchoCaveModel" "thrown" "I", Cond.fieldLink RX6 28 "EchoCaveModel" "s" "LEchoCaveModel$Sound;", Cond.fieldLink RX6 84 "EchoCaveModel" "said" "I", Cond.methodLink RX6 77 yX6_isWord, Cond.static yX6_isWord, Cond.initialized RX6, Cond.code yX6_isWord cX6_isWord 3 (some .boolean), Cond.constant RX6 42 (999999), Cond.methodLink RX6 38 yX6_isIn, Cond.static yX6_isIn, Cond.code yX6_isIn cX6_isIn 3 (some .boolean), Cond.methodLink RX6 43 yX6_no, Cond.instanceMethod yX6_no, Cond.selects RX6 yX6_no yX6_no, Cond.code yX6_no cX6_no 2 (some .int), Cond.methodLink RX6 80 yX5_say, Cond.instanceMethod yX5_say, Cond.selects RX5 yX5_say yX5_say, Cond.initialized RX5, Cond.code yX5_say cX5_say 5 none, Cond.fieldLink RX5 110 "EchoCaveModel$Sound" "word" "I", Cond.fieldLink RX5 113 "EchoCaveModel$Sound" "places" "I", Cond.fieldLink RX5 53 "EchoCaveModel$Sound" "runs" "I", Cond.fieldLink RX5 63 "EchoCaveModel$Sound" "kept" "I"]
def wsX6_say_r2 : List Cond := [Cond.fieldLink RX5 69 "EchoCaveModel$Sound" "counted" "I", Cond.fieldLink RX5 75 "EchoCaveModel$Sound" "inOrder" "I", Cond.fieldLink RX5 72 "EchoCaveModel$Sound" "latest" "I", Cond.fieldLink RX5 50 "EchoCaveModel$Sound" "waiting" "I", Cond.fieldLink RX5 81 "EchoCaveModel$Sound" "clapped" "I", Cond.fieldLink RX5 19 "EchoCaveModel$Sound" "firsts" "[I", Cond.methodLink RX5 116 Lib.Math.max.name, Cond.static Lib.Math.max.name, Cond.initialized "java/lang/Math", Cond.code Lib.Math.max.name Lib.Math.max.code 2 (some .int), Cond.fieldLink RX5 38 "EchoCaveModel$Sound" "order" "[I", Cond.fieldLink RX5 41 "EchoCaveModel$Sound" "power" "[I", Cond.methodLink RX5 84 yX5_start, Cond.instanceMethod yX5_start, Cond.selects RX5 yX5_start yX5_start, Cond.code yX5_start cX5_start 6 none, Cond.fieldLink RX5 26 "EchoCaveModel$Sound" "place" "[I", Cond.fieldLink RX5 29 "EchoCaveModel$Sound" "syllable" "[I", Cond.fieldLink RX5 32 "EchoCaveModel$Sound" "there" "[I", Cond.fieldLink RX5 35 "EchoCaveModel$Sound" "back" "[I", Cond.methodLink RX5 56 yX5_come, Cond.instanceMethod yX5_come, Cond.selects RX5 yX5_come yX5_come, Cond.code yX5_come cX5_come 8 none]
def wsX6_say_r3 : List Cond := [Cond.methodLink RX5 122 yX5_arrive, Cond.instanceMethod yX5_arrive, Cond.selects RX5 yX5_arrive yX5_arrive, Cond.code yX5_arrive cX5_arrive 8 none, Cond.fieldLink RX5 3 "EchoCaveModel$Sound" "this$0" "LEchoCaveModel;", Cond.methodLink RX5 87 yX5_hear, Cond.instanceMethod yX5_hear, Cond.selects RX5 yX5_hear yX5_hear, Cond.code yX5_hear cX5_hear 6 none, Cond.fieldLink RX5 23 "EchoCaveModel$Sound" "heard" "[I", Cond.methodLink RX5 91 yX5_clap, Cond.instanceMethod yX5_clap, Cond.selects RX5 yX5_clap yX5_clap, Cond.code yX5_clap cX5_clap 6 none, Cond.fieldLink RX5 15 "EchoCaveModel$Sound" "chamber" "I", Cond.fieldLink RX5 44 "EchoCaveModel$Sound" "with" "I", Cond.fieldLink RX5 47 "EchoCaveModel$Sound" "late" "I", Cond.instanceMethod yX6_touches, Cond.selects RX6 yX6_touches yX6_touches, Cond.code yX6_touches cX6_touches 3 (some .boolean), Cond.fieldLink RX6 20 "EchoCaveModel" "tunnel" "[I", Cond.instanceMethod yX6_isOpen, Cond.selects RX6 yX6_isOpen yX6_isOpen, Cond.code yX6_isOpen cX6_isOpen 3 (some .boolean)]
def wsX6_say_r4 : List Cond := [Cond.fieldLink RX6 16 "EchoCaveModel" "room" "[I", Cond.methodLink RX5 107 yX5_go, Cond.instanceMethod yX5_go, Cond.selects RX5 yX5_go yX5_go, Cond.code yX5_go cX5_go 8 none]
def wsX6_say : List Cond := .code yX6_say cX6_say 3 (some .int) :: ((wsX6_say_r1 ++ (wsX6_say_r2 ++ (wsX6_say_r3 ++ wsX6_say_r4))) ++ wsX60 ++ wsX50)
def wsX6_heard : List Cond := .code yX6_heard cX6_heard 3 (some .int) :: ([.fieldLink RX6 35 "EchoCaveModel" "thrown" "I", .fieldLink RX6 28 "EchoCaveModel" "s" "LEchoCaveModel$Sound;", .methodLink RX6 38 yX6_isIn, .static yX6_isIn, .initialized RX6, .code yX6_isIn cX6_isIn 3 (some .boolean), .methodLink RX6 43 yX6_no, .instanceMethod yX6_no, .selects RX6 yX6_no yX6_no, .code yX6_no cX6_no 2 (some .int)] ++ wsX60 ++ wsX50)
def wsX6_inOrder : List Cond := .code yX6_inOrder cX6_inOrder 1 (some .boolean) :: ([.fieldLink RX6 35 "EchoCaveModel" "thrown" "I", .fieldLink RX6 28 "EchoCaveModel" "s" "LEchoCaveModel$Sound;", .methodLink RX6 96 yX5_isInOrder, .instanceMethod yX5_isInOrder, .selects RX5 yX5_isInOrder yX5_isInOrder, .initialized RX5, .code yX5_isInOrder cX5_isInOrder 1 (some .boolean), .fieldLink RX5 113 "EchoCaveModel$Sound" "places" "I", .fieldLink RX5 75 "EchoCaveModel$Sound" "inOrder" "I"] ++ wsX60 ++ wsX50)
def wsX6_first : List Cond := .code yX6_first cX6_first 2 (some .int) :: ([.fieldLink RX6 35 "EchoCaveModel" "thrown" "I", .fieldLink RX6 28 "EchoCaveModel" "s" "LEchoCaveModel$Sound;", .methodLink RX6 38 yX6_isIn, .static yX6_isIn, .initialized RX6, .code yX6_isIn cX6_isIn 3 (some .boolean), .methodLink RX6 43 yX6_no, .instanceMethod yX6_no, .selects RX6 yX6_no yX6_no, .code yX6_no cX6_no 2 (some .int)] ++ wsX60 ++ wsX50)
def wsX6_counted : List Cond := .code yX6_counted cX6_counted 4 (some .int) :: ([.fieldLink RX6 9 "EchoCaveModel" "chambers" "I", .fieldLink RX6 57 "EchoCaveModel" "passages" "I", .fieldLink RX6 60 "EchoCaveModel" "water" "I", .fieldLink RX6 16 "EchoCaveModel" "room" "[I", .fieldLink RX6 13 "EchoCaveModel" "ear" "I", .fieldLink RX6 84 "EchoCaveModel" "said" "I", .fieldLink RX6 28 "EchoCaveModel" "s" "LEchoCaveModel$Sound;", .methodLink RX6 67 yX6_isOpen, .instanceMethod yX6_isOpen, .selects RX6 yX6_isOpen yX6_isOpen, .initialized RX6, .code yX6_isOpen cX6_isOpen 3 (some .boolean), .fieldLink RX6 20 "EchoCaveModel" "tunnel" "[I"] ++ wsX60 ++ wsX50)
def wsX6_count_r1 : List Cond := [Cond.fieldLink RX6 35 "EchoCaveModel" "thrown" "I", Cond.methodLink RX6 38 yX6_isIn, Cond.static yX6_isIn, Cond.initialized RX6, Cond.code yX6_isIn cX6_isIn 3 (some .boolean), Cond.methodLink RX6 109 yX6_counted, Cond.instanceMethod yX6_counted, Cond.selects RX6 yX6_counted yX6_counted, Cond.code yX6_counted cX6_counted 4 (some .int), Cond.fieldLink RX6 9 "EchoCaveModel" "chambers" "I", Cond.fieldLink RX6 57 "EchoCaveModel" "passages" "I", Cond.fieldLink RX6 60 "EchoCaveModel" "water" "I", Cond.fieldLink RX6 16 "EchoCaveModel" "room" "[I", Cond.fieldLink RX6 13 "EchoCaveModel" "ear" "I", Cond.fieldLink RX6 84 "EchoCaveModel" "said" "I", Cond.fieldLink RX6 28 "EchoCaveModel" "s" "LEchoCaveModel$Sound;", Cond.methodLink RX6 67 yX6_isOpen, Cond.instanceMethod yX6_isOpen, Cond.selects RX6 yX6_isOpen yX6_isOpen, Cond.code yX6_isOpen cX6_isOpen 3 (some .boolean), Cond.fieldLink RX6 20 "EchoCaveModel" "tunnel" "[I", Cond.methodLink RX6 43 yX6_no, Cond.instanceMethod yX6_no, Cond.selects RX6 yX6_no yX6_no]
def wsX6_count_r2 : List Cond := [Cond.code yX6_no cX6_no 2 (some .int)]
def wsX6_count : List Cond := .code yX6_count cX6_count 2 (some .int) :: ((wsX6_count_r1 ++ wsX6_count_r2) ++ wsX60 ++ wsX50)
def wsX6_comes_r1 : List Cond := [Cond.fieldLink RX6 32 "EchoCaveModel" "ahead" "LEchoCaveModel$Sound;", Cond.methodLink RX6 80 yX5_say, Cond.instanceMethod yX5_say, Cond.selects RX5 yX5_say yX5_say, Cond.initialized RX5, Cond.code yX5_say cX5_say 5 none, Cond.fieldLink RX5 110 "EchoCaveModel$Sound" "word" "I", Cond.fieldLink RX5 113 "EchoCaveModel$Sound" "places" "I", Cond.fieldLink RX5 53 "EchoCaveModel$Sound" "runs" "I", Cond.fieldLink RX5 63 "EchoCaveModel$Sound" "kept" "I", Cond.fieldLink RX5 69 "EchoCaveModel$Sound" "counted" "I", Cond.fieldLink RX5 75 "EchoCaveModel$Sound" "inOrder" "I", Cond.fieldLink RX5 72 "EchoCaveModel$Sound" "latest" "I", Cond.fieldLink RX5 50 "EchoCaveModel$Sound" "waiting" "I", Cond.fieldLink RX5 81 "EchoCaveModel$Sound" "clapped" "I", Cond.fieldLink RX5 19 "EchoCaveModel$Sound" "firsts" "[I", Cond.methodLink RX5 116 Lib.Math.max.name, Cond.static Lib.Math.max.name, Cond.initialized "java/lang/Math", Cond.code Lib.Math.max.name Lib.Math.max.code 2 (some .int), Cond.fieldLink RX5 38 "EchoCaveModel$Sound" "order" "[I", Cond.fieldLink RX5 41 "EchoCaveModel$Sound" "power" "[I", Cond.methodLink RX5 84 yX5_start, Cond.instanceMethod yX5_start]
def wsX6_comes_r2 : List Cond := [Cond.selects RX5 yX5_start yX5_start, Cond.code yX5_start cX5_start 6 none, Cond.fieldLink RX5 26 "EchoCaveModel$Sound" "place" "[I", Cond.fieldLink RX5 29 "EchoCaveModel$Sound" "syllable" "[I", Cond.fieldLink RX5 32 "EchoCaveModel$Sound" "there" "[I", Cond.fieldLink RX5 35 "EchoCaveModel$Sound" "back" "[I", Cond.methodLink RX5 56 yX5_come, Cond.instanceMethod yX5_come, Cond.selects RX5 yX5_come yX5_come, Cond.code yX5_come cX5_come 8 none, Cond.methodLink RX5 122 yX5_arrive, Cond.instanceMethod yX5_arrive, Cond.selects RX5 yX5_arrive yX5_arrive, Cond.code yX5_arrive cX5_arrive 8 none, Cond.fieldLink RX5 3 "EchoCaveModel$Sound" "this$0" "LEchoCaveModel;", Cond.methodLink RX5 87 yX5_hear, Cond.instanceMethod yX5_hear, Cond.selects RX5 yX5_hear yX5_hear, Cond.code yX5_hear cX5_hear 6 none, Cond.fieldLink RX5 23 "EchoCaveModel$Sound" "heard" "[I", Cond.methodLink RX5 91 yX5_clap, Cond.instanceMethod yX5_clap, Cond.selects RX5 yX5_clap yX5_clap, Cond.code yX5_clap cX5_clap 6 none]
def wsX6_comes_r3 : List Cond := [Cond.fieldLink RX5 15 "EchoCaveModel$Sound" "chamber" "I", Cond.fieldLink RX5 44 "EchoCaveModel$Sound" "with" "I", Cond.fieldLink RX5 47 "EchoCaveModel$Sound" "late" "I", Cond.instanceMethod yX6_touches, Cond.initialized RX6, Cond.selects RX6 yX6_touches yX6_touches, Cond.code yX6_touches cX6_touches 3 (some .boolean), Cond.fieldLink RX6 20 "EchoCaveModel" "tunnel" "[I", Cond.instanceMethod yX6_isOpen, Cond.selects RX6 yX6_isOpen yX6_isOpen, Cond.code yX6_isOpen cX6_isOpen 3 (some .boolean), Cond.fieldLink RX6 16 "EchoCaveModel" "room" "[I", Cond.methodLink RX5 107 yX5_go, Cond.instanceMethod yX5_go, Cond.selects RX5 yX5_go yX5_go, Cond.code yX5_go cX5_go 8 none, Cond.methodLink RX6 96 yX5_isInOrder, Cond.instanceMethod yX5_isInOrder, Cond.selects RX5 yX5_isInOrder yX5_isInOrder, Cond.code yX5_isInOrder cX5_isInOrder 1 (some .boolean)]
def wsX6_comes : List Cond := .code yX6_comes cX6_comes 3 (some .boolean) :: ((wsX6_comes_r1 ++ (wsX6_comes_r2 ++ wsX6_comes_r3)) ++ wsX60 ++ wsX50)
def wsX6_would_r1 : List Cond := [Cond.fieldLink RX6 35 "EchoCaveModel" "thrown" "I", Cond.fieldLink RX6 32 "EchoCaveModel" "ahead" "LEchoCaveModel$Sound;", Cond.methodLink RX6 77 yX6_isWord, Cond.static yX6_isWord, Cond.initialized RX6, Cond.code yX6_isWord cX6_isWord 3 (some .boolean), Cond.constant RX6 42 (999999), Cond.methodLink RX6 38 yX6_isIn, Cond.static yX6_isIn, Cond.code yX6_isIn cX6_isIn 3 (some .boolean), Cond.methodLink RX6 43 yX6_no, Cond.instanceMethod yX6_no, Cond.selects RX6 yX6_no yX6_no, Cond.code yX6_no cX6_no 2 (some .int), Cond.methodLink RX6 111 yX6_comes, Cond.instanceMethod yX6_comes, Cond.selects RX6 yX6_comes yX6_comes, Cond.code yX6_comes cX6_comes 3 (some .boolean), Cond.methodLink RX6 80 yX5_say, Cond.instanceMethod yX5_say, Cond.selects RX5 yX5_say yX5_say, Cond.initialized RX5, Cond.code yX5_say cX5_say 5 none, Cond.fieldLink RX5 110 "EchoCaveModel$Sound" "word" "I"]
def wsX6_would_r2 : List Cond := [Cond.fieldLink RX5 113 "EchoCaveModel$Sound" "places" "I", Cond.fieldLink RX5 53 "EchoCaveModel$Sound" "runs" "I", Cond.fieldLink RX5 63 "EchoCaveModel$Sound" "kept" "I", Cond.fieldLink RX5 69 "EchoCaveModel$Sound" "counted" "I", Cond.fieldLink RX5 75 "EchoCaveModel$Sound" "inOrder" "I", Cond.fieldLink RX5 72 "EchoCaveModel$Sound" "latest" "I", Cond.fieldLink RX5 50 "EchoCaveModel$Sound" "waiting" "I", Cond.fieldLink RX5 81 "EchoCaveModel$Sound" "clapped" "I", Cond.fieldLink RX5 19 "EchoCaveModel$Sound" "firsts" "[I", Cond.methodLink RX5 116 Lib.Math.max.name, Cond.static Lib.Math.max.name, Cond.initialized "java/lang/Math", Cond.code Lib.Math.max.name Lib.Math.max.code 2 (some .int), Cond.fieldLink RX5 38 "EchoCaveModel$Sound" "order" "[I", Cond.fieldLink RX5 41 "EchoCaveModel$Sound" "power" "[I", Cond.methodLink RX5 84 yX5_start, Cond.instanceMethod yX5_start, Cond.selects RX5 yX5_start yX5_start, Cond.code yX5_start cX5_start 6 none, Cond.fieldLink RX5 26 "EchoCaveModel$Sound" "place" "[I", Cond.fieldLink RX5 29 "EchoCaveModel$Sound" "syllable" "[I", Cond.fieldLink RX5 32 "EchoCaveModel$Sound" "there" "[I", Cond.fieldLink RX5 35 "EchoCaveModel$Sound" "back" "[I", Cond.methodLink RX5 56 yX5_come]
def wsX6_would_r3 : List Cond := [Cond.instanceMethod yX5_come, Cond.selects RX5 yX5_come yX5_come, Cond.code yX5_come cX5_come 8 none, Cond.methodLink RX5 122 yX5_arrive, Cond.instanceMethod yX5_arrive, Cond.selects RX5 yX5_arrive yX5_arrive, Cond.code yX5_arrive cX5_arrive 8 none, Cond.fieldLink RX5 3 "EchoCaveModel$Sound" "this$0" "LEchoCaveModel;", Cond.methodLink RX5 87 yX5_hear, Cond.instanceMethod yX5_hear, Cond.selects RX5 yX5_hear yX5_hear, Cond.code yX5_hear cX5_hear 6 none, Cond.fieldLink RX5 23 "EchoCaveModel$Sound" "heard" "[I", Cond.methodLink RX5 91 yX5_clap, Cond.instanceMethod yX5_clap, Cond.selects RX5 yX5_clap yX5_clap, Cond.code yX5_clap cX5_clap 6 none, Cond.fieldLink RX5 15 "EchoCaveModel$Sound" "chamber" "I", Cond.fieldLink RX5 44 "EchoCaveModel$Sound" "with" "I", Cond.fieldLink RX5 47 "EchoCaveModel$Sound" "late" "I", Cond.instanceMethod yX6_touches, Cond.selects RX6 yX6_touches yX6_touches, Cond.code yX6_touches cX6_touches 3 (some .boolean), Cond.fieldLink RX6 20 "EchoCaveModel" "tunnel" "[I"]
def wsX6_would_r4 : List Cond := [Cond.instanceMethod yX6_isOpen, Cond.selects RX6 yX6_isOpen yX6_isOpen, Cond.code yX6_isOpen cX6_isOpen 3 (some .boolean), Cond.fieldLink RX6 16 "EchoCaveModel" "room" "[I", Cond.methodLink RX5 107 yX5_go, Cond.instanceMethod yX5_go, Cond.selects RX5 yX5_go yX5_go, Cond.code yX5_go cX5_go 8 none, Cond.methodLink RX6 96 yX5_isInOrder, Cond.instanceMethod yX5_isInOrder, Cond.selects RX5 yX5_isInOrder yX5_isInOrder, Cond.code yX5_isInOrder cX5_isInOrder 1 (some .boolean)]
def wsX6_would : List Cond := .code yX6_would cX6_would 5 (some .int) :: ((wsX6_would_r1 ++ (wsX6_would_r2 ++ (wsX6_would_r3 ++ wsX6_would_r4))) ++ wsX60 ++ wsX50)
def wsX6_advise_r1 : List Cond := [Cond.fieldLink RX6 35 "EchoCaveModel" "thrown" "I", Cond.fieldLink RX6 9 "EchoCaveModel" "chambers" "I", Cond.fieldLink RX6 32 "EchoCaveModel" "ahead" "LEchoCaveModel$Sound;", Cond.methodLink RX6 77 yX6_isWord, Cond.static yX6_isWord, Cond.initialized RX6, Cond.code yX6_isWord cX6_isWord 3 (some .boolean), Cond.constant RX6 42 (999999), Cond.methodLink RX6 38 yX6_isIn, Cond.static yX6_isIn, Cond.code yX6_isIn cX6_isIn 3 (some .boolean), Cond.methodLink RX6 43 yX6_no, Cond.instanceMethod yX6_no, Cond.selects RX6 yX6_no yX6_no, Cond.code yX6_no cX6_no 2 (some .int), Cond.methodLink RX6 120 yX5_instead, Cond.instanceMethod yX5_instead, Cond.selects RX5 yX5_instead yX5_instead, Cond.initialized RX5, Cond.code yX5_instead cX5_instead 4 none, Cond.fieldLink RX5 15 "EchoCaveModel$Sound" "chamber" "I", Cond.fieldLink RX5 44 "EchoCaveModel$Sound" "with" "I", Cond.fieldLink RX5 47 "EchoCaveModel$Sound" "late" "I", Cond.methodLink RX6 111 yX6_comes]
def wsX6_advise_r2 : List Cond := [Cond.instanceMethod yX6_comes, Cond.selects RX6 yX6_comes yX6_comes, Cond.code yX6_comes cX6_comes 3 (some .boolean), Cond.methodLink RX6 80 yX5_say, Cond.instanceMethod yX5_say, Cond.selects RX5 yX5_say yX5_say, Cond.code yX5_say cX5_say 5 none, Cond.fieldLink RX5 110 "EchoCaveModel$Sound" "word" "I", Cond.fieldLink RX5 113 "EchoCaveModel$Sound" "places" "I", Cond.fieldLink RX5 53 "EchoCaveModel$Sound" "runs" "I", Cond.fieldLink RX5 63 "EchoCaveModel$Sound" "kept" "I", Cond.fieldLink RX5 69 "EchoCaveModel$Sound" "counted" "I", Cond.fieldLink RX5 75 "EchoCaveModel$Sound" "inOrder" "I", Cond.fieldLink RX5 72 "EchoCaveModel$Sound" "latest" "I", Cond.fieldLink RX5 50 "EchoCaveModel$Sound" "waiting" "I", Cond.fieldLink RX5 81 "EchoCaveModel$Sound" "clapped" "I", Cond.fieldLink RX5 19 "EchoCaveModel$Sound" "firsts" "[I", Cond.methodLink RX5 116 Lib.Math.max.name, Cond.static Lib.Math.max.name, Cond.initialized "java/lang/Math", Cond.code Lib.Math.max.name Lib.Math.max.code 2 (some .int), Cond.fieldLink RX5 38 "EchoCaveModel$Sound" "order" "[I", Cond.fieldLink RX5 41 "EchoCaveModel$Sound" "power" "[I", Cond.methodLink RX5 84 yX5_start]
def wsX6_advise_r3 : List Cond := [Cond.instanceMethod yX5_start, Cond.selects RX5 yX5_start yX5_start, Cond.code yX5_start cX5_start 6 none, Cond.fieldLink RX5 26 "EchoCaveModel$Sound" "place" "[I", Cond.fieldLink RX5 29 "EchoCaveModel$Sound" "syllable" "[I", Cond.fieldLink RX5 32 "EchoCaveModel$Sound" "there" "[I", Cond.fieldLink RX5 35 "EchoCaveModel$Sound" "back" "[I", Cond.methodLink RX5 56 yX5_come, Cond.instanceMethod yX5_come, Cond.selects RX5 yX5_come yX5_come, Cond.code yX5_come cX5_come 8 none, Cond.methodLink RX5 122 yX5_arrive, Cond.instanceMethod yX5_arrive, Cond.selects RX5 yX5_arrive yX5_arrive, Cond.code yX5_arrive cX5_arrive 8 none, Cond.fieldLink RX5 3 "EchoCaveModel$Sound" "this$0" "LEchoCaveModel;", Cond.methodLink RX5 87 yX5_hear, Cond.instanceMethod yX5_hear, Cond.selects RX5 yX5_hear yX5_hear, Cond.code yX5_hear cX5_hear 6 none, Cond.fieldLink RX5 23 "EchoCaveModel$Sound" "heard" "[I", Cond.methodLink RX5 91 yX5_clap, Cond.instanceMethod yX5_clap, Cond.selects RX5 yX5_clap yX5_clap]
def wsX6_advise_r4 : List Cond := [Cond.code yX5_clap cX5_clap 6 none, Cond.instanceMethod yX6_touches, Cond.selects RX6 yX6_touches yX6_touches, Cond.code yX6_touches cX6_touches 3 (some .boolean), Cond.fieldLink RX6 20 "EchoCaveModel" "tunnel" "[I", Cond.instanceMethod yX6_isOpen, Cond.selects RX6 yX6_isOpen yX6_isOpen, Cond.code yX6_isOpen cX6_isOpen 3 (some .boolean), Cond.fieldLink RX6 16 "EchoCaveModel" "room" "[I", Cond.methodLink RX5 107 yX5_go, Cond.instanceMethod yX5_go, Cond.selects RX5 yX5_go yX5_go, Cond.code yX5_go cX5_go 8 none, Cond.methodLink RX6 96 yX5_isInOrder, Cond.instanceMethod yX5_isInOrder, Cond.selects RX5 yX5_isInOrder yX5_isInOrder, Cond.code yX5_isInOrder cX5_isInOrder 1 (some .boolean)]
def wsX6_advise : List Cond := .code yX6_advise cX6_advise 7 (some .int) :: ((wsX6_advise_r1 ++ (wsX6_advise_r2 ++ (wsX6_advise_r3 ++ wsX6_advise_r4))) ++ wsX60 ++ wsX50)
def wsX6_longest_r1 : List Cond := [Cond.fieldLink RX6 35 "EchoCaveModel" "thrown" "I", Cond.methodLink RX6 38 yX6_isIn, Cond.static yX6_isIn, Cond.initialized RX6, Cond.code yX6_isIn cX6_isIn 3 (some .boolean), Cond.methodLink RX6 43 yX6_no, Cond.instanceMethod yX6_no, Cond.selects RX6 yX6_no yX6_no, Cond.code yX6_no cX6_no 2 (some .int), Cond.methodLink RX6 111 yX6_comes, Cond.instanceMethod yX6_comes, Cond.selects RX6 yX6_comes yX6_comes, Cond.code yX6_comes cX6_comes 3 (some .boolean), Cond.fieldLink RX6 32 "EchoCaveModel" "ahead" "LEchoCaveModel$Sound;", Cond.methodLink RX6 80 yX5_say, Cond.instanceMethod yX5_say, Cond.selects RX5 yX5_say yX5_say, Cond.initialized RX5, Cond.code yX5_say cX5_say 5 none, Cond.fieldLink RX5 110 "EchoCaveModel$Sound" "word" "I", Cond.fieldLink RX5 113 "EchoCaveModel$Sound" "places" "I", Cond.fieldLink RX5 53 "EchoCaveModel$Sound" "runs" "I", Cond.fieldLink RX5 63 "EchoCaveModel$Sound" "kept" "I", Cond.fieldLink RX5 69 "EchoCaveModel$Sound" "counted" "I"]
def wsX6_longest_r2 : List Cond := [Cond.fieldLink RX5 75 "EchoCaveModel$Sound" "inOrder" "I", Cond.fieldLink RX5 72 "EchoCaveModel$Sound" "latest" "I", Cond.fieldLink RX5 50 "EchoCaveModel$Sound" "waiting" "I", Cond.fieldLink RX5 81 "EchoCaveModel$Sound" "clapped" "I", Cond.fieldLink RX5 19 "EchoCaveModel$Sound" "firsts" "[I", Cond.methodLink RX5 116 Lib.Math.max.name, Cond.static Lib.Math.max.name, Cond.initialized "java/lang/Math", Cond.code Lib.Math.max.name Lib.Math.max.code 2 (some .int), Cond.fieldLink RX5 38 "EchoCaveModel$Sound" "order" "[I", Cond.fieldLink RX5 41 "EchoCaveModel$Sound" "power" "[I", Cond.methodLink RX5 84 yX5_start, Cond.instanceMethod yX5_start, Cond.selects RX5 yX5_start yX5_start, Cond.code yX5_start cX5_start 6 none, Cond.fieldLink RX5 26 "EchoCaveModel$Sound" "place" "[I", Cond.fieldLink RX5 29 "EchoCaveModel$Sound" "syllable" "[I", Cond.fieldLink RX5 32 "EchoCaveModel$Sound" "there" "[I", Cond.fieldLink RX5 35 "EchoCaveModel$Sound" "back" "[I", Cond.methodLink RX5 56 yX5_come, Cond.instanceMethod yX5_come, Cond.selects RX5 yX5_come yX5_come, Cond.code yX5_come cX5_come 8 none, Cond.methodLink RX5 122 yX5_arrive]
def wsX6_longest_r3 : List Cond := [Cond.instanceMethod yX5_arrive, Cond.selects RX5 yX5_arrive yX5_arrive, Cond.code yX5_arrive cX5_arrive 8 none, Cond.fieldLink RX5 3 "EchoCaveModel$Sound" "this$0" "LEchoCaveModel;", Cond.methodLink RX5 87 yX5_hear, Cond.instanceMethod yX5_hear, Cond.selects RX5 yX5_hear yX5_hear, Cond.code yX5_hear cX5_hear 6 none, Cond.fieldLink RX5 23 "EchoCaveModel$Sound" "heard" "[I", Cond.methodLink RX5 91 yX5_clap, Cond.instanceMethod yX5_clap, Cond.selects RX5 yX5_clap yX5_clap, Cond.code yX5_clap cX5_clap 6 none, Cond.fieldLink RX5 15 "EchoCaveModel$Sound" "chamber" "I", Cond.fieldLink RX5 44 "EchoCaveModel$Sound" "with" "I", Cond.fieldLink RX5 47 "EchoCaveModel$Sound" "late" "I", Cond.instanceMethod yX6_touches, Cond.selects RX6 yX6_touches yX6_touches, Cond.code yX6_touches cX6_touches 3 (some .boolean), Cond.fieldLink RX6 20 "EchoCaveModel" "tunnel" "[I", Cond.instanceMethod yX6_isOpen, Cond.selects RX6 yX6_isOpen yX6_isOpen, Cond.code yX6_isOpen cX6_isOpen 3 (some .boolean), Cond.fieldLink RX6 16 "EchoCaveModel" "room" "[I"]
def wsX6_longest_r4 : List Cond := [Cond.methodLink RX5 107 yX5_go, Cond.instanceMethod yX5_go, Cond.selects RX5 yX5_go yX5_go, Cond.code yX5_go cX5_go 8 none, Cond.methodLink RX6 96 yX5_isInOrder, Cond.instanceMethod yX5_isInOrder, Cond.selects RX5 yX5_isInOrder yX5_isInOrder, Cond.code yX5_isInOrder cX5_isInOrder 1 (some .boolean)]
def wsX6_longest : List Cond := .code yX6_longest cX6_longest 6 (some .int) :: ((wsX6_longest_r1 ++ (wsX6_longest_r2 ++ (wsX6_longest_r3 ++ wsX6_longest_r4))) ++ wsX60 ++ wsX50)
def wsX6_quickest_r1 : List Cond := [Cond.fieldLink RX6 35 "EchoCaveModel" "thrown" "I", Cond.methodLink RX6 77 yX6_isWord, Cond.static yX6_isWord, Cond.initialized RX6, Cond.code yX6_isWord cX6_isWord 3 (some .boolean), Cond.constant RX6 42 (999999), Cond.methodLink RX6 38 yX6_isIn, Cond.static yX6_isIn, Cond.code yX6_isIn cX6_isIn 3 (some .boolean), Cond.methodLink RX6 43 yX6_no, Cond.instanceMethod yX6_no, Cond.selects RX6 yX6_no yX6_no, Cond.code yX6_no cX6_no 2 (some .int), Cond.methodLink RX6 111 yX6_comes, Cond.instanceMethod yX6_comes, Cond.selects RX6 yX6_comes yX6_comes, Cond.code yX6_comes cX6_comes 3 (some .boolean), Cond.fieldLink RX6 32 "EchoCaveModel" "ahead" "LEchoCaveModel$Sound;", Cond.methodLink RX6 80 yX5_say, Cond.instanceMethod yX5_say, Cond.selects RX5 yX5_say yX5_say, Cond.initialized RX5, Cond.code yX5_say cX5_say 5 none, Cond.fieldLink RX5 110 "EchoCaveModel$Sound" "word" "I"]
def wsX6_quickest_r2 : List Cond := [Cond.fieldLink RX5 113 "EchoCaveModel$Sound" "places" "I", Cond.fieldLink RX5 53 "EchoCaveModel$Sound" "runs" "I", Cond.fieldLink RX5 63 "EchoCaveModel$Sound" "kept" "I", Cond.fieldLink RX5 69 "EchoCaveModel$Sound" "counted" "I", Cond.fieldLink RX5 75 "EchoCaveModel$Sound" "inOrder" "I", Cond.fieldLink RX5 72 "EchoCaveModel$Sound" "latest" "I", Cond.fieldLink RX5 50 "EchoCaveModel$Sound" "waiting" "I", Cond.fieldLink RX5 81 "EchoCaveModel$Sound" "clapped" "I", Cond.fieldLink RX5 19 "EchoCaveModel$Sound" "firsts" "[I", Cond.methodLink RX5 116 Lib.Math.max.name, Cond.static Lib.Math.max.name, Cond.initialized "java/lang/Math", Cond.code Lib.Math.max.name Lib.Math.max.code 2 (some .int), Cond.fieldLink RX5 38 "EchoCaveModel$Sound" "order" "[I", Cond.fieldLink RX5 41 "EchoCaveModel$Sound" "power" "[I", Cond.methodLink RX5 84 yX5_start, Cond.instanceMethod yX5_start, Cond.selects RX5 yX5_start yX5_start, Cond.code yX5_start cX5_start 6 none, Cond.fieldLink RX5 26 "EchoCaveModel$Sound" "place" "[I", Cond.fieldLink RX5 29 "EchoCaveModel$Sound" "syllable" "[I", Cond.fieldLink RX5 32 "EchoCaveModel$Sound" "there" "[I", Cond.fieldLink RX5 35 "EchoCaveModel$Sound" "back" "[I", Cond.methodLink RX5 56 yX5_come]
def wsX6_quickest_r3 : List Cond := [Cond.instanceMethod yX5_come, Cond.selects RX5 yX5_come yX5_come, Cond.code yX5_come cX5_come 8 none, Cond.methodLink RX5 122 yX5_arrive, Cond.instanceMethod yX5_arrive, Cond.selects RX5 yX5_arrive yX5_arrive, Cond.code yX5_arrive cX5_arrive 8 none, Cond.fieldLink RX5 3 "EchoCaveModel$Sound" "this$0" "LEchoCaveModel;", Cond.methodLink RX5 87 yX5_hear, Cond.instanceMethod yX5_hear, Cond.selects RX5 yX5_hear yX5_hear, Cond.code yX5_hear cX5_hear 6 none, Cond.fieldLink RX5 23 "EchoCaveModel$Sound" "heard" "[I", Cond.methodLink RX5 91 yX5_clap, Cond.instanceMethod yX5_clap, Cond.selects RX5 yX5_clap yX5_clap, Cond.code yX5_clap cX5_clap 6 none, Cond.fieldLink RX5 15 "EchoCaveModel$Sound" "chamber" "I", Cond.fieldLink RX5 44 "EchoCaveModel$Sound" "with" "I", Cond.fieldLink RX5 47 "EchoCaveModel$Sound" "late" "I", Cond.instanceMethod yX6_touches, Cond.selects RX6 yX6_touches yX6_touches, Cond.code yX6_touches cX6_touches 3 (some .boolean), Cond.fieldLink RX6 20 "EchoCaveModel" "tunnel" "[I"]
def wsX6_quickest_r4 : List Cond := [Cond.instanceMethod yX6_isOpen, Cond.selects RX6 yX6_isOpen yX6_isOpen, Cond.code yX6_isOpen cX6_isOpen 3 (some .boolean), Cond.fieldLink RX6 16 "EchoCaveModel" "room" "[I", Cond.methodLink RX5 107 yX5_go, Cond.instanceMethod yX5_go, Cond.selects RX5 yX5_go yX5_go, Cond.code yX5_go cX5_go 8 none, Cond.methodLink RX6 96 yX5_isInOrder, Cond.instanceMethod yX5_isInOrder, Cond.selects RX5 yX5_isInOrder yX5_isInOrder, Cond.code yX5_isInOrder cX5_isInOrder 1 (some .boolean)]
def wsX6_quickest : List Cond := .code yX6_quickest cX6_quickest 3 (some .int) :: ((wsX6_quickest_r1 ++ (wsX6_quickest_r2 ++ (wsX6_quickest_r3 ++ wsX6_quickest_r4))) ++ wsX60 ++ wsX50)
def wsX6_shortest : List Cond := .code yX6_shortest cX6_shortest 10 (some .int) :: ([.arrayClass .int, .fieldLink RX6 9 "EchoCaveModel" "chambers" "I", .fieldLink RX6 57 "EchoCaveModel" "passages" "I", .fieldLink RX6 20 "EchoCaveModel" "tunnel" "[I", .methodLink RX6 124 Lib.Math.min.name, .static Lib.Math.min.name, .initialized "java/lang/Math", .code Lib.Math.min.name Lib.Math.min.code 2 (some .int), .methodLink RX6 67 yX6_isOpen, .instanceMethod yX6_isOpen, .selects RX6 yX6_isOpen yX6_isOpen, .initialized RX6, .code yX6_isOpen cX6_isOpen 3 (some .boolean), .fieldLink RX6 16 "EchoCaveModel" "room" "[I"] ++ wsX60)
def wsX6_way_r1 : List Cond := [Cond.fieldLink RX6 35 "EchoCaveModel" "thrown" "I", Cond.fieldLink RX6 60 "EchoCaveModel" "water" "I", Cond.methodLink RX6 53 yX6_isChamber, Cond.instanceMethod yX6_isChamber, Cond.selects RX6 yX6_isChamber yX6_isChamber, Cond.initialized RX6, Cond.code yX6_isChamber cX6_isChamber 2 (some .boolean), Cond.fieldLink RX6 9 "EchoCaveModel" "chambers" "I", Cond.methodLink RX6 38 yX6_isIn, Cond.static yX6_isIn, Cond.code yX6_isIn cX6_isIn 3 (some .boolean), Cond.methodLink RX6 129 yX6_shortest, Cond.instanceMethod yX6_shortest, Cond.selects RX6 yX6_shortest yX6_shortest, Cond.code yX6_shortest cX6_shortest 10 (some .int), Cond.arrayClass .int, Cond.fieldLink RX6 57 "EchoCaveModel" "passages" "I", Cond.fieldLink RX6 20 "EchoCaveModel" "tunnel" "[I", Cond.methodLink RX6 124 Lib.Math.min.name, Cond.static Lib.Math.min.name, Cond.initialized "java/lang/Math", Cond.code Lib.Math.min.name Lib.Math.min.code 2 (some .int), Cond.methodLink RX6 67 yX6_isOpen, Cond.instanceMethod yX6_isOpen]
def wsX6_way_r2 : List Cond := [Cond.selects RX6 yX6_isOpen yX6_isOpen, Cond.code yX6_isOpen cX6_isOpen 3 (some .boolean), Cond.fieldLink RX6 16 "EchoCaveModel" "room" "[I", Cond.methodLink RX6 43 yX6_no, Cond.instanceMethod yX6_no, Cond.selects RX6 yX6_no yX6_no, Cond.code yX6_no cX6_no 2 (some .int)]
def wsX6_way : List Cond := .code yX6_way cX6_way 3 (some .int) :: ((wsX6_way_r1 ++ wsX6_way_r2) ++ wsX60)
def wsX6_highest_r1 : List Cond := [Cond.fieldLink RX6 35 "EchoCaveModel" "thrown" "I", Cond.methodLink RX6 53 yX6_isChamber, Cond.instanceMethod yX6_isChamber, Cond.selects RX6 yX6_isChamber yX6_isChamber, Cond.initialized RX6, Cond.code yX6_isChamber cX6_isChamber 2 (some .boolean), Cond.fieldLink RX6 9 "EchoCaveModel" "chambers" "I", Cond.methodLink RX6 38 yX6_isIn, Cond.static yX6_isIn, Cond.code yX6_isIn cX6_isIn 3 (some .boolean), Cond.methodLink RX6 43 yX6_no, Cond.instanceMethod yX6_no, Cond.selects RX6 yX6_no yX6_no, Cond.code yX6_no cX6_no 2 (some .int), Cond.methodLink RX6 129 yX6_shortest, Cond.instanceMethod yX6_shortest, Cond.selects RX6 yX6_shortest yX6_shortest, Cond.code yX6_shortest cX6_shortest 10 (some .int), Cond.arrayClass .int, Cond.fieldLink RX6 57 "EchoCaveModel" "passages" "I", Cond.fieldLink RX6 20 "EchoCaveModel" "tunnel" "[I", Cond.methodLink RX6 124 Lib.Math.min.name, Cond.static Lib.Math.min.name, Cond.initialized "java/lang/Math"]
def wsX6_highest_r2 : List Cond := [Cond.code Lib.Math.min.name Lib.Math.min.code 2 (some .int), Cond.methodLink RX6 67 yX6_isOpen, Cond.instanceMethod yX6_isOpen, Cond.selects RX6 yX6_isOpen yX6_isOpen, Cond.code yX6_isOpen cX6_isOpen 3 (some .boolean), Cond.fieldLink RX6 16 "EchoCaveModel" "room" "[I"]
def wsX6_highest : List Cond := .code yX6_highest cX6_highest 3 (some .int) :: ((wsX6_highest_r1 ++ wsX6_highest_r2) ++ wsX60)
def wsX6_mean : List Cond := .code yX6_mean cX6_mean 3 (some .double) :: ([.fieldLink RX6 35 "EchoCaveModel" "thrown" "I", .fieldLink RX6 28 "EchoCaveModel" "s" "LEchoCaveModel$Sound;"] ++ wsX60 ++ wsX50)
def wsX6_digest_r1 : List Cond := [Cond.fieldLink RX6 35 "EchoCaveModel" "thrown" "I", Cond.constantLong RX6 133 (691), Cond.constantLong RX6 135 (31), Cond.fieldLink RX6 9 "EchoCaveModel" "chambers" "I", Cond.fieldLink RX6 57 "EchoCaveModel" "passages" "I", Cond.fieldLink RX6 28 "EchoCaveModel" "s" "LEchoCaveModel$Sound;", Cond.methodLink RX6 109 yX6_counted, Cond.instanceMethod yX6_counted, Cond.selects RX6 yX6_counted yX6_counted, Cond.initialized RX6, Cond.code yX6_counted cX6_counted 4 (some .int), Cond.fieldLink RX6 60 "EchoCaveModel" "water" "I", Cond.fieldLink RX6 16 "EchoCaveModel" "room" "[I", Cond.fieldLink RX6 13 "EchoCaveModel" "ear" "I", Cond.fieldLink RX6 84 "EchoCaveModel" "said" "I", Cond.methodLink RX6 67 yX6_isOpen, Cond.instanceMethod yX6_isOpen, Cond.selects RX6 yX6_isOpen yX6_isOpen, Cond.code yX6_isOpen cX6_isOpen 3 (some .boolean), Cond.fieldLink RX6 20 "EchoCaveModel" "tunnel" "[I", Cond.methodLink RX6 70 yX6_chamberTold, Cond.instanceMethod yX6_chamberTold, Cond.selects RX6 yX6_chamberTold yX6_chamberTold, Cond.code yX6_chamberTold cX6_chamberTold 5 (some .int)]
def wsX6_digest_r2 : List Cond := [Cond.methodLink RX6 63 yX6_touches, Cond.instanceMethod yX6_touches, Cond.selects RX6 yX6_touches yX6_touches, Cond.code yX6_touches cX6_touches 3 (some .boolean), Cond.methodLink RX6 74 yX6_passageTold, Cond.instanceMethod yX6_passageTold, Cond.selects RX6 yX6_passageTold yX6_passageTold, Cond.code yX6_passageTold cX6_passageTold 3 (some .int), Cond.methodLink RX6 96 yX5_isInOrder, Cond.instanceMethod yX5_isInOrder, Cond.selects RX5 yX5_isInOrder yX5_isInOrder, Cond.initialized RX5, Cond.code yX5_isInOrder cX5_isInOrder 1 (some .boolean), Cond.fieldLink RX5 113 "EchoCaveModel$Sound" "places" "I", Cond.fieldLink RX5 75 "EchoCaveModel$Sound" "inOrder" "I"]
def wsX6_digest : List Cond := .code yX6_digest cX6_digest 5 (some .long) :: ((wsX6_digest_r1 ++ wsX6_digest_r2) ++ wsX60 ++ wsX50)
def wsJ9_max_7cf53 : List Cond := .code yJ9_max_7cf53 cJ9_max_7cf53 2 (some .int) :: ([])
def wsJ9_min_7cf53 : List Cond := .code yJ9_min_7cf53 cJ9_min_7cf53 2 (some .int) :: ([])
def wsL_addChamber_r1 : List Cond := [Cond.classLink RL 13 "java/lang/IllegalArgumentException", Cond.classLink RL 15 "java/lang/IllegalStateException", Cond.methodLink RL 7 yX4_addChamber, Cond.instanceMethod yX4_addChamber, Cond.selects RX4 yX4_addChamber yX4_addChamber, Cond.initialized RX4, Cond.code yX4_addChamber cX4_addChamber 4 (some .int), Cond.classLink RX4 56 "java/lang/IllegalStateException", Cond.initialized "java/lang/IllegalStateException", Cond.fieldLink RX4 12 "EchoCave" "cave" "LEchoCave$Cave;", Cond.methodLink RX4 45 yX4_isWithin, Cond.static yX4_isWithin, Cond.code yX4_isWithin cX4_isWithin 3 (some .boolean), Cond.methodLink RX4 49 yX4_requireArgument, Cond.static yX4_requireArgument, Cond.code yX4_requireArgument cX4_requireArgument 1 none, Cond.classLink RX4 181 "java/lang/IllegalArgumentException", Cond.initialized "java/lang/IllegalArgumentException", Cond.methodLink RX4 63 yX0_findChamber, Cond.instanceMethod yX0_findChamber, Cond.selects RX0 yX0_findChamber yX0_findChamber, Cond.initialized RX0, Cond.code yX0_findChamber cX0_findChamber 5 (some .int), Cond.fieldLink RX0 50 "EchoCave$Cave" "chambers" "I"]
def wsL_addChamber_r2 : List Cond := [Cond.fieldLink RX0 9 "EchoCave$Cave" "wall" "[I", Cond.fieldLink RX0 15 "EchoCave$Cave" "height" "[I", Cond.fieldLink RX0 18 "EchoCave$Cave" "bats" "[I"]
def wsL_addChamber : List Cond := .codeWith yL_addChamber cL_addChamber 6 (some .int) [(0, 12, 15, 13), (0, 12, 19, 15)] :: ((wsL_addChamber_r1 ++ wsL_addChamber_r2) ++ wsX40 ++ wsX00 ++ (vx_atS RX4 60 "java/lang/IllegalStateException" ["java/lang/RuntimeException", "java/lang/Exception"]).filter goodWord ++ (vx_atS RX4 185 "java/lang/IllegalArgumentException" ["java/lang/RuntimeException", "java/lang/Exception"]).filter goodWord)
def wsL_addPassage_r1 : List Cond := [Cond.classLink RL 21 "java/lang/IndexOutOfBoundsException", Cond.classLink RL 13 "java/lang/IllegalArgumentException", Cond.classLink RL 15 "java/lang/IllegalStateException", Cond.methodLink RL 17 yX4_addPassage, Cond.instanceMethod yX4_addPassage, Cond.selects RX4 yX4_addPassage yX4_addPassage, Cond.initialized RX4, Cond.code yX4_addPassage cX4_addPassage 5 (some .int), Cond.classLink RX4 56 "java/lang/IllegalStateException", Cond.initialized "java/lang/IllegalStateException", Cond.fieldLink RX4 12 "EchoCave" "cave" "LEchoCave$Cave;", Cond.methodLink RX4 67 yX0_hasChamber, Cond.instanceMethod yX0_hasChamber, Cond.selects RX0 yX0_hasChamber yX0_hasChamber, Cond.initialized RX0, Cond.code yX0_hasChamber cX0_hasChamber 2 (some .boolean), Cond.fieldLink RX0 50 "EchoCave$Cave" "chambers" "I", Cond.static yX4_isWithin, Cond.code yX4_isWithin cX4_isWithin 3 (some .boolean), Cond.methodLink RX4 71 yX4_requireIndex, Cond.static yX4_requireIndex, Cond.code yX4_requireIndex cX4_requireIndex 1 none, Cond.classLink RX4 176 "java/lang/IndexOutOfBoundsException", Cond.initialized "java/lang/IndexOutOfBoundsException"]
def wsL_addPassage_r2 : List Cond := [Cond.methodLink RX4 49 yX4_requireArgument, Cond.static yX4_requireArgument, Cond.code yX4_requireArgument cX4_requireArgument 1 none, Cond.classLink RX4 181 "java/lang/IllegalArgumentException", Cond.initialized "java/lang/IllegalArgumentException", Cond.methodLink RX4 45 yX4_isWithin, Cond.methodLink RX4 79 yX0_findPassage, Cond.instanceMethod yX0_findPassage, Cond.selects RX0 yX0_findPassage yX0_findPassage, Cond.code yX0_findPassage cX0_findPassage 6 (some .int), Cond.fieldLink RX0 54 "EchoCave$Cave" "passages" "I", Cond.fieldLink RX0 35 "EchoCave$Cave" "from" "[I", Cond.fieldLink RX0 38 "EchoCave$Cave" "to" "[I", Cond.fieldLink RX0 41 "EchoCave$Cave" "length" "[I", Cond.fieldLink RX0 44 "EchoCave$Cave" "narrow" "[I", Cond.methodLink RX0 64 yX0_addDoor, Cond.instanceMethod yX0_addDoor, Cond.selects RX0 yX0_addDoor yX0_addDoor, Cond.code yX0_addDoor cX0_addDoor 3 none, Cond.fieldLink RX0 32 "EchoCave$Cave" "passageBehind" "[[I", Cond.fieldLink RX0 27 "EchoCave$Cave" "doors" "[I"]
def wsL_addPassage : List Cond := .codeWith yL_addPassage cL_addPassage 7 (some .int) [(0, 14, 17, 21), (0, 14, 21, 13), (0, 14, 25, 15)] :: ((wsL_addPassage_r1 ++ wsL_addPassage_r2) ++ wsX40 ++ wsX00 ++ (vx_atS RX4 60 "java/lang/IllegalStateException" ["java/lang/RuntimeException", "java/lang/Exception"]).filter goodWord ++ (vx_atS RX4 180 "java/lang/IndexOutOfBoundsException" ["java/lang/RuntimeException", "java/lang/Exception"]).filter goodWord ++ (vx_atS RX4 185 "java/lang/IllegalArgumentException" ["java/lang/RuntimeException", "java/lang/Exception"]).filter goodWord)
def wsL_setWater : List Cond := .codeWith yL_setWater cL_setWater 4 (some .int) [(0, 9, 12, 13)] :: ([.classLink RL 13 "java/lang/IllegalArgumentException", .methodLink RL 23 yX4_setWater, .instanceMethod yX4_setWater, .selects RX4 yX4_setWater yX4_setWater, .initialized RX4, .code yX4_setWater cX4_setWater 3 (some .int), .fieldLink RX4 12 "EchoCave" "cave" "LEchoCave$Cave;", .methodLink RX4 45 yX4_isWithin, .static yX4_isWithin, .code yX4_isWithin cX4_isWithin 3 (some .boolean), .methodLink RX4 49 yX4_requireArgument, .static yX4_requireArgument, .code yX4_requireArgument cX4_requireArgument 1 none, .classLink RX4 181 "java/lang/IllegalArgumentException", .initialized "java/lang/IllegalArgumentException"] ++ wsX40 ++ wsX00 ++ (vx_atS RX4 185 "java/lang/IllegalArgumentException" ["java/lang/RuntimeException", "java/lang/Exception"]).filter goodWord)
def wsL_setBats_r1 : List Cond := [Cond.classLink RL 21 "java/lang/IndexOutOfBoundsException", Cond.classLink RL 13 "java/lang/IllegalArgumentException", Cond.methodLink RL 27 yX4_setBats, Cond.instanceMethod yX4_setBats, Cond.selects RX4 yX4_setBats yX4_setBats, Cond.initialized RX4, Cond.code yX4_setBats cX4_setBats 4 (some .int), Cond.fieldLink RX4 12 "EchoCave" "cave" "LEchoCave$Cave;", Cond.methodLink RX4 67 yX0_hasChamber, Cond.instanceMethod yX0_hasChamber, Cond.selects RX0 yX0_hasChamber yX0_hasChamber, Cond.initialized RX0, Cond.code yX0_hasChamber cX0_hasChamber 2 (some .boolean), Cond.fieldLink RX0 50 "EchoCave$Cave" "chambers" "I", Cond.static yX4_isWithin, Cond.code yX4_isWithin cX4_isWithin 3 (some .boolean), Cond.methodLink RX4 71 yX4_requireIndex, Cond.static yX4_requireIndex, Cond.code yX4_requireIndex cX4_requireIndex 1 none, Cond.classLink RX4 176 "java/lang/IndexOutOfBoundsException", Cond.initialized "java/lang/IndexOutOfBoundsException", Cond.methodLink RX4 45 yX4_isWithin, Cond.methodLink RX4 49 yX4_requireArgument, Cond.static yX4_requireArgument]
def wsL_setBats_r2 : List Cond := [Cond.code yX4_requireArgument cX4_requireArgument 1 none, Cond.classLink RX4 181 "java/lang/IllegalArgumentException", Cond.initialized "java/lang/IllegalArgumentException"]
def wsL_setBats : List Cond := .codeWith yL_setBats cL_setBats 5 (some .int) [(0, 10, 13, 21), (0, 10, 17, 13)] :: ((wsL_setBats_r1 ++ wsL_setBats_r2) ++ wsX40 ++ wsX00 ++ (vx_atS RX4 180 "java/lang/IndexOutOfBoundsException" ["java/lang/RuntimeException", "java/lang/Exception"]).filter goodWord ++ (vx_atS RX4 185 "java/lang/IllegalArgumentException" ["java/lang/RuntimeException", "java/lang/Exception"]).filter goodWord)
def wsL_setClapper_r1 : List Cond := [Cond.classLink RL 21 "java/lang/IndexOutOfBoundsException", Cond.classLink RL 13 "java/lang/IllegalArgumentException", Cond.methodLink RL 31 yX4_setClapper, Cond.instanceMethod yX4_setClapper, Cond.selects RX4 yX4_setClapper yX4_setClapper, Cond.initialized RX4, Cond.code yX4_setClapper cX4_setClapper 5 (some .int), Cond.fieldLink RX4 12 "EchoCave" "cave" "LEchoCave$Cave;", Cond.methodLink RX4 67 yX0_hasChamber, Cond.instanceMethod yX0_hasChamber, Cond.selects RX0 yX0_hasChamber yX0_hasChamber, Cond.initialized RX0, Cond.code yX0_hasChamber cX0_hasChamber 2 (some .boolean), Cond.fieldLink RX0 50 "EchoCave$Cave" "chambers" "I", Cond.static yX4_isWithin, Cond.code yX4_isWithin cX4_isWithin 3 (some .boolean), Cond.methodLink RX4 71 yX4_requireIndex, Cond.static yX4_requireIndex, Cond.code yX4_requireIndex cX4_requireIndex 1 none, Cond.classLink RX4 176 "java/lang/IndexOutOfBoundsException", Cond.initialized "java/lang/IndexOutOfBoundsException", Cond.methodLink RX4 49 yX4_requireArgument, Cond.static yX4_requireArgument, Cond.code yX4_requireArgument cX4_requireArgument 1 none]
def wsL_setClapper_r2 : List Cond := [Cond.classLink RX4 181 "java/lang/IllegalArgumentException", Cond.initialized "java/lang/IllegalArgumentException", Cond.methodLink RX4 45 yX4_isWithin, Cond.methodLink RX4 93 yX0_putClapper, Cond.instanceMethod yX0_putClapper, Cond.selects RX0 yX0_putClapper yX0_putClapper, Cond.code yX0_putClapper cX0_putClapper 4 none, Cond.fieldLink RX0 21 "EchoCave$Cave" "syllable" "[I", Cond.fieldLink RX0 24 "EchoCave$Cave" "delay" "[I"]
def wsL_setClapper : List Cond := .codeWith yL_setClapper cL_setClapper 6 (some .int) [(0, 12, 15, 21), (0, 12, 19, 13)] :: ((wsL_setClapper_r1 ++ wsL_setClapper_r2) ++ wsX40 ++ wsX00 ++ (vx_atS RX4 180 "java/lang/IndexOutOfBoundsException" ["java/lang/RuntimeException", "java/lang/Exception"]).filter goodWord ++ (vx_atS RX4 185 "java/lang/IllegalArgumentException" ["java/lang/RuntimeException", "java/lang/Exception"]).filter goodWord)
def wsL_setEar : List Cond := .codeWith yL_setEar cL_setEar 4 (some .int) [(0, 9, 12, 13)] :: ([.classLink RL 13 "java/lang/IllegalArgumentException", .methodLink RL 34 yX4_setEar, .instanceMethod yX4_setEar, .selects RX4 yX4_setEar yX4_setEar, .initialized RX4, .code yX4_setEar cX4_setEar 3 (some .int), .fieldLink RX4 35 "EchoCave" "ear" "I", .methodLink RX4 45 yX4_isWithin, .static yX4_isWithin, .code yX4_isWithin cX4_isWithin 3 (some .boolean), .methodLink RX4 49 yX4_requireArgument, .static yX4_requireArgument, .code yX4_requireArgument cX4_requireArgument 1 none, .classLink RX4 181 "java/lang/IllegalArgumentException", .initialized "java/lang/IllegalArgumentException"] ++ wsX40 ++ (vx_atS RX4 185 "java/lang/IllegalArgumentException" ["java/lang/RuntimeException", "java/lang/Exception"]).filter goodWord)
def wsL_chamber_r1 : List Cond := [Cond.classLink RL 21 "java/lang/IndexOutOfBoundsException", Cond.methodLink RL 37 yX4_chamber, Cond.instanceMethod yX4_chamber, Cond.selects RX4 yX4_chamber yX4_chamber, Cond.initialized RX4, Cond.code yX4_chamber cX4_chamber 3 (some .int), Cond.fieldLink RX4 12 "EchoCave" "cave" "LEchoCave$Cave;", Cond.methodLink RX4 67 yX0_hasChamber, Cond.instanceMethod yX0_hasChamber, Cond.selects RX0 yX0_hasChamber yX0_hasChamber, Cond.initialized RX0, Cond.code yX0_hasChamber cX0_hasChamber 2 (some .boolean), Cond.fieldLink RX0 50 "EchoCave$Cave" "chambers" "I", Cond.static yX4_isWithin, Cond.code yX4_isWithin cX4_isWithin 3 (some .boolean), Cond.methodLink RX4 71 yX4_requireIndex, Cond.static yX4_requireIndex, Cond.code yX4_requireIndex cX4_requireIndex 1 none, Cond.classLink RX4 176 "java/lang/IndexOutOfBoundsException", Cond.initialized "java/lang/IndexOutOfBoundsException", Cond.methodLink RX4 45 yX4_isWithin, Cond.methodLink RX4 97 yX0_chamberFact, Cond.instanceMethod yX0_chamberFact, Cond.selects RX0 yX0_chamberFact yX0_chamberFact]
def wsL_chamber_r2 : List Cond := [Cond.code yX0_chamberFact cX0_chamberFact 3 (some .int), Cond.fieldLink RX0 9 "EchoCave$Cave" "wall" "[I", Cond.fieldLink RX0 15 "EchoCave$Cave" "height" "[I", Cond.fieldLink RX0 18 "EchoCave$Cave" "bats" "[I", Cond.fieldLink RX0 21 "EchoCave$Cave" "syllable" "[I", Cond.fieldLink RX0 24 "EchoCave$Cave" "delay" "[I", Cond.fieldLink RX0 27 "EchoCave$Cave" "doors" "[I", Cond.methodLink RX0 72 yX0_openDoors, Cond.instanceMethod yX0_openDoors, Cond.selects RX0 yX0_openDoors yX0_openDoors, Cond.code yX0_openDoors cX0_openDoors 4 (some .int), Cond.fieldLink RX0 32 "EchoCave$Cave" "passageBehind" "[[I", Cond.methodLink RX0 68 yX0_isOpen, Cond.instanceMethod yX0_isOpen, Cond.selects RX0 yX0_isOpen yX0_isOpen, Cond.code yX0_isOpen cX0_isOpen 2 (some .boolean), Cond.fieldLink RX0 35 "EchoCave$Cave" "from" "[I", Cond.fieldLink RX0 57 "EchoCave$Cave" "water" "I", Cond.fieldLink RX0 38 "EchoCave$Cave" "to" "[I"]
def wsL_chamber : List Cond := .codeWith yL_chamber cL_chamber 5 (some .int) [(0, 10, 13, 21)] :: ((wsL_chamber_r1 ++ wsL_chamber_r2) ++ wsX40 ++ wsX00 ++ (vx_atS RX4 180 "java/lang/IndexOutOfBoundsException" ["java/lang/RuntimeException", "java/lang/Exception"]).filter goodWord)
def wsL_passage_r1 : List Cond := [Cond.classLink RL 21 "java/lang/IndexOutOfBoundsException", Cond.methodLink RL 40 yX4_passage, Cond.instanceMethod yX4_passage, Cond.selects RX4 yX4_passage yX4_passage, Cond.initialized RX4, Cond.code yX4_passage cX4_passage 3 (some .int), Cond.fieldLink RX4 12 "EchoCave" "cave" "LEchoCave$Cave;", Cond.methodLink RX4 101 yX0_hasPassage, Cond.instanceMethod yX0_hasPassage, Cond.selects RX0 yX0_hasPassage yX0_hasPassage, Cond.initialized RX0, Cond.code yX0_hasPassage cX0_hasPassage 2 (some .boolean), Cond.fieldLink RX0 54 "EchoCave$Cave" "passages" "I", Cond.static yX4_isWithin, Cond.code yX4_isWithin cX4_isWithin 3 (some .boolean), Cond.methodLink RX4 71 yX4_requireIndex, Cond.static yX4_requireIndex, Cond.code yX4_requireIndex cX4_requireIndex 1 none, Cond.classLink RX4 176 "java/lang/IndexOutOfBoundsException", Cond.initialized "java/lang/IndexOutOfBoundsException", Cond.methodLink RX4 45 yX4_isWithin, Cond.methodLink RX4 104 yX0_passageFact, Cond.instanceMethod yX0_passageFact, Cond.selects RX0 yX0_passageFact yX0_passageFact]
def wsL_passage_r2 : List Cond := [Cond.code yX0_passageFact cX0_passageFact 3 (some .int), Cond.fieldLink RX0 35 "EchoCave$Cave" "from" "[I", Cond.fieldLink RX0 38 "EchoCave$Cave" "to" "[I", Cond.fieldLink RX0 41 "EchoCave$Cave" "length" "[I", Cond.fieldLink RX0 44 "EchoCave$Cave" "narrow" "[I", Cond.methodLink RX0 68 yX0_isOpen, Cond.instanceMethod yX0_isOpen, Cond.selects RX0 yX0_isOpen yX0_isOpen, Cond.code yX0_isOpen cX0_isOpen 2 (some .boolean), Cond.fieldLink RX0 15 "EchoCave$Cave" "height" "[I", Cond.fieldLink RX0 57 "EchoCave$Cave" "water" "I"]
def wsL_passage : List Cond := .codeWith yL_passage cL_passage 5 (some .int) [(0, 10, 13, 21)] :: ((wsL_passage_r1 ++ wsL_passage_r2) ++ wsX40 ++ wsX00 ++ (vx_atS RX4 180 "java/lang/IndexOutOfBoundsException" ["java/lang/RuntimeException", "java/lang/Exception"]).filter goodWord)
def wsL_say_r1 : List Cond := [Cond.classLink RL 13 "java/lang/IllegalArgumentException", Cond.methodLink RL 43 yX4_say, Cond.instanceMethod yX4_say, Cond.selects RX4 yX4_say yX4_say, Cond.initialized RX4, Cond.code yX4_say cX4_say 3 (some .int), Cond.fieldLink RX4 21 "EchoCave" "sound" "LEchoCave$Sound;", Cond.fieldLink RX4 35 "EchoCave" "ear" "I", Cond.fieldLink RX4 28 "EchoCave" "latest" "LEchoCave$Echo;", Cond.fieldLink RX4 39 "EchoCave" "wordsSaid" "I", Cond.fieldLink RX4 42 "EchoCave" "latestWord" "I", Cond.methodLink RX4 107 yX4_requireWordAndBeat, Cond.static yX4_requireWordAndBeat, Cond.code yX4_requireWordAndBeat cX4_requireWordAndBeat 2 none, Cond.methodLink RX4 151 yX4_isWord, Cond.static yX4_isWord, Cond.code yX4_isWord cX4_isWord 2 (some .boolean), Cond.constant RX4 175 (999999), Cond.methodLink RX4 45 yX4_isWithin, Cond.static yX4_isWithin, Cond.code yX4_isWithin cX4_isWithin 3 (some .boolean), Cond.methodLink RX4 49 yX4_requireArgument, Cond.static yX4_requireArgument, Cond.code yX4_requireArgument cX4_requireArgument 1 none]
def wsL_say_r2 : List Cond := [Cond.classLink RX4 181 "java/lang/IllegalArgumentException", Cond.initialized "java/lang/IllegalArgumentException", Cond.methodLink RX4 111 yX3_runThrough, Cond.instanceMethod yX3_runThrough, Cond.selects RX3 yX3_runThrough yX3_runThrough, Cond.initialized RX3, Cond.code yX3_runThrough cX3_runThrough 7 none, Cond.fieldLink RX3 18 "EchoCave$Sound" "comings" "LEchoCave$Comings;", Cond.static yX4_placesOf, Cond.code yX4_placesOf cX4_placesOf 3 (some .int), Cond.methodLink RX3 44 yX2_begin, Cond.instanceMethod yX2_begin, Cond.selects RX2 yX2_begin yX2_begin, Cond.initialized RX2, Cond.code yX2_begin cX2_begin 3 none, Cond.fieldLink RX2 18 "EchoCave$Echo" "places" "I", Cond.fieldLink RX2 22 "EchoCave$Echo" "ear" "I", Cond.fieldLink RX2 25 "EchoCave$Echo" "kept" "I", Cond.fieldLink RX2 28 "EchoCave$Echo" "counted" "I", Cond.fieldLink RX2 31 "EchoCave$Echo" "placesInOrder" "I", Cond.fieldLink RX2 34 "EchoCave$Echo" "lastTime" "I", Cond.fieldLink RX2 15 "EchoCave$Echo" "firstTime" "[I", Cond.methodLink RX2 37 yJ7_fill_53178, Cond.static yJ7_fill_53178]
def wsL_say_r3 : List Cond := [Cond.initialized RJ7, Cond.code yJ7_fill_53178 cJ7_fill_53178 4 none, Cond.methodLink RX3 50 yX3_begin, Cond.instanceMethod yX3_begin, Cond.selects RX3 yX3_begin yX3_begin, Cond.code yX3_begin cX3_begin 6 none, Cond.fieldLink RX3 33 "EchoCave$Sound" "runs" "I", Cond.fieldLink RX3 37 "EchoCave$Sound" "clappersSetOff" "I", Cond.methodLink RX3 65 yX1_clear, Cond.instanceMethod yX1_clear, Cond.selects RX1 yX1_clear yX1_clear, Cond.initialized RX1, Cond.code yX1_clear cX1_clear 1 none, Cond.fieldLink RX1 15 "EchoCave$Comings" "size" "I", Cond.methodLink RX3 68 yX3_startRun, Cond.instanceMethod yX3_startRun, Cond.selects RX3 yX3_startRun yX3_startRun, Cond.code yX3_startRun cX3_startRun 6 none, Cond.fieldLink RX3 22 "EchoCave$Sound" "syllable" "[I", Cond.fieldLink RX3 26 "EchoCave$Sound" "place" "[I", Cond.fieldLink RX3 29 "EchoCave$Sound" "passagesUsed" "[J", Cond.methodLink RX3 72 yX1_pack, Cond.static yX1_pack, Cond.code yX1_pack cX1_pack 5 (some .int)]
def wsL_say_r4 : List Cond := [Cond.methodLink RX3 76 yX1_put, Cond.instanceMethod yX1_put, Cond.selects RX1 yX1_put yX1_put, Cond.code yX1_put cX1_put 3 none, Cond.fieldLink RX1 11 "EchoCave$Comings" "heap" "[I", Cond.methodLink RX3 53 yX1_isEmpty, Cond.instanceMethod yX1_isEmpty, Cond.selects RX1 yX1_isEmpty yX1_isEmpty, Cond.code yX1_isEmpty cX1_isEmpty 1 (some .boolean), Cond.methodLink RX3 57 yX1_takeNext, Cond.instanceMethod yX1_takeNext, Cond.selects RX1 yX1_takeNext yX1_takeNext, Cond.code yX1_takeNext cX1_takeNext 2 (some .int), Cond.methodLink RX1 19 yX1_sink, Cond.instanceMethod yX1_sink, Cond.selects RX1 yX1_sink yX1_sink, Cond.code yX1_sink cX1_sink 4 none, Cond.methodLink RX3 61 yX3_come, Cond.instanceMethod yX3_come, Cond.selects RX3 yX3_come yX3_come, Cond.code yX3_come cX3_come 8 none, Cond.fieldLink RX3 9 "EchoCave$Sound" "cave" "LEchoCave$Cave;", Cond.methodLink RX3 80 yX1_timeOf, Cond.static yX1_timeOf]
def wsL_say_r5 : List Cond := [Cond.code yX1_timeOf cX1_timeOf 1 (some .int), Cond.methodLink RX3 83 yX1_chamberOf, Cond.static yX1_chamberOf, Cond.code yX1_chamberOf cX1_chamberOf 1 (some .int), Cond.methodLink RX3 86 yX1_runOf, Cond.static yX1_runOf, Cond.code yX1_runOf cX1_runOf 1 (some .int), Cond.methodLink RX3 89 yX1_passageOf, Cond.static yX1_passageOf, Cond.code yX1_passageOf cX1_passageOf 1 (some .int), Cond.methodLink RX3 92 yX1_strengthOf, Cond.static yX1_strengthOf, Cond.code yX1_strengthOf cX1_strengthOf 1 (some .int), Cond.methodLink RX3 95 yX0_hasChamber, Cond.instanceMethod yX0_hasChamber, Cond.selects RX0 yX0_hasChamber yX0_hasChamber, Cond.initialized RX0, Cond.code yX0_hasChamber cX0_hasChamber 2 (some .boolean), Cond.fieldLink RX0 50 "EchoCave$Cave" "chambers" "I", Cond.methodLink RX3 104 yX2_hear, Cond.instanceMethod yX2_hear, Cond.selects RX2 yX2_hear yX2_hear, Cond.code yX2_hear cX2_hear 6 none, Cond.fieldLink RX2 9 "EchoCave$Echo" "facts" "[I"]
def wsL_say_r6 : List Cond := [Cond.methodLink RX2 43 yX2_letCount, Cond.instanceMethod yX2_letCount, Cond.selects RX2 yX2_letCount yX2_letCount, Cond.code yX2_letCount cX2_letCount 3 none, Cond.methodLink RX3 108 yX0_drowns, Cond.instanceMethod yX0_drowns, Cond.selects RX0 yX0_drowns yX0_drowns, Cond.code yX0_drowns cX0_drowns 3 (some .boolean), Cond.fieldLink RX0 18 "EchoCave$Cave" "bats" "[I", Cond.methodLink RX3 112 yX3_setOffClapper, Cond.instanceMethod yX3_setOffClapper, Cond.selects RX3 yX3_setOffClapper yX3_setOffClapper, Cond.code yX3_setOffClapper cX3_setOffClapper 6 none, Cond.methodLink RX3 115 yX3_goOn, Cond.instanceMethod yX3_goOn, Cond.selects RX3 yX3_goOn yX3_goOn, Cond.code yX3_goOn cX3_goOn 8 none, Cond.methodLink RX3 136 yX0_isOpen, Cond.instanceMethod yX0_isOpen, Cond.selects RX0 yX0_isOpen yX0_isOpen, Cond.code yX0_isOpen cX0_isOpen 2 (some .boolean), Cond.fieldLink RX0 15 "EchoCave$Cave" "height" "[I", Cond.fieldLink RX0 35 "EchoCave$Cave" "from" "[I", Cond.fieldLink RX0 57 "EchoCave$Cave" "water" "I"]
def wsL_say_r7 : List Cond := [Cond.fieldLink RX0 38 "EchoCave$Cave" "to" "[I", Cond.methodLink RX3 122 yX3_goInto, Cond.instanceMethod yX3_goInto, Cond.selects RX3 yX3_goInto yX3_goInto, Cond.code yX3_goInto cX3_goInto 10 none, Cond.methodLink RX3 145 yX0_otherEnd, Cond.instanceMethod yX0_otherEnd, Cond.selects RX0 yX0_otherEnd yX0_otherEnd, Cond.code yX0_otherEnd cX0_otherEnd 3 (some .int), Cond.methodLink RX3 148 yX0_strengthBehind, Cond.instanceMethod yX0_strengthBehind, Cond.selects RX0 yX0_strengthBehind yX0_strengthBehind, Cond.code yX0_strengthBehind cX0_strengthBehind 3 (some .int), Cond.fieldLink RX0 44 "EchoCave$Cave" "narrow" "[I", Cond.methodLink RX3 118 yX0_strengthFromWall, Cond.instanceMethod yX0_strengthFromWall, Cond.selects RX0 yX0_strengthFromWall yX0_strengthFromWall, Cond.code yX0_strengthFromWall cX0_strengthFromWall 3 (some .int), Cond.fieldLink RX0 9 "EchoCave$Cave" "wall" "[I"]
def wsL_say : List Cond := .codeWith yL_say cL_say 5 (some .int) [(0, 10, 13, 13)] :: ((wsL_say_r1 ++ (wsL_say_r2 ++ (wsL_say_r3 ++ (wsL_say_r4 ++ (wsL_say_r5 ++ (wsL_say_r6 ++ wsL_say_r7)))))) ++ wsX40 ++ wsX20 ++ wsX30 ++ wsX10 ++ wsX00 ++ (vx_atS RX4 185 "java/lang/IllegalArgumentException" ["java/lang/RuntimeException", "java/lang/Exception"]).filter goodWord)
def wsL_heard : List Cond := .codeWith yL_heard cL_heard 5 (some .int) [(0, 10, 13, 21)] :: ([.classLink RL 21 "java/lang/IndexOutOfBoundsException", .methodLink RL 46 yX4_heard, .instanceMethod yX4_heard, .selects RX4 yX4_heard yX4_heard, .initialized RX4, .code yX4_heard cX4_heard 3 (some .int), .fieldLink RX4 28 "EchoCave" "latest" "LEchoCave$Echo;", .methodLink RX4 45 yX4_isWithin, .static yX4_isWithin, .code yX4_isWithin cX4_isWithin 3 (some .boolean), .methodLink RX4 71 yX4_requireIndex, .static yX4_requireIndex, .code yX4_requireIndex cX4_requireIndex 1 none, .classLink RX4 176 "java/lang/IndexOutOfBoundsException", .initialized "java/lang/IndexOutOfBoundsException", .methodLink RX4 121 yX2_heardFact, .instanceMethod yX2_heardFact, .selects RX2 yX2_heardFact yX2_heardFact, .initialized RX2, .code yX2_heardFact cX2_heardFact 3 (some .int), .fieldLink RX2 9 "EchoCave$Echo" "facts" "[I"] ++ wsX40 ++ wsX20 ++ (vx_atS RX4 180 "java/lang/IndexOutOfBoundsException" ["java/lang/RuntimeException", "java/lang/Exception"]).filter goodWord)
def wsL_first : List Cond := .codeWith yL_first cL_first 4 (some .int) [(0, 9, 12, 21)] :: ([.classLink RL 21 "java/lang/IndexOutOfBoundsException", .methodLink RL 49 yX4_first, .instanceMethod yX4_first, .selects RX4 yX4_first yX4_first, .initialized RX4, .code yX4_first cX4_first 2 (some .int), .fieldLink RX4 28 "EchoCave" "latest" "LEchoCave$Echo;", .methodLink RX4 45 yX4_isWithin, .static yX4_isWithin, .code yX4_isWithin cX4_isWithin 3 (some .boolean), .methodLink RX4 71 yX4_requireIndex, .static yX4_requireIndex, .code yX4_requireIndex cX4_requireIndex 1 none, .classLink RX4 176 "java/lang/IndexOutOfBoundsException", .initialized "java/lang/IndexOutOfBoundsException"] ++ wsX40 ++ wsX20 ++ (vx_atS RX4 180 "java/lang/IndexOutOfBoundsException" ["java/lang/RuntimeException", "java/lang/Exception"]).filter goodWord)
def wsL_count_r1 : List Cond := [Cond.classLink RL 21 "java/lang/IndexOutOfBoundsException", Cond.methodLink RL 52 yX4_count, Cond.instanceMethod yX4_count, Cond.selects RX4 yX4_count yX4_count, Cond.initialized RX4, Cond.code yX4_count cX4_count 2 (some .int), Cond.methodLink RX4 45 yX4_isWithin, Cond.static yX4_isWithin, Cond.code yX4_isWithin cX4_isWithin 3 (some .boolean), Cond.methodLink RX4 71 yX4_requireIndex, Cond.static yX4_requireIndex, Cond.code yX4_requireIndex cX4_requireIndex 1 none, Cond.classLink RX4 176 "java/lang/IndexOutOfBoundsException", Cond.initialized "java/lang/IndexOutOfBoundsException", Cond.methodLink RX4 134 yX4_countFact, Cond.instanceMethod yX4_countFact, Cond.selects RX4 yX4_countFact yX4_countFact, Cond.code yX4_countFact cX4_countFact 2 (some .int), Cond.fieldLink RX4 12 "EchoCave" "cave" "LEchoCave$Cave;", Cond.fieldLink RX4 35 "EchoCave" "ear" "I", Cond.fieldLink RX4 39 "EchoCave" "wordsSaid" "I", Cond.fieldLink RX4 42 "EchoCave" "latestWord" "I", Cond.fieldLink RX4 28 "EchoCave" "latest" "LEchoCave$Echo;", Cond.methodLink RX4 168 yX0_openPassages]
def wsL_count_r2 : List Cond := [Cond.instanceMethod yX0_openPassages, Cond.selects RX0 yX0_openPassages yX0_openPassages, Cond.initialized RX0, Cond.code yX0_openPassages cX0_openPassages 3 (some .int), Cond.fieldLink RX0 54 "EchoCave$Cave" "passages" "I", Cond.methodLink RX0 68 yX0_isOpen, Cond.instanceMethod yX0_isOpen, Cond.selects RX0 yX0_isOpen yX0_isOpen, Cond.code yX0_isOpen cX0_isOpen 2 (some .boolean), Cond.fieldLink RX0 15 "EchoCave$Cave" "height" "[I", Cond.fieldLink RX0 35 "EchoCave$Cave" "from" "[I", Cond.fieldLink RX0 57 "EchoCave$Cave" "water" "I", Cond.fieldLink RX0 38 "EchoCave$Cave" "to" "[I", Cond.methodLink RX4 172 yX0_clappers, Cond.instanceMethod yX0_clappers, Cond.selects RX0 yX0_clappers yX0_clappers, Cond.code yX0_clappers cX0_clappers 3 (some .int), Cond.fieldLink RX0 50 "EchoCave$Cave" "chambers" "I", Cond.fieldLink RX0 21 "EchoCave$Cave" "syllable" "[I"]
def wsL_count : List Cond := .codeWith yL_count cL_count 4 (some .int) [(0, 9, 12, 21)] :: ((wsL_count_r1 ++ wsL_count_r2) ++ wsX40 ++ wsX00 ++ wsX20 ++ (vx_atS RX4 180 "java/lang/IndexOutOfBoundsException" ["java/lang/RuntimeException", "java/lang/Exception"]).filter goodWord)
def wsL_would_r1 : List Cond := [Cond.classLink RL 13 "java/lang/IllegalArgumentException", Cond.classLink RL 21 "java/lang/IndexOutOfBoundsException", Cond.methodLink RL 55 yX4_would, Cond.instanceMethod yX4_would, Cond.selects RX4 yX4_would yX4_would, Cond.initialized RX4, Cond.code yX4_would cX4_would 4 (some .int), Cond.fieldLink RX4 21 "EchoCave" "sound" "LEchoCave$Sound;", Cond.fieldLink RX4 35 "EchoCave" "ear" "I", Cond.fieldLink RX4 32 "EchoCave" "trial" "LEchoCave$Echo;", Cond.methodLink RX4 107 yX4_requireWordAndBeat, Cond.static yX4_requireWordAndBeat, Cond.code yX4_requireWordAndBeat cX4_requireWordAndBeat 2 none, Cond.methodLink RX4 151 yX4_isWord, Cond.static yX4_isWord, Cond.code yX4_isWord cX4_isWord 2 (some .boolean), Cond.constant RX4 175 (999999), Cond.methodLink RX4 45 yX4_isWithin, Cond.static yX4_isWithin, Cond.code yX4_isWithin cX4_isWithin 3 (some .boolean), Cond.methodLink RX4 49 yX4_requireArgument, Cond.static yX4_requireArgument, Cond.code yX4_requireArgument cX4_requireArgument 1 none, Cond.classLink RX4 181 "java/lang/IllegalArgumentException"]
def wsL_would_r2 : List Cond := [Cond.initialized "java/lang/IllegalArgumentException", Cond.methodLink RX4 71 yX4_requireIndex, Cond.static yX4_requireIndex, Cond.code yX4_requireIndex cX4_requireIndex 1 none, Cond.classLink RX4 176 "java/lang/IndexOutOfBoundsException", Cond.initialized "java/lang/IndexOutOfBoundsException", Cond.methodLink RX4 111 yX3_runThrough, Cond.instanceMethod yX3_runThrough, Cond.selects RX3 yX3_runThrough yX3_runThrough, Cond.initialized RX3, Cond.code yX3_runThrough cX3_runThrough 7 none, Cond.fieldLink RX3 18 "EchoCave$Sound" "comings" "LEchoCave$Comings;", Cond.static yX4_placesOf, Cond.code yX4_placesOf cX4_placesOf 3 (some .int), Cond.methodLink RX3 44 yX2_begin, Cond.instanceMethod yX2_begin, Cond.selects RX2 yX2_begin yX2_begin, Cond.initialized RX2, Cond.code yX2_begin cX2_begin 3 none, Cond.fieldLink RX2 18 "EchoCave$Echo" "places" "I", Cond.fieldLink RX2 22 "EchoCave$Echo" "ear" "I", Cond.fieldLink RX2 25 "EchoCave$Echo" "kept" "I", Cond.fieldLink RX2 28 "EchoCave$Echo" "counted" "I", Cond.fieldLink RX2 31 "EchoCave$Echo" "placesInOrder" "I"]
def wsL_would_r3 : List Cond := [Cond.fieldLink RX2 34 "EchoCave$Echo" "lastTime" "I", Cond.fieldLink RX2 15 "EchoCave$Echo" "firstTime" "[I", Cond.methodLink RX2 37 yJ7_fill_53178, Cond.static yJ7_fill_53178, Cond.initialized RJ7, Cond.code yJ7_fill_53178 cJ7_fill_53178 4 none, Cond.methodLink RX3 50 yX3_begin, Cond.instanceMethod yX3_begin, Cond.selects RX3 yX3_begin yX3_begin, Cond.code yX3_begin cX3_begin 6 none, Cond.fieldLink RX3 33 "EchoCave$Sound" "runs" "I", Cond.fieldLink RX3 37 "EchoCave$Sound" "clappersSetOff" "I", Cond.methodLink RX3 65 yX1_clear, Cond.instanceMethod yX1_clear, Cond.selects RX1 yX1_clear yX1_clear, Cond.initialized RX1, Cond.code yX1_clear cX1_clear 1 none, Cond.fieldLink RX1 15 "EchoCave$Comings" "size" "I", Cond.methodLink RX3 68 yX3_startRun, Cond.instanceMethod yX3_startRun, Cond.selects RX3 yX3_startRun yX3_startRun, Cond.code yX3_startRun cX3_startRun 6 none, Cond.fieldLink RX3 22 "EchoCave$Sound" "syllable" "[I", Cond.fieldLink RX3 26 "EchoCave$Sound" "place" "[I"]
def wsL_would_r4 : List Cond := [Cond.fieldLink RX3 29 "EchoCave$Sound" "passagesUsed" "[J", Cond.methodLink RX3 72 yX1_pack, Cond.static yX1_pack, Cond.code yX1_pack cX1_pack 5 (some .int), Cond.methodLink RX3 76 yX1_put, Cond.instanceMethod yX1_put, Cond.selects RX1 yX1_put yX1_put, Cond.code yX1_put cX1_put 3 none, Cond.fieldLink RX1 11 "EchoCave$Comings" "heap" "[I", Cond.methodLink RX3 53 yX1_isEmpty, Cond.instanceMethod yX1_isEmpty, Cond.selects RX1 yX1_isEmpty yX1_isEmpty, Cond.code yX1_isEmpty cX1_isEmpty 1 (some .boolean), Cond.methodLink RX3 57 yX1_takeNext, Cond.instanceMethod yX1_takeNext, Cond.selects RX1 yX1_takeNext yX1_takeNext, Cond.code yX1_takeNext cX1_takeNext 2 (some .int), Cond.methodLink RX1 19 yX1_sink, Cond.instanceMethod yX1_sink, Cond.selects RX1 yX1_sink yX1_sink, Cond.code yX1_sink cX1_sink 4 none, Cond.methodLink RX3 61 yX3_come, Cond.instanceMethod yX3_come, Cond.selects RX3 yX3_come yX3_come]
def wsL_would_r5 : List Cond := [Cond.code yX3_come cX3_come 8 none, Cond.fieldLink RX3 9 "EchoCave$Sound" "cave" "LEchoCave$Cave;", Cond.methodLink RX3 80 yX1_timeOf, Cond.static yX1_timeOf, Cond.code yX1_timeOf cX1_timeOf 1 (some .int), Cond.methodLink RX3 83 yX1_chamberOf, Cond.static yX1_chamberOf, Cond.code yX1_chamberOf cX1_chamberOf 1 (some .int), Cond.methodLink RX3 86 yX1_runOf, Cond.static yX1_runOf, Cond.code yX1_runOf cX1_runOf 1 (some .int), Cond.methodLink RX3 89 yX1_passageOf, Cond.static yX1_passageOf, Cond.code yX1_passageOf cX1_passageOf 1 (some .int), Cond.methodLink RX3 92 yX1_strengthOf, Cond.static yX1_strengthOf, Cond.code yX1_strengthOf cX1_strengthOf 1 (some .int), Cond.methodLink RX3 95 yX0_hasChamber, Cond.instanceMethod yX0_hasChamber, Cond.selects RX0 yX0_hasChamber yX0_hasChamber, Cond.initialized RX0, Cond.code yX0_hasChamber cX0_hasChamber 2 (some .boolean), Cond.fieldLink RX0 50 "EchoCave$Cave" "chambers" "I", Cond.methodLink RX3 104 yX2_hear]
def wsL_would_r6 : List Cond := [Cond.instanceMethod yX2_hear, Cond.selects RX2 yX2_hear yX2_hear, Cond.code yX2_hear cX2_hear 6 none, Cond.fieldLink RX2 9 "EchoCave$Echo" "facts" "[I", Cond.methodLink RX2 43 yX2_letCount, Cond.instanceMethod yX2_letCount, Cond.selects RX2 yX2_letCount yX2_letCount, Cond.code yX2_letCount cX2_letCount 3 none, Cond.methodLink RX3 108 yX0_drowns, Cond.instanceMethod yX0_drowns, Cond.selects RX0 yX0_drowns yX0_drowns, Cond.code yX0_drowns cX0_drowns 3 (some .boolean), Cond.fieldLink RX0 18 "EchoCave$Cave" "bats" "[I", Cond.methodLink RX3 112 yX3_setOffClapper, Cond.instanceMethod yX3_setOffClapper, Cond.selects RX3 yX3_setOffClapper yX3_setOffClapper, Cond.code yX3_setOffClapper cX3_setOffClapper 6 none, Cond.methodLink RX3 115 yX3_goOn, Cond.instanceMethod yX3_goOn, Cond.selects RX3 yX3_goOn yX3_goOn, Cond.code yX3_goOn cX3_goOn 8 none, Cond.methodLink RX3 136 yX0_isOpen, Cond.instanceMethod yX0_isOpen, Cond.selects RX0 yX0_isOpen yX0_isOpen]
def wsL_would_r7 : List Cond := [Cond.code yX0_isOpen cX0_isOpen 2 (some .boolean), Cond.fieldLink RX0 15 "EchoCave$Cave" "height" "[I", Cond.fieldLink RX0 35 "EchoCave$Cave" "from" "[I", Cond.fieldLink RX0 57 "EchoCave$Cave" "water" "I", Cond.fieldLink RX0 38 "EchoCave$Cave" "to" "[I", Cond.methodLink RX3 122 yX3_goInto, Cond.instanceMethod yX3_goInto, Cond.selects RX3 yX3_goInto yX3_goInto, Cond.code yX3_goInto cX3_goInto 10 none, Cond.methodLink RX3 145 yX0_otherEnd, Cond.instanceMethod yX0_otherEnd, Cond.selects RX0 yX0_otherEnd yX0_otherEnd, Cond.code yX0_otherEnd cX0_otherEnd 3 (some .int), Cond.methodLink RX3 148 yX0_strengthBehind, Cond.instanceMethod yX0_strengthBehind, Cond.selects RX0 yX0_strengthBehind yX0_strengthBehind, Cond.code yX0_strengthBehind cX0_strengthBehind 3 (some .int), Cond.fieldLink RX0 44 "EchoCave$Cave" "narrow" "[I", Cond.methodLink RX3 118 yX0_strengthFromWall, Cond.instanceMethod yX0_strengthFromWall, Cond.selects RX0 yX0_strengthFromWall yX0_strengthFromWall, Cond.code yX0_strengthFromWall cX0_strengthFromWall 3 (some .int), Cond.fieldLink RX0 9 "EchoCave$Cave" "wall" "[I", Cond.methodLink RX4 124 yX2_cameInOrder]
def wsL_would_r8 : List Cond := [Cond.instanceMethod yX2_cameInOrder, Cond.selects RX2 yX2_cameInOrder yX2_cameInOrder, Cond.code yX2_cameInOrder cX2_cameInOrder 1 (some .boolean)]
def wsL_would : List Cond := .codeWith yL_would cL_would 6 (some .int) [(0, 12, 15, 13), (0, 12, 19, 21)] :: ((wsL_would_r1 ++ (wsL_would_r2 ++ (wsL_would_r3 ++ (wsL_would_r4 ++ (wsL_would_r5 ++ (wsL_would_r6 ++ (wsL_would_r7 ++ wsL_would_r8))))))) ++ wsX40 ++ wsX20 ++ wsX30 ++ wsX10 ++ wsX00 ++ (vx_atS RX4 185 "java/lang/IllegalArgumentException" ["java/lang/RuntimeException", "java/lang/Exception"]).filter goodWord ++ (vx_atS RX4 180 "java/lang/IndexOutOfBoundsException" ["java/lang/RuntimeException", "java/lang/Exception"]).filter goodWord)
def wsL_advise_r1 : List Cond := [Cond.classLink RL 13 "java/lang/IllegalArgumentException", Cond.methodLink RL 58 yX4_advise, Cond.instanceMethod yX4_advise, Cond.selects RX4 yX4_advise yX4_advise, Cond.initialized RX4, Cond.code yX4_advise cX4_advise 9 (some .int), Cond.fieldLink RX4 12 "EchoCave" "cave" "LEchoCave$Cave;", Cond.methodLink RX4 107 yX4_requireWordAndBeat, Cond.static yX4_requireWordAndBeat, Cond.code yX4_requireWordAndBeat cX4_requireWordAndBeat 2 none, Cond.methodLink RX4 151 yX4_isWord, Cond.static yX4_isWord, Cond.code yX4_isWord cX4_isWord 2 (some .boolean), Cond.constant RX4 175 (999999), Cond.methodLink RX4 45 yX4_isWithin, Cond.static yX4_isWithin, Cond.code yX4_isWithin cX4_isWithin 3 (some .boolean), Cond.methodLink RX4 49 yX4_requireArgument, Cond.static yX4_requireArgument, Cond.code yX4_requireArgument cX4_requireArgument 1 none, Cond.classLink RX4 181 "java/lang/IllegalArgumentException", Cond.initialized "java/lang/IllegalArgumentException", Cond.methodLink RX4 93 yX0_putClapper, Cond.instanceMethod yX0_putClapper]
def wsL_advise_r2 : List Cond := [Cond.selects RX0 yX0_putClapper yX0_putClapper, Cond.initialized RX0, Cond.code yX0_putClapper cX0_putClapper 4 none, Cond.fieldLink RX0 21 "EchoCave$Cave" "syllable" "[I", Cond.fieldLink RX0 24 "EchoCave$Cave" "delay" "[I", Cond.methodLink RX4 147 yX4_wouldComeInOrder, Cond.instanceMethod yX4_wouldComeInOrder, Cond.selects RX4 yX4_wouldComeInOrder yX4_wouldComeInOrder, Cond.code yX4_wouldComeInOrder cX4_wouldComeInOrder 3 (some .boolean), Cond.fieldLink RX4 21 "EchoCave" "sound" "LEchoCave$Sound;", Cond.fieldLink RX4 35 "EchoCave" "ear" "I", Cond.fieldLink RX4 32 "EchoCave" "trial" "LEchoCave$Echo;", Cond.methodLink RX4 111 yX3_runThrough, Cond.instanceMethod yX3_runThrough, Cond.selects RX3 yX3_runThrough yX3_runThrough, Cond.initialized RX3, Cond.code yX3_runThrough cX3_runThrough 7 none, Cond.fieldLink RX3 18 "EchoCave$Sound" "comings" "LEchoCave$Comings;", Cond.static yX4_placesOf, Cond.code yX4_placesOf cX4_placesOf 3 (some .int), Cond.methodLink RX3 44 yX2_begin, Cond.instanceMethod yX2_begin, Cond.selects RX2 yX2_begin yX2_begin, Cond.initialized RX2]
def wsL_advise_r3 : List Cond := [Cond.code yX2_begin cX2_begin 3 none, Cond.fieldLink RX2 18 "EchoCave$Echo" "places" "I", Cond.fieldLink RX2 22 "EchoCave$Echo" "ear" "I", Cond.fieldLink RX2 25 "EchoCave$Echo" "kept" "I", Cond.fieldLink RX2 28 "EchoCave$Echo" "counted" "I", Cond.fieldLink RX2 31 "EchoCave$Echo" "placesInOrder" "I", Cond.fieldLink RX2 34 "EchoCave$Echo" "lastTime" "I", Cond.fieldLink RX2 15 "EchoCave$Echo" "firstTime" "[I", Cond.methodLink RX2 37 yJ7_fill_53178, Cond.static yJ7_fill_53178, Cond.initialized RJ7, Cond.code yJ7_fill_53178 cJ7_fill_53178 4 none, Cond.methodLink RX3 50 yX3_begin, Cond.instanceMethod yX3_begin, Cond.selects RX3 yX3_begin yX3_begin, Cond.code yX3_begin cX3_begin 6 none, Cond.fieldLink RX3 33 "EchoCave$Sound" "runs" "I", Cond.fieldLink RX3 37 "EchoCave$Sound" "clappersSetOff" "I", Cond.methodLink RX3 65 yX1_clear, Cond.instanceMethod yX1_clear, Cond.selects RX1 yX1_clear yX1_clear, Cond.initialized RX1, Cond.code yX1_clear cX1_clear 1 none, Cond.fieldLink RX1 15 "EchoCave$Comings" "size" "I"]
def wsL_advise_r4 : List Cond := [Cond.methodLink RX3 68 yX3_startRun, Cond.instanceMethod yX3_startRun, Cond.selects RX3 yX3_startRun yX3_startRun, Cond.code yX3_startRun cX3_startRun 6 none, Cond.fieldLink RX3 22 "EchoCave$Sound" "syllable" "[I", Cond.fieldLink RX3 26 "EchoCave$Sound" "place" "[I", Cond.fieldLink RX3 29 "EchoCave$Sound" "passagesUsed" "[J", Cond.methodLink RX3 72 yX1_pack, Cond.static yX1_pack, Cond.code yX1_pack cX1_pack 5 (some .int), Cond.methodLink RX3 76 yX1_put, Cond.instanceMethod yX1_put, Cond.selects RX1 yX1_put yX1_put, Cond.code yX1_put cX1_put 3 none, Cond.fieldLink RX1 11 "EchoCave$Comings" "heap" "[I", Cond.methodLink RX3 53 yX1_isEmpty, Cond.instanceMethod yX1_isEmpty, Cond.selects RX1 yX1_isEmpty yX1_isEmpty, Cond.code yX1_isEmpty cX1_isEmpty 1 (some .boolean), Cond.methodLink RX3 57 yX1_takeNext, Cond.instanceMethod yX1_takeNext, Cond.selects RX1 yX1_takeNext yX1_takeNext, Cond.code yX1_takeNext cX1_takeNext 2 (some .int), Cond.methodLink RX1 19 yX1_sink]
def wsL_advise_r5 : List Cond := [Cond.instanceMethod yX1_sink, Cond.selects RX1 yX1_sink yX1_sink, Cond.code yX1_sink cX1_sink 4 none, Cond.methodLink RX3 61 yX3_come, Cond.instanceMethod yX3_come, Cond.selects RX3 yX3_come yX3_come, Cond.code yX3_come cX3_come 8 none, Cond.fieldLink RX3 9 "EchoCave$Sound" "cave" "LEchoCave$Cave;", Cond.methodLink RX3 80 yX1_timeOf, Cond.static yX1_timeOf, Cond.code yX1_timeOf cX1_timeOf 1 (some .int), Cond.methodLink RX3 83 yX1_chamberOf, Cond.static yX1_chamberOf, Cond.code yX1_chamberOf cX1_chamberOf 1 (some .int), Cond.methodLink RX3 86 yX1_runOf, Cond.static yX1_runOf, Cond.code yX1_runOf cX1_runOf 1 (some .int), Cond.methodLink RX3 89 yX1_passageOf, Cond.static yX1_passageOf, Cond.code yX1_passageOf cX1_passageOf 1 (some .int), Cond.methodLink RX3 92 yX1_strengthOf, Cond.static yX1_strengthOf, Cond.code yX1_strengthOf cX1_strengthOf 1 (some .int), Cond.methodLink RX3 95 yX0_hasChamber]
def wsL_advise_r6 : List Cond := [Cond.instanceMethod yX0_hasChamber, Cond.selects RX0 yX0_hasChamber yX0_hasChamber, Cond.code yX0_hasChamber cX0_hasChamber 2 (some .boolean), Cond.fieldLink RX0 50 "EchoCave$Cave" "chambers" "I", Cond.methodLink RX3 104 yX2_hear, Cond.instanceMethod yX2_hear, Cond.selects RX2 yX2_hear yX2_hear, Cond.code yX2_hear cX2_hear 6 none, Cond.fieldLink RX2 9 "EchoCave$Echo" "facts" "[I", Cond.methodLink RX2 43 yX2_letCount, Cond.instanceMethod yX2_letCount, Cond.selects RX2 yX2_letCount yX2_letCount, Cond.code yX2_letCount cX2_letCount 3 none, Cond.methodLink RX3 108 yX0_drowns, Cond.instanceMethod yX0_drowns, Cond.selects RX0 yX0_drowns yX0_drowns, Cond.code yX0_drowns cX0_drowns 3 (some .boolean), Cond.fieldLink RX0 18 "EchoCave$Cave" "bats" "[I", Cond.methodLink RX3 112 yX3_setOffClapper, Cond.instanceMethod yX3_setOffClapper, Cond.selects RX3 yX3_setOffClapper yX3_setOffClapper, Cond.code yX3_setOffClapper cX3_setOffClapper 6 none, Cond.methodLink RX3 115 yX3_goOn, Cond.instanceMethod yX3_goOn]
def wsL_advise_r7 : List Cond := [Cond.selects RX3 yX3_goOn yX3_goOn, Cond.code yX3_goOn cX3_goOn 8 none, Cond.methodLink RX3 136 yX0_isOpen, Cond.instanceMethod yX0_isOpen, Cond.selects RX0 yX0_isOpen yX0_isOpen, Cond.code yX0_isOpen cX0_isOpen 2 (some .boolean), Cond.fieldLink RX0 15 "EchoCave$Cave" "height" "[I", Cond.fieldLink RX0 35 "EchoCave$Cave" "from" "[I", Cond.fieldLink RX0 57 "EchoCave$Cave" "water" "I", Cond.fieldLink RX0 38 "EchoCave$Cave" "to" "[I", Cond.methodLink RX3 122 yX3_goInto, Cond.instanceMethod yX3_goInto, Cond.selects RX3 yX3_goInto yX3_goInto, Cond.code yX3_goInto cX3_goInto 10 none, Cond.methodLink RX3 145 yX0_otherEnd, Cond.instanceMethod yX0_otherEnd, Cond.selects RX0 yX0_otherEnd yX0_otherEnd, Cond.code yX0_otherEnd cX0_otherEnd 3 (some .int), Cond.methodLink RX3 148 yX0_strengthBehind, Cond.instanceMethod yX0_strengthBehind, Cond.selects RX0 yX0_strengthBehind yX0_strengthBehind, Cond.code yX0_strengthBehind cX0_strengthBehind 3 (some .int), Cond.fieldLink RX0 44 "EchoCave$Cave" "narrow" "[I", Cond.methodLink RX3 118 yX0_strengthFromWall]
def wsL_advise_r8 : List Cond := [Cond.instanceMethod yX0_strengthFromWall, Cond.selects RX0 yX0_strengthFromWall yX0_strengthFromWall, Cond.code yX0_strengthFromWall cX0_strengthFromWall 3 (some .int), Cond.fieldLink RX0 9 "EchoCave$Cave" "wall" "[I", Cond.methodLink RX4 124 yX2_cameInOrder, Cond.instanceMethod yX2_cameInOrder, Cond.selects RX2 yX2_cameInOrder yX2_cameInOrder, Cond.code yX2_cameInOrder cX2_cameInOrder 1 (some .boolean)]
def wsL_advise : List Cond := .codeWith yL_advise cL_advise 7 (some .int) [(0, 14, 17, 13)] :: ((wsL_advise_r1 ++ (wsL_advise_r2 ++ (wsL_advise_r3 ++ (wsL_advise_r4 ++ (wsL_advise_r5 ++ (wsL_advise_r6 ++ (wsL_advise_r7 ++ wsL_advise_r8))))))) ++ wsX40 ++ wsX00 ++ wsX30 ++ wsX20 ++ wsX10 ++ (vx_atS RX4 185 "java/lang/IllegalArgumentException" ["java/lang/RuntimeException", "java/lang/Exception"]).filter goodWord)
def wsL_longest_r1 : List Cond := [Cond.classLink RL 13 "java/lang/IllegalArgumentException", Cond.methodLink RL 61 yX4_longest, Cond.instanceMethod yX4_longest, Cond.selects RX4 yX4_longest yX4_longest, Cond.initialized RX4, Cond.code yX4_longest cX4_longest 6 (some .int), Cond.methodLink RX4 45 yX4_isWithin, Cond.static yX4_isWithin, Cond.code yX4_isWithin cX4_isWithin 3 (some .boolean), Cond.methodLink RX4 49 yX4_requireArgument, Cond.static yX4_requireArgument, Cond.code yX4_requireArgument cX4_requireArgument 1 none, Cond.classLink RX4 181 "java/lang/IllegalArgumentException", Cond.initialized "java/lang/IllegalArgumentException", Cond.methodLink RX4 147 yX4_wouldComeInOrder, Cond.instanceMethod yX4_wouldComeInOrder, Cond.selects RX4 yX4_wouldComeInOrder yX4_wouldComeInOrder, Cond.code yX4_wouldComeInOrder cX4_wouldComeInOrder 3 (some .boolean), Cond.fieldLink RX4 21 "EchoCave" "sound" "LEchoCave$Sound;", Cond.fieldLink RX4 35 "EchoCave" "ear" "I", Cond.fieldLink RX4 32 "EchoCave" "trial" "LEchoCave$Echo;", Cond.methodLink RX4 111 yX3_runThrough, Cond.instanceMethod yX3_runThrough, Cond.selects RX3 yX3_runThrough yX3_runThrough]
def wsL_longest_r2 : List Cond := [Cond.initialized RX3, Cond.code yX3_runThrough cX3_runThrough 7 none, Cond.fieldLink RX3 18 "EchoCave$Sound" "comings" "LEchoCave$Comings;", Cond.static yX4_placesOf, Cond.code yX4_placesOf cX4_placesOf 3 (some .int), Cond.methodLink RX3 44 yX2_begin, Cond.instanceMethod yX2_begin, Cond.selects RX2 yX2_begin yX2_begin, Cond.initialized RX2, Cond.code yX2_begin cX2_begin 3 none, Cond.fieldLink RX2 18 "EchoCave$Echo" "places" "I", Cond.fieldLink RX2 22 "EchoCave$Echo" "ear" "I", Cond.fieldLink RX2 25 "EchoCave$Echo" "kept" "I", Cond.fieldLink RX2 28 "EchoCave$Echo" "counted" "I", Cond.fieldLink RX2 31 "EchoCave$Echo" "placesInOrder" "I", Cond.fieldLink RX2 34 "EchoCave$Echo" "lastTime" "I", Cond.fieldLink RX2 15 "EchoCave$Echo" "firstTime" "[I", Cond.methodLink RX2 37 yJ7_fill_53178, Cond.static yJ7_fill_53178, Cond.initialized RJ7, Cond.code yJ7_fill_53178 cJ7_fill_53178 4 none, Cond.methodLink RX3 50 yX3_begin, Cond.instanceMethod yX3_begin, Cond.selects RX3 yX3_begin yX3_begin]
def wsL_longest_r3 : List Cond := [Cond.code yX3_begin cX3_begin 6 none, Cond.fieldLink RX3 33 "EchoCave$Sound" "runs" "I", Cond.fieldLink RX3 37 "EchoCave$Sound" "clappersSetOff" "I", Cond.methodLink RX3 65 yX1_clear, Cond.instanceMethod yX1_clear, Cond.selects RX1 yX1_clear yX1_clear, Cond.initialized RX1, Cond.code yX1_clear cX1_clear 1 none, Cond.fieldLink RX1 15 "EchoCave$Comings" "size" "I", Cond.methodLink RX3 68 yX3_startRun, Cond.instanceMethod yX3_startRun, Cond.selects RX3 yX3_startRun yX3_startRun, Cond.code yX3_startRun cX3_startRun 6 none, Cond.fieldLink RX3 22 "EchoCave$Sound" "syllable" "[I", Cond.fieldLink RX3 26 "EchoCave$Sound" "place" "[I", Cond.fieldLink RX3 29 "EchoCave$Sound" "passagesUsed" "[J", Cond.methodLink RX3 72 yX1_pack, Cond.static yX1_pack, Cond.code yX1_pack cX1_pack 5 (some .int), Cond.methodLink RX3 76 yX1_put, Cond.instanceMethod yX1_put, Cond.selects RX1 yX1_put yX1_put, Cond.code yX1_put cX1_put 3 none, Cond.fieldLink RX1 11 "EchoCave$Comings" "heap" "[I"]
def wsL_longest_r4 : List Cond := [Cond.methodLink RX3 53 yX1_isEmpty, Cond.instanceMethod yX1_isEmpty, Cond.selects RX1 yX1_isEmpty yX1_isEmpty, Cond.code yX1_isEmpty cX1_isEmpty 1 (some .boolean), Cond.methodLink RX3 57 yX1_takeNext, Cond.instanceMethod yX1_takeNext, Cond.selects RX1 yX1_takeNext yX1_takeNext, Cond.code yX1_takeNext cX1_takeNext 2 (some .int), Cond.methodLink RX1 19 yX1_sink, Cond.instanceMethod yX1_sink, Cond.selects RX1 yX1_sink yX1_sink, Cond.code yX1_sink cX1_sink 4 none, Cond.methodLink RX3 61 yX3_come, Cond.instanceMethod yX3_come, Cond.selects RX3 yX3_come yX3_come, Cond.code yX3_come cX3_come 8 none, Cond.fieldLink RX3 9 "EchoCave$Sound" "cave" "LEchoCave$Cave;", Cond.methodLink RX3 80 yX1_timeOf, Cond.static yX1_timeOf, Cond.code yX1_timeOf cX1_timeOf 1 (some .int), Cond.methodLink RX3 83 yX1_chamberOf, Cond.static yX1_chamberOf, Cond.code yX1_chamberOf cX1_chamberOf 1 (some .int), Cond.methodLink RX3 86 yX1_runOf]
def wsL_longest_r5 : List Cond := [Cond.static yX1_runOf, Cond.code yX1_runOf cX1_runOf 1 (some .int), Cond.methodLink RX3 89 yX1_passageOf, Cond.static yX1_passageOf, Cond.code yX1_passageOf cX1_passageOf 1 (some .int), Cond.methodLink RX3 92 yX1_strengthOf, Cond.static yX1_strengthOf, Cond.code yX1_strengthOf cX1_strengthOf 1 (some .int), Cond.methodLink RX3 95 yX0_hasChamber, Cond.instanceMethod yX0_hasChamber, Cond.selects RX0 yX0_hasChamber yX0_hasChamber, Cond.initialized RX0, Cond.code yX0_hasChamber cX0_hasChamber 2 (some .boolean), Cond.fieldLink RX0 50 "EchoCave$Cave" "chambers" "I", Cond.methodLink RX3 104 yX2_hear, Cond.instanceMethod yX2_hear, Cond.selects RX2 yX2_hear yX2_hear, Cond.code yX2_hear cX2_hear 6 none, Cond.fieldLink RX2 9 "EchoCave$Echo" "facts" "[I", Cond.methodLink RX2 43 yX2_letCount, Cond.instanceMethod yX2_letCount, Cond.selects RX2 yX2_letCount yX2_letCount, Cond.code yX2_letCount cX2_letCount 3 none, Cond.methodLink RX3 108 yX0_drowns]
def wsL_longest_r6 : List Cond := [Cond.instanceMethod yX0_drowns, Cond.selects RX0 yX0_drowns yX0_drowns, Cond.code yX0_drowns cX0_drowns 3 (some .boolean), Cond.fieldLink RX0 18 "EchoCave$Cave" "bats" "[I", Cond.methodLink RX3 112 yX3_setOffClapper, Cond.instanceMethod yX3_setOffClapper, Cond.selects RX3 yX3_setOffClapper yX3_setOffClapper, Cond.code yX3_setOffClapper cX3_setOffClapper 6 none, Cond.methodLink RX3 115 yX3_goOn, Cond.instanceMethod yX3_goOn, Cond.selects RX3 yX3_goOn yX3_goOn, Cond.code yX3_goOn cX3_goOn 8 none, Cond.methodLink RX3 136 yX0_isOpen, Cond.instanceMethod yX0_isOpen, Cond.selects RX0 yX0_isOpen yX0_isOpen, Cond.code yX0_isOpen cX0_isOpen 2 (some .boolean), Cond.fieldLink RX0 15 "EchoCave$Cave" "height" "[I", Cond.fieldLink RX0 35 "EchoCave$Cave" "from" "[I", Cond.fieldLink RX0 57 "EchoCave$Cave" "water" "I", Cond.fieldLink RX0 38 "EchoCave$Cave" "to" "[I", Cond.methodLink RX3 122 yX3_goInto, Cond.instanceMethod yX3_goInto, Cond.selects RX3 yX3_goInto yX3_goInto, Cond.code yX3_goInto cX3_goInto 10 none]
def wsL_longest_r7 : List Cond := [Cond.methodLink RX3 145 yX0_otherEnd, Cond.instanceMethod yX0_otherEnd, Cond.selects RX0 yX0_otherEnd yX0_otherEnd, Cond.code yX0_otherEnd cX0_otherEnd 3 (some .int), Cond.methodLink RX3 148 yX0_strengthBehind, Cond.instanceMethod yX0_strengthBehind, Cond.selects RX0 yX0_strengthBehind yX0_strengthBehind, Cond.code yX0_strengthBehind cX0_strengthBehind 3 (some .int), Cond.fieldLink RX0 44 "EchoCave$Cave" "narrow" "[I", Cond.methodLink RX3 118 yX0_strengthFromWall, Cond.instanceMethod yX0_strengthFromWall, Cond.selects RX0 yX0_strengthFromWall yX0_strengthFromWall, Cond.code yX0_strengthFromWall cX0_strengthFromWall 3 (some .int), Cond.fieldLink RX0 9 "EchoCave$Cave" "wall" "[I", Cond.methodLink RX4 124 yX2_cameInOrder, Cond.instanceMethod yX2_cameInOrder, Cond.selects RX2 yX2_cameInOrder yX2_cameInOrder, Cond.code yX2_cameInOrder cX2_cameInOrder 1 (some .boolean)]
def wsL_longest : List Cond := .codeWith yL_longest cL_longest 5 (some .int) [(0, 10, 13, 13)] :: ((wsL_longest_r1 ++ (wsL_longest_r2 ++ (wsL_longest_r3 ++ (wsL_longest_r4 ++ (wsL_longest_r5 ++ (wsL_longest_r6 ++ wsL_longest_r7)))))) ++ wsX40 ++ wsX30 ++ wsX20 ++ wsX10 ++ wsX00 ++ (vx_atS RX4 185 "java/lang/IllegalArgumentException" ["java/lang/RuntimeException", "java/lang/Exception"]).filter goodWord)
def wsL_quickest_r1 : List Cond := [Cond.classLink RL 13 "java/lang/IllegalArgumentException", Cond.methodLink RL 64 yX4_quickest, Cond.instanceMethod yX4_quickest, Cond.selects RX4 yX4_quickest yX4_quickest, Cond.initialized RX4, Cond.code yX4_quickest cX4_quickest 3 (some .int), Cond.methodLink RX4 151 yX4_isWord, Cond.static yX4_isWord, Cond.code yX4_isWord cX4_isWord 2 (some .boolean), Cond.constant RX4 175 (999999), Cond.methodLink RX4 45 yX4_isWithin, Cond.static yX4_isWithin, Cond.code yX4_isWithin cX4_isWithin 3 (some .boolean), Cond.methodLink RX4 49 yX4_requireArgument, Cond.static yX4_requireArgument, Cond.code yX4_requireArgument cX4_requireArgument 1 none, Cond.classLink RX4 181 "java/lang/IllegalArgumentException", Cond.initialized "java/lang/IllegalArgumentException", Cond.methodLink RX4 147 yX4_wouldComeInOrder, Cond.instanceMethod yX4_wouldComeInOrder, Cond.selects RX4 yX4_wouldComeInOrder yX4_wouldComeInOrder, Cond.code yX4_wouldComeInOrder cX4_wouldComeInOrder 3 (some .boolean), Cond.fieldLink RX4 21 "EchoCave" "sound" "LEchoCave$Sound;", Cond.fieldLink RX4 35 "EchoCave" "ear" "I"]
def wsL_quickest_r2 : List Cond := [Cond.fieldLink RX4 32 "EchoCave" "trial" "LEchoCave$Echo;", Cond.methodLink RX4 111 yX3_runThrough, Cond.instanceMethod yX3_runThrough, Cond.selects RX3 yX3_runThrough yX3_runThrough, Cond.initialized RX3, Cond.code yX3_runThrough cX3_runThrough 7 none, Cond.fieldLink RX3 18 "EchoCave$Sound" "comings" "LEchoCave$Comings;", Cond.static yX4_placesOf, Cond.code yX4_placesOf cX4_placesOf 3 (some .int), Cond.methodLink RX3 44 yX2_begin, Cond.instanceMethod yX2_begin, Cond.selects RX2 yX2_begin yX2_begin, Cond.initialized RX2, Cond.code yX2_begin cX2_begin 3 none, Cond.fieldLink RX2 18 "EchoCave$Echo" "places" "I", Cond.fieldLink RX2 22 "EchoCave$Echo" "ear" "I", Cond.fieldLink RX2 25 "EchoCave$Echo" "kept" "I", Cond.fieldLink RX2 28 "EchoCave$Echo" "counted" "I", Cond.fieldLink RX2 31 "EchoCave$Echo" "placesInOrder" "I", Cond.fieldLink RX2 34 "EchoCave$Echo" "lastTime" "I", Cond.fieldLink RX2 15 "EchoCave$Echo" "firstTime" "[I", Cond.methodLink RX2 37 yJ7_fill_53178, Cond.static yJ7_fill_53178, Cond.initialized RJ7]
def wsL_quickest_r3 : List Cond := [Cond.code yJ7_fill_53178 cJ7_fill_53178 4 none, Cond.methodLink RX3 50 yX3_begin, Cond.instanceMethod yX3_begin, Cond.selects RX3 yX3_begin yX3_begin, Cond.code yX3_begin cX3_begin 6 none, Cond.fieldLink RX3 33 "EchoCave$Sound" "runs" "I", Cond.fieldLink RX3 37 "EchoCave$Sound" "clappersSetOff" "I", Cond.methodLink RX3 65 yX1_clear, Cond.instanceMethod yX1_clear, Cond.selects RX1 yX1_clear yX1_clear, Cond.initialized RX1, Cond.code yX1_clear cX1_clear 1 none, Cond.fieldLink RX1 15 "EchoCave$Comings" "size" "I", Cond.methodLink RX3 68 yX3_startRun, Cond.instanceMethod yX3_startRun, Cond.selects RX3 yX3_startRun yX3_startRun, Cond.code yX3_startRun cX3_startRun 6 none, Cond.fieldLink RX3 22 "EchoCave$Sound" "syllable" "[I", Cond.fieldLink RX3 26 "EchoCave$Sound" "place" "[I", Cond.fieldLink RX3 29 "EchoCave$Sound" "passagesUsed" "[J", Cond.methodLink RX3 72 yX1_pack, Cond.static yX1_pack, Cond.code yX1_pack cX1_pack 5 (some .int), Cond.methodLink RX3 76 yX1_put]
def wsL_quickest_r4 : List Cond := [Cond.instanceMethod yX1_put, Cond.selects RX1 yX1_put yX1_put, Cond.code yX1_put cX1_put 3 none, Cond.fieldLink RX1 11 "EchoCave$Comings" "heap" "[I", Cond.methodLink RX3 53 yX1_isEmpty, Cond.instanceMethod yX1_isEmpty, Cond.selects RX1 yX1_isEmpty yX1_isEmpty, Cond.code yX1_isEmpty cX1_isEmpty 1 (some .boolean), Cond.methodLink RX3 57 yX1_takeNext, Cond.instanceMethod yX1_takeNext, Cond.selects RX1 yX1_takeNext yX1_takeNext, Cond.code yX1_takeNext cX1_takeNext 2 (some .int), Cond.methodLink RX1 19 yX1_sink, Cond.instanceMethod yX1_sink, Cond.selects RX1 yX1_sink yX1_sink, Cond.code yX1_sink cX1_sink 4 none, Cond.methodLink RX3 61 yX3_come, Cond.instanceMethod yX3_come, Cond.selects RX3 yX3_come yX3_come, Cond.code yX3_come cX3_come 8 none, Cond.fieldLink RX3 9 "EchoCave$Sound" "cave" "LEchoCave$Cave;", Cond.methodLink RX3 80 yX1_timeOf, Cond.static yX1_timeOf, Cond.code yX1_timeOf cX1_timeOf 1 (some .int)]
def wsL_quickest_r5 : List Cond := [Cond.methodLink RX3 83 yX1_chamberOf, Cond.static yX1_chamberOf, Cond.code yX1_chamberOf cX1_chamberOf 1 (some .int), Cond.methodLink RX3 86 yX1_runOf, Cond.static yX1_runOf, Cond.code yX1_runOf cX1_runOf 1 (some .int), Cond.methodLink RX3 89 yX1_passageOf, Cond.static yX1_passageOf, Cond.code yX1_passageOf cX1_passageOf 1 (some .int), Cond.methodLink RX3 92 yX1_strengthOf, Cond.static yX1_strengthOf, Cond.code yX1_strengthOf cX1_strengthOf 1 (some .int), Cond.methodLink RX3 95 yX0_hasChamber, Cond.instanceMethod yX0_hasChamber, Cond.selects RX0 yX0_hasChamber yX0_hasChamber, Cond.initialized RX0, Cond.code yX0_hasChamber cX0_hasChamber 2 (some .boolean), Cond.fieldLink RX0 50 "EchoCave$Cave" "chambers" "I", Cond.methodLink RX3 104 yX2_hear, Cond.instanceMethod yX2_hear, Cond.selects RX2 yX2_hear yX2_hear, Cond.code yX2_hear cX2_hear 6 none, Cond.fieldLink RX2 9 "EchoCave$Echo" "facts" "[I", Cond.methodLink RX2 43 yX2_letCount]
def wsL_quickest_r6 : List Cond := [Cond.instanceMethod yX2_letCount, Cond.selects RX2 yX2_letCount yX2_letCount, Cond.code yX2_letCount cX2_letCount 3 none, Cond.methodLink RX3 108 yX0_drowns, Cond.instanceMethod yX0_drowns, Cond.selects RX0 yX0_drowns yX0_drowns, Cond.code yX0_drowns cX0_drowns 3 (some .boolean), Cond.fieldLink RX0 18 "EchoCave$Cave" "bats" "[I", Cond.methodLink RX3 112 yX3_setOffClapper, Cond.instanceMethod yX3_setOffClapper, Cond.selects RX3 yX3_setOffClapper yX3_setOffClapper, Cond.code yX3_setOffClapper cX3_setOffClapper 6 none, Cond.methodLink RX3 115 yX3_goOn, Cond.instanceMethod yX3_goOn, Cond.selects RX3 yX3_goOn yX3_goOn, Cond.code yX3_goOn cX3_goOn 8 none, Cond.methodLink RX3 136 yX0_isOpen, Cond.instanceMethod yX0_isOpen, Cond.selects RX0 yX0_isOpen yX0_isOpen, Cond.code yX0_isOpen cX0_isOpen 2 (some .boolean), Cond.fieldLink RX0 15 "EchoCave$Cave" "height" "[I", Cond.fieldLink RX0 35 "EchoCave$Cave" "from" "[I", Cond.fieldLink RX0 57 "EchoCave$Cave" "water" "I", Cond.fieldLink RX0 38 "EchoCave$Cave" "to" "[I"]
def wsL_quickest_r7 : List Cond := [Cond.methodLink RX3 122 yX3_goInto, Cond.instanceMethod yX3_goInto, Cond.selects RX3 yX3_goInto yX3_goInto, Cond.code yX3_goInto cX3_goInto 10 none, Cond.methodLink RX3 145 yX0_otherEnd, Cond.instanceMethod yX0_otherEnd, Cond.selects RX0 yX0_otherEnd yX0_otherEnd, Cond.code yX0_otherEnd cX0_otherEnd 3 (some .int), Cond.methodLink RX3 148 yX0_strengthBehind, Cond.instanceMethod yX0_strengthBehind, Cond.selects RX0 yX0_strengthBehind yX0_strengthBehind, Cond.code yX0_strengthBehind cX0_strengthBehind 3 (some .int), Cond.fieldLink RX0 44 "EchoCave$Cave" "narrow" "[I", Cond.methodLink RX3 118 yX0_strengthFromWall, Cond.instanceMethod yX0_strengthFromWall, Cond.selects RX0 yX0_strengthFromWall yX0_strengthFromWall, Cond.code yX0_strengthFromWall cX0_strengthFromWall 3 (some .int), Cond.fieldLink RX0 9 "EchoCave$Cave" "wall" "[I", Cond.methodLink RX4 124 yX2_cameInOrder, Cond.instanceMethod yX2_cameInOrder, Cond.selects RX2 yX2_cameInOrder yX2_cameInOrder, Cond.code yX2_cameInOrder cX2_cameInOrder 1 (some .boolean)]
def wsL_quickest : List Cond := .codeWith yL_quickest cL_quickest 4 (some .int) [(0, 9, 12, 13)] :: ((wsL_quickest_r1 ++ (wsL_quickest_r2 ++ (wsL_quickest_r3 ++ (wsL_quickest_r4 ++ (wsL_quickest_r5 ++ (wsL_quickest_r6 ++ wsL_quickest_r7)))))) ++ wsX40 ++ wsX30 ++ wsX20 ++ wsX10 ++ wsX00 ++ (vx_atS RX4 185 "java/lang/IllegalArgumentException" ["java/lang/RuntimeException", "java/lang/Exception"]).filter goodWord)
def wsL_way_r1 : List Cond := [Cond.classLink RL 21 "java/lang/IndexOutOfBoundsException", Cond.methodLink RL 67 yX4_way, Cond.instanceMethod yX4_way, Cond.selects RX4 yX4_way yX4_way, Cond.initialized RX4, Cond.code yX4_way cX4_way 3 (some .int), Cond.fieldLink RX4 12 "EchoCave" "cave" "LEchoCave$Cave;", Cond.methodLink RX4 67 yX0_hasChamber, Cond.instanceMethod yX0_hasChamber, Cond.selects RX0 yX0_hasChamber yX0_hasChamber, Cond.initialized RX0, Cond.code yX0_hasChamber cX0_hasChamber 2 (some .boolean), Cond.fieldLink RX0 50 "EchoCave$Cave" "chambers" "I", Cond.static yX4_isWithin, Cond.code yX4_isWithin cX4_isWithin 3 (some .boolean), Cond.methodLink RX4 71 yX4_requireIndex, Cond.static yX4_requireIndex, Cond.code yX4_requireIndex cX4_requireIndex 1 none, Cond.classLink RX4 176 "java/lang/IndexOutOfBoundsException", Cond.initialized "java/lang/IndexOutOfBoundsException", Cond.methodLink RX4 154 yX0_shortestWay, Cond.instanceMethod yX0_shortestWay, Cond.selects RX0 yX0_shortestWay yX0_shortestWay, Cond.code yX0_shortestWay cX0_shortestWay 5 (some .int)]
def wsL_way_r2 : List Cond := [Cond.fieldLink RX0 47 "EchoCave$Cave" "found" "[I", Cond.fieldLink RX0 54 "EchoCave$Cave" "passages" "I", Cond.fieldLink RX0 35 "EchoCave$Cave" "from" "[I", Cond.fieldLink RX0 38 "EchoCave$Cave" "to" "[I", Cond.fieldLink RX0 41 "EchoCave$Cave" "length" "[I", Cond.methodLink RX0 76 yJ7_fill_53178, Cond.static yJ7_fill_53178, Cond.initialized RJ7, Cond.code yJ7_fill_53178 cJ7_fill_53178 4 none, Cond.methodLink RX0 68 yX0_isOpen, Cond.instanceMethod yX0_isOpen, Cond.selects RX0 yX0_isOpen yX0_isOpen, Cond.code yX0_isOpen cX0_isOpen 2 (some .boolean), Cond.fieldLink RX0 15 "EchoCave$Cave" "height" "[I", Cond.fieldLink RX0 57 "EchoCave$Cave" "water" "I", Cond.methodLink RX0 82 yX0_shorten, Cond.instanceMethod yX0_shorten, Cond.selects RX0 yX0_shorten yX0_shorten, Cond.code yX0_shorten cX0_shorten 5 none]
def wsL_way : List Cond := .codeWith yL_way cL_way 5 (some .int) [(0, 10, 13, 21)] :: ((wsL_way_r1 ++ wsL_way_r2) ++ wsX40 ++ wsX00 ++ (vx_atS RX4 180 "java/lang/IndexOutOfBoundsException" ["java/lang/RuntimeException", "java/lang/Exception"]).filter goodWord)
def wsL_highest_r1 : List Cond := [Cond.classLink RL 21 "java/lang/IndexOutOfBoundsException", Cond.methodLink RL 70 yX4_highest, Cond.instanceMethod yX4_highest, Cond.selects RX4 yX4_highest yX4_highest, Cond.initialized RX4, Cond.code yX4_highest cX4_highest 2 (some .int), Cond.fieldLink RX4 12 "EchoCave" "cave" "LEchoCave$Cave;", Cond.methodLink RX4 67 yX0_hasChamber, Cond.instanceMethod yX0_hasChamber, Cond.selects RX0 yX0_hasChamber yX0_hasChamber, Cond.initialized RX0, Cond.code yX0_hasChamber cX0_hasChamber 2 (some .boolean), Cond.fieldLink RX0 50 "EchoCave$Cave" "chambers" "I", Cond.static yX4_isWithin, Cond.code yX4_isWithin cX4_isWithin 3 (some .boolean), Cond.methodLink RX4 71 yX4_requireIndex, Cond.static yX4_requireIndex, Cond.code yX4_requireIndex cX4_requireIndex 1 none, Cond.classLink RX4 176 "java/lang/IndexOutOfBoundsException", Cond.initialized "java/lang/IndexOutOfBoundsException", Cond.methodLink RX4 157 yX0_highestWater, Cond.instanceMethod yX0_highestWater, Cond.selects RX0 yX0_highestWater yX0_highestWater, Cond.code yX0_highestWater cX0_highestWater 4 (some .int)]
def wsL_highest_r2 : List Cond := [Cond.fieldLink RX0 47 "EchoCave$Cave" "found" "[I", Cond.fieldLink RX0 54 "EchoCave$Cave" "passages" "I", Cond.fieldLink RX0 35 "EchoCave$Cave" "from" "[I", Cond.fieldLink RX0 38 "EchoCave$Cave" "to" "[I", Cond.methodLink RX0 76 yJ7_fill_53178, Cond.static yJ7_fill_53178, Cond.initialized RJ7, Cond.code yJ7_fill_53178 cJ7_fill_53178 4 none, Cond.methodLink RX0 86 yX0_raise, Cond.instanceMethod yX0_raise, Cond.selects RX0 yX0_raise yX0_raise, Cond.code yX0_raise cX0_raise 4 none, Cond.fieldLink RX0 15 "EchoCave$Cave" "height" "[I", Cond.methodLink RX0 89 Lib.Math.min.name, Cond.static Lib.Math.min.name, Cond.initialized "java/lang/Math", Cond.code Lib.Math.min.name Lib.Math.min.code 2 (some .int), Cond.methodLink RX0 95 Lib.Math.max.name, Cond.static Lib.Math.max.name, Cond.code Lib.Math.max.name Lib.Math.max.code 2 (some .int)]
def wsL_highest : List Cond := .codeWith yL_highest cL_highest 4 (some .int) [(0, 9, 12, 21)] :: ((wsL_highest_r1 ++ wsL_highest_r2) ++ wsX40 ++ wsX00 ++ (vx_atS RX4 180 "java/lang/IndexOutOfBoundsException" ["java/lang/RuntimeException", "java/lang/Exception"]).filter goodWord)
def wsL_law0_r1 : List Cond := [Cond.classLink RL 8 RX4, Cond.instantiable RX4 7, Cond.initialized RX4, Cond.classLink RL 74 RX6, Cond.instantiable RX6 10, Cond.initialized RX6, Cond.arrayClass .long, Cond.methodLink RL 73 yX4_init, Cond.instanceMethod yX4_init, Cond.code yX4_init cX4_init 1 none, Cond.methodLink RX4 3 objectInit, Cond.instanceMethod objectInit, Cond.code objectInit ⟨#[0xb1]⟩ 1 none, Cond.classLink RX4 9 RX0, Cond.instantiable RX0 15, Cond.initialized RX0, Cond.fieldLink RX4 12 "EchoCave" "cave" "LEchoCave$Cave;", Cond.classLink RX4 16 RX3, Cond.instantiable RX3 7, Cond.initialized RX3, Cond.fieldLink RX4 21 "EchoCave" "sound" "LEchoCave$Sound;", Cond.classLink RX4 25 RX2, Cond.instantiable RX2 8, Cond.initialized RX2]
def wsL_law0_r2 : List Cond := [Cond.fieldLink RX4 28 "EchoCave" "latest" "LEchoCave$Echo;", Cond.fieldLink RX4 32 "EchoCave" "trial" "LEchoCave$Echo;", Cond.fieldLink RX4 35 "EchoCave" "ear" "I", Cond.fieldLink RX4 39 "EchoCave" "wordsSaid" "I", Cond.fieldLink RX4 42 "EchoCave" "latestWord" "I", Cond.methodLink RX4 11 yX0_init, Cond.instanceMethod yX0_init, Cond.code yX0_init cX0_init 1 none, Cond.methodLink RX0 3 objectInit, Cond.arrayClass .int, Cond.fieldLink RX0 9 "EchoCave$Cave" "wall" "[I", Cond.fieldLink RX0 15 "EchoCave$Cave" "height" "[I", Cond.fieldLink RX0 18 "EchoCave$Cave" "bats" "[I", Cond.fieldLink RX0 21 "EchoCave$Cave" "syllable" "[I", Cond.fieldLink RX0 24 "EchoCave$Cave" "delay" "[I", Cond.fieldLink RX0 27 "EchoCave$Cave" "doors" "[I", Cond.classLink RX0 30 "[[I", Cond.fieldLink RX0 32 "EchoCave$Cave" "passageBehind" "[[I", Cond.fieldLink RX0 35 "EchoCave$Cave" "from" "[I", Cond.fieldLink RX0 38 "EchoCave$Cave" "to" "[I", Cond.fieldLink RX0 41 "EchoCave$Cave" "length" "[I", Cond.fieldLink RX0 44 "EchoCave$Cave" "narrow" "[I", Cond.fieldLink RX0 47 "EchoCave$Cave" "found" "[I", Cond.fieldLink RX0 50 "EchoCave$Cave" "chambers" "I"]
def wsL_law0_r3 : List Cond := [Cond.fieldLink RX0 54 "EchoCave$Cave" "passages" "I", Cond.fieldLink RX0 57 "EchoCave$Cave" "water" "I", Cond.methodLink RX4 18 yX3_init, Cond.instanceMethod yX3_init, Cond.code yX3_init cX3_init 2 none, Cond.methodLink RX3 3 objectInit, Cond.fieldLink RX3 9 "EchoCave$Sound" "cave" "LEchoCave$Cave;", Cond.classLink RX3 15 RX1, Cond.instantiable RX1 2, Cond.initialized RX1, Cond.fieldLink RX3 18 "EchoCave$Sound" "comings" "LEchoCave$Comings;", Cond.fieldLink RX3 22 "EchoCave$Sound" "syllable" "[I", Cond.fieldLink RX3 26 "EchoCave$Sound" "place" "[I", Cond.fieldLink RX3 29 "EchoCave$Sound" "passagesUsed" "[J", Cond.fieldLink RX3 33 "EchoCave$Sound" "runs" "I", Cond.fieldLink RX3 37 "EchoCave$Sound" "clappersSetOff" "I", Cond.methodLink RX3 17 yX1_init, Cond.instanceMethod yX1_init, Cond.code yX1_init cX1_init 1 none, Cond.methodLink RX1 5 objectInit, Cond.fieldLink RX1 11 "EchoCave$Comings" "heap" "[I", Cond.fieldLink RX1 15 "EchoCave$Comings" "size" "I", Cond.methodLink RX4 27 yX2_init, Cond.instanceMethod yX2_init]
def wsL_law0_r4 : List Cond := [Cond.code yX2_init cX2_init 1 none, Cond.methodLink RX2 3 objectInit, Cond.fieldLink RX2 9 "EchoCave$Echo" "facts" "[I", Cond.fieldLink RX2 15 "EchoCave$Echo" "firstTime" "[I", Cond.fieldLink RX2 18 "EchoCave$Echo" "places" "I", Cond.fieldLink RX2 22 "EchoCave$Echo" "ear" "I", Cond.fieldLink RX2 25 "EchoCave$Echo" "kept" "I", Cond.fieldLink RX2 28 "EchoCave$Echo" "counted" "I", Cond.fieldLink RX2 31 "EchoCave$Echo" "placesInOrder" "I", Cond.fieldLink RX2 34 "EchoCave$Echo" "lastTime" "I", Cond.methodLink RL 76 yX6_init, Cond.instanceMethod yX6_init, Cond.code yX6_init cX6_init 1 none, Cond.methodLink RX6 3 objectInit, Cond.fieldLink RX6 9 "EchoCaveModel" "chambers" "I", Cond.fieldLink RX6 13 "EchoCaveModel" "ear" "I", Cond.fieldLink RX6 16 "EchoCaveModel" "room" "[I", Cond.fieldLink RX6 20 "EchoCaveModel" "tunnel" "[I", Cond.classLink RX6 23 RX5, Cond.instantiable RX5 21, Cond.initialized RX5, Cond.fieldLink RX6 28 "EchoCaveModel" "s" "LEchoCaveModel$Sound;", Cond.fieldLink RX6 32 "EchoCaveModel" "ahead" "LEchoCaveModel$Sound;", Cond.instanceMethod yX5_init]
def wsL_law0_r5 : List Cond := [Cond.code yX5_init cX5_init 2 none, Cond.fieldLink RX5 3 "EchoCaveModel$Sound" "this$0" "LEchoCaveModel;", Cond.methodLink RX5 9 objectInit, Cond.fieldLink RX5 15 "EchoCaveModel$Sound" "chamber" "I", Cond.fieldLink RX5 19 "EchoCaveModel$Sound" "firsts" "[I", Cond.fieldLink RX5 23 "EchoCaveModel$Sound" "heard" "[I", Cond.fieldLink RX5 26 "EchoCaveModel$Sound" "place" "[I", Cond.fieldLink RX5 29 "EchoCaveModel$Sound" "syllable" "[I", Cond.fieldLink RX5 32 "EchoCaveModel$Sound" "there" "[I", Cond.fieldLink RX5 35 "EchoCaveModel$Sound" "back" "[I", Cond.fieldLink RX5 38 "EchoCaveModel$Sound" "order" "[I", Cond.fieldLink RX5 41 "EchoCaveModel$Sound" "power" "[I", Cond.methodLink RL 77 yL_addChamber, Cond.static yL_addChamber, Cond.initialized RL, Cond.codeWith yL_addChamber cL_addChamber 6 (some .int) [(0, 12, 15, 13), (0, 12, 19, 15)], Cond.classLink RL 13 "java/lang/IllegalArgumentException", Cond.classLink RL 15 "java/lang/IllegalStateException", Cond.methodLink RL 7 yX4_addChamber, Cond.instanceMethod yX4_addChamber, Cond.selects RX4 yX4_addChamber yX4_addChamber, Cond.code yX4_addChamber cX4_addChamber 4 (some .int), Cond.classLink RX4 56 "java/lang/IllegalStateException", Cond.initialized "java/lang/IllegalStateException"]
def wsL_law0_r6 : List Cond := [Cond.methodLink RX4 45 yX4_isWithin, Cond.static yX4_isWithin, Cond.code yX4_isWithin cX4_isWithin 3 (some .boolean), Cond.methodLink RX4 49 yX4_requireArgument, Cond.static yX4_requireArgument, Cond.code yX4_requireArgument cX4_requireArgument 1 none, Cond.classLink RX4 181 "java/lang/IllegalArgumentException", Cond.initialized "java/lang/IllegalArgumentException", Cond.methodLink RX4 63 yX0_findChamber, Cond.instanceMethod yX0_findChamber, Cond.selects RX0 yX0_findChamber yX0_findChamber, Cond.code yX0_findChamber cX0_findChamber 5 (some .int), Cond.methodLink RL 82 yX6_addChamber, Cond.instanceMethod yX6_addChamber, Cond.selects RX6 yX6_addChamber yX6_addChamber, Cond.code yX6_addChamber cX6_addChamber 5 (some .int), Cond.fieldLink RX6 35 "EchoCaveModel" "thrown" "I", Cond.methodLink RX6 47 arraycopyName, Cond.native arraycopyName, Cond.static arraycopyName, Cond.initialized "java/lang/System", Cond.methodLink RX6 38 yX6_isIn, Cond.static yX6_isIn, Cond.code yX6_isIn cX6_isIn 3 (some .boolean)]
def wsL_law0_r7 : List Cond := [Cond.methodLink RX6 43 yX6_no, Cond.instanceMethod yX6_no, Cond.selects RX6 yX6_no yX6_no, Cond.code yX6_no cX6_no 2 (some .int), Cond.methodLink RL 83 yX6_thrown, Cond.instanceMethod yX6_thrown, Cond.selects RX6 yX6_thrown yX6_thrown, Cond.code yX6_thrown cX6_thrown 1 (some .int), Cond.methodLink RL 87 yL_addPassage, Cond.static yL_addPassage, Cond.codeWith yL_addPassage cL_addPassage 7 (some .int) [(0, 14, 17, 21), (0, 14, 21, 13), (0, 14, 25, 15)], Cond.classLink RL 21 "java/lang/IndexOutOfBoundsException", Cond.methodLink RL 17 yX4_addPassage, Cond.instanceMethod yX4_addPassage, Cond.selects RX4 yX4_addPassage yX4_addPassage, Cond.code yX4_addPassage cX4_addPassage 5 (some .int), Cond.methodLink RX4 67 yX0_hasChamber, Cond.instanceMethod yX0_hasChamber, Cond.selects RX0 yX0_hasChamber yX0_hasChamber, Cond.code yX0_hasChamber cX0_hasChamber 2 (some .boolean), Cond.methodLink RX4 71 yX4_requireIndex, Cond.static yX4_requireIndex, Cond.code yX4_requireIndex cX4_requireIndex 1 none, Cond.classLink RX4 176 "java/lang/IndexOutOfBoundsException"]
def wsL_law0_r8 : List Cond := [Cond.initialized "java/lang/IndexOutOfBoundsException", Cond.methodLink RX4 79 yX0_findPassage, Cond.instanceMethod yX0_findPassage, Cond.selects RX0 yX0_findPassage yX0_findPassage, Cond.code yX0_findPassage cX0_findPassage 6 (some .int), Cond.methodLink RX0 64 yX0_addDoor, Cond.instanceMethod yX0_addDoor, Cond.selects RX0 yX0_addDoor yX0_addDoor, Cond.code yX0_addDoor cX0_addDoor 3 none, Cond.methodLink RL 90 yX6_addPassage, Cond.instanceMethod yX6_addPassage, Cond.selects RX6 yX6_addPassage yX6_addPassage, Cond.code yX6_addPassage cX6_addPassage 6 (some .int), Cond.fieldLink RX6 57 "EchoCaveModel" "passages" "I", Cond.methodLink RX6 53 yX6_isChamber, Cond.instanceMethod yX6_isChamber, Cond.selects RX6 yX6_isChamber yX6_isChamber, Cond.code yX6_isChamber cX6_isChamber 2 (some .boolean), Cond.methodLink RL 91 yL_setWater, Cond.static yL_setWater, Cond.codeWith yL_setWater cL_setWater 4 (some .int) [(0, 9, 12, 13)], Cond.methodLink RL 23 yX4_setWater, Cond.instanceMethod yX4_setWater, Cond.selects RX4 yX4_setWater yX4_setWater]
def wsL_law0_r9 : List Cond := [Cond.code yX4_setWater cX4_setWater 3 (some .int), Cond.methodLink RL 94 yX6_setWater, Cond.instanceMethod yX6_setWater, Cond.selects RX6 yX6_setWater yX6_setWater, Cond.code yX6_setWater cX6_setWater 3 (some .int), Cond.fieldLink RX6 60 "EchoCaveModel" "water" "I", Cond.methodLink RL 95 yL_setBats, Cond.static yL_setBats, Cond.codeWith yL_setBats cL_setBats 5 (some .int) [(0, 10, 13, 21), (0, 10, 17, 13)], Cond.methodLink RL 27 yX4_setBats, Cond.instanceMethod yX4_setBats, Cond.selects RX4 yX4_setBats yX4_setBats, Cond.code yX4_setBats cX4_setBats 4 (some .int), Cond.methodLink RL 98 yX6_setBats, Cond.instanceMethod yX6_setBats, Cond.selects RX6 yX6_setBats yX6_setBats, Cond.code yX6_setBats cX6_setBats 4 (some .int), Cond.methodLink RL 99 yL_setClapper, Cond.static yL_setClapper, Cond.codeWith yL_setClapper cL_setClapper 6 (some .int) [(0, 12, 15, 21), (0, 12, 19, 13)], Cond.methodLink RL 31 yX4_setClapper, Cond.instanceMethod yX4_setClapper, Cond.selects RX4 yX4_setClapper yX4_setClapper, Cond.code yX4_setClapper cX4_setClapper 5 (some .int)]
def wsL_law0_r10 : List Cond := [Cond.methodLink RX4 93 yX0_putClapper, Cond.instanceMethod yX0_putClapper, Cond.selects RX0 yX0_putClapper yX0_putClapper, Cond.code yX0_putClapper cX0_putClapper 4 none, Cond.methodLink RL 101 yX6_setClapper, Cond.instanceMethod yX6_setClapper, Cond.selects RX6 yX6_setClapper yX6_setClapper, Cond.code yX6_setClapper cX6_setClapper 5 (some .int), Cond.methodLink RL 102 yL_setEar, Cond.static yL_setEar, Cond.codeWith yL_setEar cL_setEar 4 (some .int) [(0, 9, 12, 13)], Cond.methodLink RL 34 yX4_setEar, Cond.instanceMethod yX4_setEar, Cond.selects RX4 yX4_setEar yX4_setEar, Cond.code yX4_setEar cX4_setEar 3 (some .int), Cond.methodLink RL 104 yX6_setEar, Cond.instanceMethod yX6_setEar, Cond.selects RX6 yX6_setEar yX6_setEar, Cond.code yX6_setEar cX6_setEar 3 (some .int), Cond.methodLink RL 105 yL_chamber, Cond.static yL_chamber, Cond.codeWith yL_chamber cL_chamber 5 (some .int) [(0, 10, 13, 21)], Cond.methodLink RL 37 yX4_chamber, Cond.instanceMethod yX4_chamber]
def wsL_law0_r11 : List Cond := [Cond.selects RX4 yX4_chamber yX4_chamber, Cond.code yX4_chamber cX4_chamber 3 (some .int), Cond.methodLink RX4 97 yX0_chamberFact, Cond.instanceMethod yX0_chamberFact, Cond.selects RX0 yX0_chamberFact yX0_chamberFact, Cond.code yX0_chamberFact cX0_chamberFact 3 (some .int), Cond.methodLink RX0 72 yX0_openDoors, Cond.instanceMethod yX0_openDoors, Cond.selects RX0 yX0_openDoors yX0_openDoors, Cond.code yX0_openDoors cX0_openDoors 4 (some .int), Cond.methodLink RX0 68 yX0_isOpen, Cond.instanceMethod yX0_isOpen, Cond.selects RX0 yX0_isOpen yX0_isOpen, Cond.code yX0_isOpen cX0_isOpen 2 (some .boolean), Cond.methodLink RL 107 yX6_chamber, Cond.instanceMethod yX6_chamber, Cond.selects RX6 yX6_chamber yX6_chamber, Cond.code yX6_chamber cX6_chamber 3 (some .int), Cond.methodLink RX6 70 yX6_chamberTold, Cond.instanceMethod yX6_chamberTold, Cond.selects RX6 yX6_chamberTold yX6_chamberTold, Cond.code yX6_chamberTold cX6_chamberTold 5 (some .int), Cond.methodLink RX6 63 yX6_touches, Cond.instanceMethod yX6_touches]
def wsL_law0_r12 : List Cond := [Cond.selects RX6 yX6_touches yX6_touches, Cond.code yX6_touches cX6_touches 3 (some .boolean), Cond.methodLink RX6 67 yX6_isOpen, Cond.instanceMethod yX6_isOpen, Cond.selects RX6 yX6_isOpen yX6_isOpen, Cond.code yX6_isOpen cX6_isOpen 3 (some .boolean), Cond.methodLink RL 108 yL_passage, Cond.static yL_passage, Cond.codeWith yL_passage cL_passage 5 (some .int) [(0, 10, 13, 21)], Cond.methodLink RL 40 yX4_passage, Cond.instanceMethod yX4_passage, Cond.selects RX4 yX4_passage yX4_passage, Cond.code yX4_passage cX4_passage 3 (some .int), Cond.methodLink RX4 101 yX0_hasPassage, Cond.instanceMethod yX0_hasPassage, Cond.selects RX0 yX0_hasPassage yX0_hasPassage, Cond.code yX0_hasPassage cX0_hasPassage 2 (some .boolean), Cond.methodLink RX4 104 yX0_passageFact, Cond.instanceMethod yX0_passageFact, Cond.selects RX0 yX0_passageFact yX0_passageFact, Cond.code yX0_passageFact cX0_passageFact 3 (some .int), Cond.methodLink RL 110 yX6_passage, Cond.instanceMethod yX6_passage, Cond.selects RX6 yX6_passage yX6_passage]
def wsL_law0_r13 : List Cond := [Cond.code yX6_passage cX6_passage 3 (some .int), Cond.methodLink RX6 74 yX6_passageTold, Cond.instanceMethod yX6_passageTold, Cond.selects RX6 yX6_passageTold yX6_passageTold, Cond.code yX6_passageTold cX6_passageTold 3 (some .int), Cond.methodLink RL 111 yL_say, Cond.static yL_say, Cond.codeWith yL_say cL_say 5 (some .int) [(0, 10, 13, 13)], Cond.methodLink RL 43 yX4_say, Cond.instanceMethod yX4_say, Cond.selects RX4 yX4_say yX4_say, Cond.code yX4_say cX4_say 3 (some .int), Cond.methodLink RX4 107 yX4_requireWordAndBeat, Cond.static yX4_requireWordAndBeat, Cond.code yX4_requireWordAndBeat cX4_requireWordAndBeat 2 none, Cond.methodLink RX4 151 yX4_isWord, Cond.static yX4_isWord, Cond.code yX4_isWord cX4_isWord 2 (some .boolean), Cond.constant RX4 175 (999999), Cond.methodLink RX4 111 yX3_runThrough, Cond.instanceMethod yX3_runThrough, Cond.selects RX3 yX3_runThrough yX3_runThrough, Cond.code yX3_runThrough cX3_runThrough 7 none, Cond.static yX4_placesOf]
def wsL_law0_r14 : List Cond := [Cond.code yX4_placesOf cX4_placesOf 3 (some .int), Cond.methodLink RX3 44 yX2_begin, Cond.instanceMethod yX2_begin, Cond.selects RX2 yX2_begin yX2_begin, Cond.code yX2_begin cX2_begin 3 none, Cond.methodLink RX2 37 yJ7_fill_53178, Cond.static yJ7_fill_53178, Cond.initialized RJ7, Cond.code yJ7_fill_53178 cJ7_fill_53178 4 none, Cond.methodLink RX3 50 yX3_begin, Cond.instanceMethod yX3_begin, Cond.selects RX3 yX3_begin yX3_begin, Cond.code yX3_begin cX3_begin 6 none, Cond.methodLink RX3 65 yX1_clear, Cond.instanceMethod yX1_clear, Cond.selects RX1 yX1_clear yX1_clear, Cond.code yX1_clear cX1_clear 1 none, Cond.methodLink RX3 68 yX3_startRun, Cond.instanceMethod yX3_startRun, Cond.selects RX3 yX3_startRun yX3_startRun, Cond.code yX3_startRun cX3_startRun 6 none, Cond.methodLink RX3 72 yX1_pack, Cond.static yX1_pack, Cond.code yX1_pack cX1_pack 5 (some .int)]
def wsL_law0_r15 : List Cond := [Cond.methodLink RX3 76 yX1_put, Cond.instanceMethod yX1_put, Cond.selects RX1 yX1_put yX1_put, Cond.code yX1_put cX1_put 3 none, Cond.methodLink RX3 53 yX1_isEmpty, Cond.instanceMethod yX1_isEmpty, Cond.selects RX1 yX1_isEmpty yX1_isEmpty, Cond.code yX1_isEmpty cX1_isEmpty 1 (some .boolean), Cond.methodLink RX3 57 yX1_takeNext, Cond.instanceMethod yX1_takeNext, Cond.selects RX1 yX1_takeNext yX1_takeNext, Cond.code yX1_takeNext cX1_takeNext 2 (some .int), Cond.methodLink RX1 19 yX1_sink, Cond.instanceMethod yX1_sink, Cond.selects RX1 yX1_sink yX1_sink, Cond.code yX1_sink cX1_sink 4 none, Cond.methodLink RX3 61 yX3_come, Cond.instanceMethod yX3_come, Cond.selects RX3 yX3_come yX3_come, Cond.code yX3_come cX3_come 8 none, Cond.methodLink RX3 80 yX1_timeOf, Cond.static yX1_timeOf, Cond.code yX1_timeOf cX1_timeOf 1 (some .int), Cond.methodLink RX3 83 yX1_chamberOf]
def wsL_law0_r16 : List Cond := [Cond.static yX1_chamberOf, Cond.code yX1_chamberOf cX1_chamberOf 1 (some .int), Cond.methodLink RX3 86 yX1_runOf, Cond.static yX1_runOf, Cond.code yX1_runOf cX1_runOf 1 (some .int), Cond.methodLink RX3 89 yX1_passageOf, Cond.static yX1_passageOf, Cond.code yX1_passageOf cX1_passageOf 1 (some .int), Cond.methodLink RX3 92 yX1_strengthOf, Cond.static yX1_strengthOf, Cond.code yX1_strengthOf cX1_strengthOf 1 (some .int), Cond.methodLink RX3 95 yX0_hasChamber, Cond.methodLink RX3 104 yX2_hear, Cond.instanceMethod yX2_hear, Cond.selects RX2 yX2_hear yX2_hear, Cond.code yX2_hear cX2_hear 6 none, Cond.methodLink RX2 43 yX2_letCount, Cond.instanceMethod yX2_letCount, Cond.selects RX2 yX2_letCount yX2_letCount, Cond.code yX2_letCount cX2_letCount 3 none, Cond.methodLink RX3 108 yX0_drowns, Cond.instanceMethod yX0_drowns, Cond.selects RX0 yX0_drowns yX0_drowns, Cond.code yX0_drowns cX0_drowns 3 (some .boolean)]
def wsL_law0_r17 : List Cond := [Cond.methodLink RX3 112 yX3_setOffClapper, Cond.instanceMethod yX3_setOffClapper, Cond.selects RX3 yX3_setOffClapper yX3_setOffClapper, Cond.code yX3_setOffClapper cX3_setOffClapper 6 none, Cond.methodLink RX3 115 yX3_goOn, Cond.instanceMethod yX3_goOn, Cond.selects RX3 yX3_goOn yX3_goOn, Cond.code yX3_goOn cX3_goOn 8 none, Cond.methodLink RX3 136 yX0_isOpen, Cond.methodLink RX3 122 yX3_goInto, Cond.instanceMethod yX3_goInto, Cond.selects RX3 yX3_goInto yX3_goInto, Cond.code yX3_goInto cX3_goInto 10 none, Cond.methodLink RX3 145 yX0_otherEnd, Cond.instanceMethod yX0_otherEnd, Cond.selects RX0 yX0_otherEnd yX0_otherEnd, Cond.code yX0_otherEnd cX0_otherEnd 3 (some .int), Cond.methodLink RX3 148 yX0_strengthBehind, Cond.instanceMethod yX0_strengthBehind, Cond.selects RX0 yX0_strengthBehind yX0_strengthBehind, Cond.code yX0_strengthBehind cX0_strengthBehind 3 (some .int), Cond.methodLink RX3 118 yX0_strengthFromWall, Cond.instanceMethod yX0_strengthFromWall, Cond.selects RX0 yX0_strengthFromWall yX0_strengthFromWall]
def wsL_law0_r18 : List Cond := [Cond.code yX0_strengthFromWall cX0_strengthFromWall 3 (some .int), Cond.methodLink RL 113 yX6_say, Cond.instanceMethod yX6_say, Cond.selects RX6 yX6_say yX6_say, Cond.code yX6_say cX6_say 3 (some .int), Cond.fieldLink RX6 84 "EchoCaveModel" "said" "I", Cond.methodLink RX6 77 yX6_isWord, Cond.static yX6_isWord, Cond.code yX6_isWord cX6_isWord 3 (some .boolean), Cond.constant RX6 42 (999999), Cond.methodLink RX6 80 yX5_say, Cond.instanceMethod yX5_say, Cond.selects RX5 yX5_say yX5_say, Cond.code yX5_say cX5_say 5 none, Cond.fieldLink RX5 110 "EchoCaveModel$Sound" "word" "I", Cond.fieldLink RX5 113 "EchoCaveModel$Sound" "places" "I", Cond.fieldLink RX5 53 "EchoCaveModel$Sound" "runs" "I", Cond.fieldLink RX5 63 "EchoCaveModel$Sound" "kept" "I", Cond.fieldLink RX5 69 "EchoCaveModel$Sound" "counted" "I", Cond.fieldLink RX5 75 "EchoCaveModel$Sound" "inOrder" "I", Cond.fieldLink RX5 72 "EchoCaveModel$Sound" "latest" "I", Cond.fieldLink RX5 50 "EchoCaveModel$Sound" "waiting" "I", Cond.fieldLink RX5 81 "EchoCaveModel$Sound" "clapped" "I", Cond.methodLink RX5 116 Lib.Math.max.name]
def wsL_law0_r19 : List Cond := [Cond.static Lib.Math.max.name, Cond.initialized "java/lang/Math", Cond.code Lib.Math.max.name Lib.Math.max.code 2 (some .int), Cond.methodLink RX5 84 yX5_start, Cond.instanceMethod yX5_start, Cond.selects RX5 yX5_start yX5_start, Cond.code yX5_start cX5_start 6 none, Cond.methodLink RX5 56 yX5_come, Cond.instanceMethod yX5_come, Cond.selects RX5 yX5_come yX5_come, Cond.code yX5_come cX5_come 8 none, Cond.methodLink RX5 122 yX5_arrive, Cond.instanceMethod yX5_arrive, Cond.selects RX5 yX5_arrive yX5_arrive, Cond.code yX5_arrive cX5_arrive 8 none, Cond.methodLink RX5 87 yX5_hear, Cond.instanceMethod yX5_hear, Cond.selects RX5 yX5_hear yX5_hear, Cond.code yX5_hear cX5_hear 6 none, Cond.methodLink RX5 91 yX5_clap, Cond.instanceMethod yX5_clap, Cond.selects RX5 yX5_clap yX5_clap, Cond.code yX5_clap cX5_clap 6 none, Cond.fieldLink RX5 44 "EchoCaveModel$Sound" "with" "I"]
def wsL_law0_r20 : List Cond := [Cond.fieldLink RX5 47 "EchoCaveModel$Sound" "late" "I", Cond.methodLink RX5 107 yX5_go, Cond.instanceMethod yX5_go, Cond.selects RX5 yX5_go yX5_go, Cond.code yX5_go cX5_go 8 none, Cond.methodLink RL 114 yL_heard, Cond.static yL_heard, Cond.codeWith yL_heard cL_heard 5 (some .int) [(0, 10, 13, 21)], Cond.methodLink RL 46 yX4_heard, Cond.instanceMethod yX4_heard, Cond.selects RX4 yX4_heard yX4_heard, Cond.code yX4_heard cX4_heard 3 (some .int), Cond.methodLink RX4 121 yX2_heardFact, Cond.instanceMethod yX2_heardFact, Cond.selects RX2 yX2_heardFact yX2_heardFact, Cond.code yX2_heardFact cX2_heardFact 3 (some .int), Cond.methodLink RL 116 yX6_heard, Cond.instanceMethod yX6_heard, Cond.selects RX6 yX6_heard yX6_heard, Cond.code yX6_heard cX6_heard 3 (some .int), Cond.methodLink RL 117 yX4_inOrder, Cond.instanceMethod yX4_inOrder, Cond.selects RX4 yX4_inOrder yX4_inOrder, Cond.code yX4_inOrder cX4_inOrder 1 (some .boolean)]
def wsL_law0_r21 : List Cond := [Cond.methodLink RX4 124 yX2_cameInOrder, Cond.instanceMethod yX2_cameInOrder, Cond.selects RX2 yX2_cameInOrder yX2_cameInOrder, Cond.code yX2_cameInOrder cX2_cameInOrder 1 (some .boolean), Cond.methodLink RL 121 yX6_inOrder, Cond.instanceMethod yX6_inOrder, Cond.selects RX6 yX6_inOrder yX6_inOrder, Cond.code yX6_inOrder cX6_inOrder 1 (some .boolean), Cond.methodLink RX6 96 yX5_isInOrder, Cond.instanceMethod yX5_isInOrder, Cond.selects RX5 yX5_isInOrder yX5_isInOrder, Cond.code yX5_isInOrder cX5_isInOrder 1 (some .boolean), Cond.methodLink RL 122 yL_first, Cond.static yL_first, Cond.codeWith yL_first cL_first 4 (some .int) [(0, 9, 12, 21)], Cond.methodLink RL 49 yX4_first, Cond.instanceMethod yX4_first, Cond.selects RX4 yX4_first yX4_first, Cond.code yX4_first cX4_first 2 (some .int), Cond.methodLink RL 124 yX6_first, Cond.instanceMethod yX6_first, Cond.selects RX6 yX6_first yX6_first, Cond.code yX6_first cX6_first 2 (some .int), Cond.methodLink RL 125 yL_count]
def wsL_law0_r22 : List Cond := [Cond.static yL_count, Cond.codeWith yL_count cL_count 4 (some .int) [(0, 9, 12, 21)], Cond.methodLink RL 52 yX4_count, Cond.instanceMethod yX4_count, Cond.selects RX4 yX4_count yX4_count, Cond.code yX4_count cX4_count 2 (some .int), Cond.methodLink RX4 134 yX4_countFact, Cond.instanceMethod yX4_countFact, Cond.selects RX4 yX4_countFact yX4_countFact, Cond.code yX4_countFact cX4_countFact 2 (some .int), Cond.methodLink RX4 168 yX0_openPassages, Cond.instanceMethod yX0_openPassages, Cond.selects RX0 yX0_openPassages yX0_openPassages, Cond.code yX0_openPassages cX0_openPassages 3 (some .int), Cond.methodLink RX4 172 yX0_clappers, Cond.instanceMethod yX0_clappers, Cond.selects RX0 yX0_clappers yX0_clappers, Cond.code yX0_clappers cX0_clappers 3 (some .int), Cond.methodLink RL 127 yX6_count, Cond.instanceMethod yX6_count, Cond.selects RX6 yX6_count yX6_count, Cond.code yX6_count cX6_count 2 (some .int), Cond.methodLink RX6 109 yX6_counted, Cond.instanceMethod yX6_counted]
def wsL_law0_r23 : List Cond := [Cond.selects RX6 yX6_counted yX6_counted, Cond.code yX6_counted cX6_counted 4 (some .int), Cond.methodLink RL 128 yL_would, Cond.static yL_would, Cond.codeWith yL_would cL_would 6 (some .int) [(0, 12, 15, 13), (0, 12, 19, 21)], Cond.methodLink RL 55 yX4_would, Cond.instanceMethod yX4_would, Cond.selects RX4 yX4_would yX4_would, Cond.code yX4_would cX4_would 4 (some .int), Cond.methodLink RL 130 yX6_would, Cond.instanceMethod yX6_would, Cond.selects RX6 yX6_would yX6_would, Cond.code yX6_would cX6_would 5 (some .int), Cond.methodLink RX6 111 yX6_comes, Cond.instanceMethod yX6_comes, Cond.selects RX6 yX6_comes yX6_comes, Cond.code yX6_comes cX6_comes 3 (some .boolean), Cond.methodLink RL 131 yL_advise, Cond.static yL_advise, Cond.codeWith yL_advise cL_advise 7 (some .int) [(0, 14, 17, 13)], Cond.methodLink RL 58 yX4_advise, Cond.instanceMethod yX4_advise, Cond.selects RX4 yX4_advise yX4_advise, Cond.code yX4_advise cX4_advise 9 (some .int)]
def wsL_law0_r24 : List Cond := [Cond.methodLink RX4 147 yX4_wouldComeInOrder, Cond.instanceMethod yX4_wouldComeInOrder, Cond.selects RX4 yX4_wouldComeInOrder yX4_wouldComeInOrder, Cond.code yX4_wouldComeInOrder cX4_wouldComeInOrder 3 (some .boolean), Cond.methodLink RL 133 yX6_advise, Cond.instanceMethod yX6_advise, Cond.selects RX6 yX6_advise yX6_advise, Cond.code yX6_advise cX6_advise 7 (some .int), Cond.methodLink RX6 120 yX5_instead, Cond.instanceMethod yX5_instead, Cond.selects RX5 yX5_instead yX5_instead, Cond.code yX5_instead cX5_instead 4 none, Cond.methodLink RL 134 yL_longest, Cond.static yL_longest, Cond.codeWith yL_longest cL_longest 5 (some .int) [(0, 10, 13, 13)], Cond.methodLink RL 61 yX4_longest, Cond.instanceMethod yX4_longest, Cond.selects RX4 yX4_longest yX4_longest, Cond.code yX4_longest cX4_longest 6 (some .int), Cond.methodLink RL 136 yX6_longest, Cond.instanceMethod yX6_longest, Cond.selects RX6 yX6_longest yX6_longest, Cond.code yX6_longest cX6_longest 6 (some .int), Cond.methodLink RL 137 yL_quickest]
def wsL_law0_r25 : List Cond := [Cond.static yL_quickest, Cond.codeWith yL_quickest cL_quickest 4 (some .int) [(0, 9, 12, 13)], Cond.methodLink RL 64 yX4_quickest, Cond.instanceMethod yX4_quickest, Cond.selects RX4 yX4_quickest yX4_quickest, Cond.code yX4_quickest cX4_quickest 3 (some .int), Cond.methodLink RL 139 yX6_quickest, Cond.instanceMethod yX6_quickest, Cond.selects RX6 yX6_quickest yX6_quickest, Cond.code yX6_quickest cX6_quickest 3 (some .int), Cond.methodLink RL 140 yL_way, Cond.static yL_way, Cond.codeWith yL_way cL_way 5 (some .int) [(0, 10, 13, 21)], Cond.methodLink RL 67 yX4_way, Cond.instanceMethod yX4_way, Cond.selects RX4 yX4_way yX4_way, Cond.code yX4_way cX4_way 3 (some .int), Cond.methodLink RX4 154 yX0_shortestWay, Cond.instanceMethod yX0_shortestWay, Cond.selects RX0 yX0_shortestWay yX0_shortestWay, Cond.code yX0_shortestWay cX0_shortestWay 5 (some .int), Cond.methodLink RX0 76 yJ7_fill_53178, Cond.methodLink RX0 82 yX0_shorten, Cond.instanceMethod yX0_shorten]
def wsL_law0_r26 : List Cond := [Cond.selects RX0 yX0_shorten yX0_shorten, Cond.code yX0_shorten cX0_shorten 5 none, Cond.methodLink RL 142 yX6_way, Cond.instanceMethod yX6_way, Cond.selects RX6 yX6_way yX6_way, Cond.code yX6_way cX6_way 3 (some .int), Cond.methodLink RX6 129 yX6_shortest, Cond.instanceMethod yX6_shortest, Cond.selects RX6 yX6_shortest yX6_shortest, Cond.code yX6_shortest cX6_shortest 10 (some .int), Cond.methodLink RX6 124 Lib.Math.min.name, Cond.static Lib.Math.min.name, Cond.code Lib.Math.min.name Lib.Math.min.code 2 (some .int), Cond.methodLink RL 143 yL_highest, Cond.static yL_highest, Cond.codeWith yL_highest cL_highest 4 (some .int) [(0, 9, 12, 21)], Cond.methodLink RL 70 yX4_highest, Cond.instanceMethod yX4_highest, Cond.selects RX4 yX4_highest yX4_highest, Cond.code yX4_highest cX4_highest 2 (some .int), Cond.methodLink RX4 157 yX0_highestWater, Cond.instanceMethod yX0_highestWater, Cond.selects RX0 yX0_highestWater yX0_highestWater, Cond.code yX0_highestWater cX0_highestWater 4 (some .int)]
def wsL_law0_r27 : List Cond := [Cond.methodLink RX0 86 yX0_raise, Cond.instanceMethod yX0_raise, Cond.selects RX0 yX0_raise yX0_raise, Cond.code yX0_raise cX0_raise 4 none, Cond.methodLink RX0 89 Lib.Math.min.name, Cond.methodLink RX0 95 Lib.Math.max.name, Cond.methodLink RL 145 yX6_highest, Cond.instanceMethod yX6_highest, Cond.selects RX6 yX6_highest yX6_highest, Cond.code yX6_highest cX6_highest 3 (some .int), Cond.methodLink RL 146 yX4_mean, Cond.instanceMethod yX4_mean, Cond.selects RX4 yX4_mean yX4_mean, Cond.code yX4_mean cX4_mean 1 (some .double), Cond.methodLink RX4 160 yX2_meanStrength, Cond.instanceMethod yX2_meanStrength, Cond.selects RX2 yX2_meanStrength yX2_meanStrength, Cond.code yX2_meanStrength cX2_meanStrength 3 (some .double), Cond.methodLink RX2 51 yX2_heardFact, Cond.methodLink RL 150 yX6_mean, Cond.instanceMethod yX6_mean, Cond.selects RX6 yX6_mean yX6_mean, Cond.code yX6_mean cX6_mean 3 (some .double), Cond.methodLink RL 151 yX4_digest]
def wsL_law0_r28 : List Cond := [Cond.instanceMethod yX4_digest, Cond.selects RX4 yX4_digest yX4_digest, Cond.code yX4_digest cX4_digest 5 (some .long), Cond.constantLong RX4 164 (691), Cond.constantLong RX4 166 (31), Cond.methodLink RL 155 yX6_digest, Cond.instanceMethod yX6_digest, Cond.selects RX6 yX6_digest yX6_digest, Cond.code yX6_digest cX6_digest 5 (some .long), Cond.constantLong RX6 133 (691), Cond.constantLong RX6 135 (31)]
def wsL_law0 : List Cond := (wsL_law0_r1 ++ (wsL_law0_r2 ++ (wsL_law0_r3 ++ (wsL_law0_r4 ++ (wsL_law0_r5 ++ (wsL_law0_r6 ++ (wsL_law0_r7 ++ (wsL_law0_r8 ++ (wsL_law0_r9 ++ (wsL_law0_r10 ++ (wsL_law0_r11 ++ (wsL_law0_r12 ++ (wsL_law0_r13 ++ (wsL_law0_r14 ++ (wsL_law0_r15 ++ (wsL_law0_r16 ++ (wsL_law0_r17 ++ (wsL_law0_r18 ++ (wsL_law0_r19 ++ (wsL_law0_r20 ++ (wsL_law0_r21 ++ (wsL_law0_r22 ++ (wsL_law0_r23 ++ (wsL_law0_r24 ++ (wsL_law0_r25 ++ (wsL_law0_r26 ++ (wsL_law0_r27 ++ wsL_law0_r28))))))))))))))))))))))))))) ++ wsX40 ++ wsX60 ++ wsX00 ++ wsX30 ++ wsX20 ++ wsX10 ++ wsX50 ++ ([] : List Cond)
def wsL_law : List Cond := wsL_law0 ++ (vx_atS RX4 60 "java/lang/IllegalStateException" ["java/lang/RuntimeException", "java/lang/Exception"]).filter goodWord ++ (vx_atS RX4 185 "java/lang/IllegalArgumentException" ["java/lang/RuntimeException", "java/lang/Exception"]).filter goodWord ++ (vx_atS RX4 180 "java/lang/IndexOutOfBoundsException" ["java/lang/RuntimeException", "java/lang/Exception"]).filter goodWord
end
section
set_option maxRecDepth 20000 in
theorem wsL_lr1 : ∀ w ∈ wsL_law0_r1, w ∈ lw_tbl := fun w h => (goodIn_r wsL_law0_r1 [47, 48, 31, 680, 681, 36, 165, 49, 50, 51, 52, 53, 54, 55, 56, 32, 202, 123, 124, 33, 203, 166, 167, 35] (by decide +kernel) (by decide +kernel) w h).1
set_option maxRecDepth 20000 in
theorem wsL_lr2 : ∀ w ∈ wsL_law0_r2, w ∈ lw_tbl := fun w h => (goodIn_r wsL_law0_r2 [204, 205, 206, 207, 208, 57, 58, 59, 60, 122, 65, 66, 67, 69, 72, 75, 61, 77, 82, 84, 85, 87, 90, 63] (by decide +kernel) (by decide +kernel) w h).1
set_option maxRecDepth 20000 in
theorem wsL_lr3 : ∀ w ∈ wsL_law0_r3, w ∈ lw_tbl := fun w h => (goodIn_r wsL_law0_r3 [79, 88, 125, 126, 127, 128, 142, 129, 130, 34, 143, 144, 145, 146, 147, 149, 131, 132, 133, 134, 135, 136, 168, 169] (by decide +kernel) (by decide +kernel) w h).1
set_option maxRecDepth 20000 in
theorem wsL_lr4 : ∀ w ∈ wsL_law0_r4, w ∈ lw_tbl := fun w h => (goodIn_r wsL_law0_r4 [170, 171, 172, 173, 175, 177, 178, 180, 182, 183, 682, 683, 684, 685, 765, 770, 773, 775, 686, 687, 37, 777, 778, 689] (by decide +kernel) (by decide +kernel) w h).1
set_option maxRecDepth 20000 in
theorem wsL_lr5 : ∀ w ∈ wsL_law0_r5, w ∈ lw_tbl := fun w h => (goodIn_r wsL_law0_r5 [690, 720, 691, 707, 710, 712, 714, 715, 716, 717, 718, 719, 279, 280, 30, 281, 282, 283, 284, 285, 286, 287, 362, 42] (by decide +kernel) (by decide +kernel) w h).1
set_option maxRecDepth 20000 in
theorem wsL_lr6 : ∀ w ∈ wsL_law0_r6, w ∈ lw_tbl := fun w h => (goodIn_r wsL_law0_r6 [288, 289, 290, 291, 292, 293, 294, 41, 378, 379, 380, 381, 804, 805, 806, 807, 764, 815, 817, 816, 43, 808, 809, 810] (by decide +kernel) (by decide +kernel) w h).1
set_option maxRecDepth 20000 in
theorem wsL_lr7 : ∀ w ∈ wsL_law0_r7, w ∈ lw_tbl := fun w h => (goodIn_r wsL_law0_r7 [811, 813, 15, 814, 800, 801, 802, 803, 382, 383, 384, 385, 386, 387, 388, 389, 390, 391, 392, 393, 395, 396, 397, 398] (by decide +kernel) (by decide +kernel) w h).1
set_option maxRecDepth 20000 in
theorem wsL_lr8 : ∀ w ∈ wsL_law0_r8, w ∈ lw_tbl := fun w h => (goodIn_r wsL_law0_r8 [44, 415, 416, 417, 418, 419, 421, 3, 422, 818, 819, 820, 821, 767, 822, 824, 16, 825, 423, 424, 425, 426, 427, 428] (by decide +kernel) (by decide +kernel) w h).1
set_option maxRecDepth 20000 in
theorem wsL_lr9 : ∀ w ∈ wsL_law0_r9, w ∈ lw_tbl := fun w h => (goodIn_r wsL_law0_r9 [429, 826, 827, 828, 829, 769, 430, 431, 432, 433, 434, 435, 436, 830, 831, 832, 833, 437, 438, 439, 440, 441, 442, 443] (by decide +kernel) (by decide +kernel) w h).1
set_option maxRecDepth 20000 in
theorem wsL_lr10 : ∀ w ∈ wsL_law0_r10, w ∈ lw_tbl := fun w h => (goodIn_r wsL_law0_r10 [444, 445, 446, 447, 834, 835, 836, 837, 448, 449, 450, 451, 452, 453, 454, 838, 839, 840, 841, 455, 456, 457, 458, 459] (by decide +kernel) (by decide +kernel) w h).1
set_option maxRecDepth 20000 in
theorem wsL_lr11 : ∀ w ∈ wsL_law0_r11, w ∈ lw_tbl := fun w h => (goodIn_r wsL_law0_r11 [460, 461, 266, 267, 268, 269, 270, 272, 1, 273, 258, 259, 260, 261, 842, 843, 844, 845, 846, 848, 17, 849, 850, 852] (by decide +kernel) (by decide +kernel) w h).1
set_option maxRecDepth 20000 in
theorem wsL_lr12 : ∀ w ∈ wsL_law0_r12, w ∈ lw_tbl := fun w h => (goodIn_r wsL_law0_r12 [18, 853, 854, 856, 19, 857, 462, 463, 464, 465, 466, 467, 468, 469, 470, 471, 472, 274, 275, 276, 277, 858, 859, 860] (by decide +kernel) (by decide +kernel) w h).1
set_option maxRecDepth 20000 in
theorem wsL_lr13 : ∀ w ∈ wsL_law0_r13, w ∈ lw_tbl := fun w h => (goodIn_r wsL_law0_r13 [861, 862, 864, 20, 865, 473, 474, 475, 476, 477, 478, 479, 480, 481, 482, 483, 484, 485, 486, 487, 488, 489, 490, 492] (by decide +kernel) (by decide +kernel) w h).1
set_option maxRecDepth 20000 in
theorem wsL_lr14 : ∀ w ∈ wsL_law0_r14, w ∈ lw_tbl := fun w h => (goodIn_r wsL_law0_r14 [493, 494, 495, 496, 497, 498, 499, 45, 500, 501, 503, 4, 504, 505, 506, 507, 508, 509, 511, 5, 512, 513, 514, 515] (by decide +kernel) (by decide +kernel) w h).1
set_option maxRecDepth 20000 in
theorem wsL_lr15 : ∀ w ∈ wsL_law0_r15, w ∈ lw_tbl := fun w h => (goodIn_r wsL_law0_r15 [516, 517, 518, 519, 520, 521, 522, 523, 524, 525, 526, 527, 528, 530, 6, 531, 532, 534, 7, 535, 536, 537, 538, 539] (by decide +kernel) (by decide +kernel) w h).1
set_option maxRecDepth 20000 in
theorem wsL_lr16 : ∀ w ∈ wsL_law0_r16, w ∈ lw_tbl := fun w h => (goodIn_r wsL_law0_r16 [540, 541, 542, 543, 544, 545, 546, 547, 548, 549, 550, 551, 552, 553, 554, 555, 556, 558, 8, 559, 561, 562, 563, 564] (by decide +kernel) (by decide +kernel) w h).1
set_option maxRecDepth 20000 in
theorem wsL_lr17 : ∀ w ∈ wsL_law0_r17, w ∈ lw_tbl := fun w h => (goodIn_r wsL_law0_r17 [565, 567, 9, 568, 569, 571, 10, 572, 573, 574, 576, 11, 577, 578, 579, 580, 581, 582, 583, 584, 585, 586, 587, 588] (by decide +kernel) (by decide +kernel) w h).1
set_option maxRecDepth 20000 in
theorem wsL_lr18 : ∀ w ∈ wsL_law0_r18, w ∈ lw_tbl := fun w h => (goodIn_r wsL_law0_r18 [589, 866, 867, 868, 869, 772, 870, 871, 872, 873, 874, 875, 876, 877, 692, 694, 696, 698, 700, 702, 703, 705, 706, 886] (by decide +kernel) (by decide +kernel) w h).1
set_option maxRecDepth 20000 in
theorem wsL_lr19 : ∀ w ∈ wsL_law0_r19, w ∈ lw_tbl := fun w h => (goodIn_r wsL_law0_r19 [678, 46, 679, 878, 880, 21, 881, 882, 884, 22, 885, 887, 889, 23, 890, 891, 893, 24, 894, 895, 897, 25, 898, 708] (by decide +kernel) (by decide +kernel) w h).1
set_option maxRecDepth 20000 in
theorem wsL_lr20 : ∀ w ∈ wsL_law0_r20, w ∈ lw_tbl := fun w h => (goodIn_r wsL_law0_r20 [709, 901, 903, 26, 904, 590, 591, 592, 593, 594, 595, 596, 278, 241, 242, 243, 905, 906, 907, 908, 224, 225, 226, 227] (by decide +kernel) (by decide +kernel) w h).1
set_option maxRecDepth 20000 in
theorem wsL_lr21 : ∀ w ∈ wsL_law0_r21, w ∈ lw_tbl := fun w h => (goodIn_r wsL_law0_r21 [228, 229, 230, 231, 909, 910, 911, 912, 913, 914, 915, 916, 597, 598, 599, 600, 601, 602, 603, 917, 918, 919, 920, 604] (by decide +kernel) (by decide +kernel) w h).1
set_option maxRecDepth 20000 in
theorem wsL_lr22 : ∀ w ∈ wsL_law0_r22, w ∈ lw_tbl := fun w h => (goodIn_r wsL_law0_r22 [605, 606, 607, 608, 609, 610, 250, 252, 0, 253, 254, 255, 256, 257, 262, 263, 264, 265, 921, 922, 923, 924, 925, 927] (by decide +kernel) (by decide +kernel) w h).1
set_option maxRecDepth 20000 in
theorem wsL_lr23 : ∀ w ∈ wsL_law0_r23, w ∈ lw_tbl := fun w h => (goodIn_r wsL_law0_r23 [27, 928, 611, 612, 613, 614, 615, 616, 617, 929, 930, 931, 932, 933, 935, 28, 936, 618, 619, 620, 621, 622, 623, 624] (by decide +kernel) (by decide +kernel) w h).1
set_option maxRecDepth 20000 in
theorem wsL_lr24 : ∀ w ∈ wsL_law0_r24, w ∈ lw_tbl := fun w h => (goodIn_r wsL_law0_r24 [625, 627, 12, 628, 937, 938, 939, 940, 941, 942, 943, 944, 629, 630, 631, 632, 633, 634, 635, 945, 946, 947, 948, 636] (by decide +kernel) (by decide +kernel) w h).1
set_option maxRecDepth 20000 in
theorem wsL_lr25 : ∀ w ∈ wsL_law0_r25, w ∈ lw_tbl := fun w h => (goodIn_r wsL_law0_r25 [637, 638, 639, 640, 641, 642, 949, 950, 951, 952, 643, 644, 645, 646, 647, 648, 649, 650, 651, 652, 653, 654, 655, 657] (by decide +kernel) (by decide +kernel) w h).1
set_option maxRecDepth 20000 in
theorem wsL_lr26 : ∀ w ∈ wsL_law0_r26, w ∈ lw_tbl := fun w h => (goodIn_r wsL_law0_r26 [13, 658, 953, 954, 955, 956, 957, 959, 29, 960, 961, 675, 676, 659, 660, 661, 662, 663, 664, 665, 666, 667, 668, 669] (by decide +kernel) (by decide +kernel) w h).1
set_option maxRecDepth 20000 in
theorem wsL_lr27 : ∀ w ∈ wsL_law0_r27, w ∈ lw_tbl := fun w h => (goodIn_r wsL_law0_r27 [670, 672, 14, 673, 674, 677, 962, 963, 964, 965, 232, 233, 234, 235, 236, 237, 238, 239, 240, 966, 967, 968, 969, 244] (by decide +kernel) (by decide +kernel) w h).1
set_option maxRecDepth 20000 in
theorem wsL_lr28 : ∀ w ∈ wsL_law0_r28, w ∈ lw_tbl := fun w h => (goodIn_r wsL_law0_r28 [245, 246, 247, 248, 249, 970, 971, 972, 973, 974, 975] (by decide +kernel) (by decide +kernel) w h).1
theorem wsL_lcX4 : ∀ w ∈ wsX40, w ∈ lw_tbl := by decide +kernel
theorem wsL_lcX6 : ∀ w ∈ wsX60, w ∈ lw_tbl := by decide +kernel
theorem wsL_lcX0 : ∀ w ∈ wsX00, w ∈ lw_tbl := by decide +kernel
theorem wsL_lcX3 : ∀ w ∈ wsX30, w ∈ lw_tbl := by decide +kernel
theorem wsL_lcX2 : ∀ w ∈ wsX20, w ∈ lw_tbl := by decide +kernel
theorem wsL_lcX1 : ∀ w ∈ wsX10, w ∈ lw_tbl := by decide +kernel
theorem wsL_lcX5 : ∀ w ∈ wsX50, w ∈ lw_tbl := by decide +kernel
theorem wsL_law_in0 : ∀ w ∈ wsL_law0, w ∈ lw_tbl := fun w h => (List.mem_append.mp h).elim (fun h => (List.mem_append.mp h).elim (fun h => (List.mem_append.mp h).elim (fun h => (List.mem_append.mp h).elim (fun h => (List.mem_append.mp h).elim (fun h => (List.mem_append.mp h).elim (fun h => (List.mem_append.mp h).elim (fun h => (List.mem_append.mp h).elim (fun h => (List.mem_append.mp h).elim (fun h => wsL_lr1 w h) (fun h => (List.mem_append.mp h).elim (fun h => wsL_lr2 w h) (fun h => (List.mem_append.mp h).elim (fun h => wsL_lr3 w h) (fun h => (List.mem_append.mp h).elim (fun h => wsL_lr4 w h) (fun h => (List.mem_append.mp h).elim (fun h => wsL_lr5 w h) (fun h => (List.mem_append.mp h).elim (fun h => wsL_lr6 w h) (fun h => (List.mem_append.mp h).elim (fun h => wsL_lr7 w h) (fun h => (List.mem_append.mp h).elim (fun h => wsL_lr8 w h) (fun h => (List.mem_append.mp h).elim (fun h => wsL_lr9 w h) (fun h => (List.mem_append.mp h).elim (fun h => wsL_lr10 w h) (fun h => (List.mem_append.mp h).elim (fun h => wsL_lr11 w h) (fun h => (List.mem_append.mp h).elim (fun h => wsL_lr12 w h) (fun h => (List.mem_append.mp h).elim (fun h => wsL_lr13 w h) (fun h => (List.mem_append.mp h).elim (fun h => wsL_lr14 w h) (fun h => (List.mem_append.mp h).elim (fun h => wsL_lr15 w h) (fun h => (List.mem_append.mp h).elim (fun h => wsL_lr16 w h) (fun h => (List.mem_append.mp h).elim (fun h => wsL_lr17 w h) (fun h => (List.mem_append.mp h).elim (fun h => wsL_lr18 w h) (fun h => (List.mem_append.mp h).elim (fun h => wsL_lr19 w h) (fun h => (List.mem_append.mp h).elim (fun h => wsL_lr20 w h) (fun h => (List.mem_append.mp h).elim (fun h => wsL_lr21 w h) (fun h => (List.mem_append.mp h).elim (fun h => wsL_lr22 w h) (fun h => (List.mem_append.mp h).elim (fun h => wsL_lr23 w h) (fun h => (List.mem_append.mp h).elim (fun h => wsL_lr24 w h) (fun h => (List.mem_append.mp h).elim (fun h => wsL_lr25 w h) (fun h => (List.mem_append.mp h).elim (fun h => wsL_lr26 w h) (fun h => (List.mem_append.mp h).elim (fun h => wsL_lr27 w h) (fun h => wsL_lr28 w h)))))))))))))))))))))))))))) (fun h => wsL_lcX4 w h)) (fun h => wsL_lcX6 w h)) (fun h => wsL_lcX0 w h)) (fun h => wsL_lcX3 w h)) (fun h => wsL_lcX2 w h)) (fun h => wsL_lcX1 w h)) (fun h => wsL_lcX5 w h)) (fun h => absurd h List.not_mem_nil)
theorem wsL_law_x0 : ∀ w ∈ (vx_atS RX4 60 "java/lang/IllegalStateException" ["java/lang/RuntimeException", "java/lang/Exception"]).filter goodWord, w ∈ lw_tbl := by decide +kernel
theorem wsL_law_x1 : ∀ w ∈ (vx_atS RX4 185 "java/lang/IllegalArgumentException" ["java/lang/RuntimeException", "java/lang/Exception"]).filter goodWord, w ∈ lw_tbl := by decide +kernel
theorem wsL_law_x2 : ∀ w ∈ (vx_atS RX4 180 "java/lang/IndexOutOfBoundsException" ["java/lang/RuntimeException", "java/lang/Exception"]).filter goodWord, w ∈ lw_tbl := by decide +kernel
theorem wsL_law_in : ∀ w ∈ wsL_law, w ∈ lw_tbl := fun w h => (List.mem_append.mp h).elim (fun h => (List.mem_append.mp h).elim (fun h => (List.mem_append.mp h).elim (fun h => wsL_law_in0 w h) (fun h => wsL_law_x0 w h)) (fun h => wsL_law_x1 w h)) (fun h => wsL_law_x2 w h)
theorem inlX0 : ∀ w ∈ wsX00, w ∈ wsL_law := fun _ h => List.mem_append_left _ (List.mem_append_left _ (List.mem_append_left _ (List.mem_append_left _ (List.mem_append_left _ (List.mem_append_left _ (List.mem_append_left _ (List.mem_append_left _ (List.mem_append_right _ h))))))))
theorem inX0 : ∀ w ∈ wsX00, w ∈ lw_tbl := fun w h => wsL_law_in w (inlX0 w h)
theorem inlX1 : ∀ w ∈ wsX10, w ∈ wsL_law := fun _ h => List.mem_append_left _ (List.mem_append_left _ (List.mem_append_left _ (List.mem_append_left _ (List.mem_append_left _ (List.mem_append_right _ h)))))
theorem inX1 : ∀ w ∈ wsX10, w ∈ lw_tbl := fun w h => wsL_law_in w (inlX1 w h)
theorem inlX2 : ∀ w ∈ wsX20, w ∈ wsL_law := fun _ h => List.mem_append_left _ (List.mem_append_left _ (List.mem_append_left _ (List.mem_append_left _ (List.mem_append_left _ (List.mem_append_left _ (List.mem_append_right _ h))))))
theorem inX2 : ∀ w ∈ wsX20, w ∈ lw_tbl := fun w h => wsL_law_in w (inlX2 w h)
theorem inlX3 : ∀ w ∈ wsX30, w ∈ wsL_law := fun _ h => List.mem_append_left _ (List.mem_append_left _ (List.mem_append_left _ (List.mem_append_left _ (List.mem_append_left _ (List.mem_append_left _ (List.mem_append_left _ (List.mem_append_right _ h)))))))
theorem inX3 : ∀ w ∈ wsX30, w ∈ lw_tbl := fun w h => wsL_law_in w (inlX3 w h)
theorem inlX4 : ∀ w ∈ wsX40, w ∈ wsL_law := fun _ h => List.mem_append_left _ (List.mem_append_left _ (List.mem_append_left _ (List.mem_append_left _ (List.mem_append_left _ (List.mem_append_left _ (List.mem_append_left _ (List.mem_append_left _ (List.mem_append_left _ (List.mem_append_left _ (List.mem_append_right _ h))))))))))
theorem inX4 : ∀ w ∈ wsX40, w ∈ lw_tbl := fun w h => wsL_law_in w (inlX4 w h)
theorem inlX5 : ∀ w ∈ wsX50, w ∈ wsL_law := fun _ h => List.mem_append_left _ (List.mem_append_left _ (List.mem_append_left _ (List.mem_append_left _ (List.mem_append_right _ h))))
theorem inX5 : ∀ w ∈ wsX50, w ∈ lw_tbl := fun w h => wsL_law_in w (inlX5 w h)
theorem inlX6 : ∀ w ∈ wsX60, w ∈ wsL_law := fun _ h => List.mem_append_left _ (List.mem_append_left _ (List.mem_append_left _ (List.mem_append_left _ (List.mem_append_left _ (List.mem_append_left _ (List.mem_append_left _ (List.mem_append_left _ (List.mem_append_left _ (List.mem_append_right _ h)))))))))
theorem inX6 : ∀ w ∈ wsX60, w ∈ lw_tbl := fun w h => wsL_law_in w (inlX6 w h)
theorem inJx145de : ∀ w ∈ wsJx145de0, w ∈ lw_tbl := by decide +kernel
theorem inJ9 : ∀ w ∈ wsJ90, w ∈ lw_tbl := by decide +kernel
theorem inJ0 : ∀ w ∈ wsJ00, w ∈ lw_tbl := by decide +kernel
theorem inJ10 : ∀ w ∈ wsJ100, w ∈ lw_tbl := by decide +kernel
theorem inJ7 : ∀ w ∈ wsJ70, w ∈ lw_tbl := by decide +kernel
end
section
abbrev vwCl : List vw_C := [(RX0, TX0, 15), (RX1, TX1, 2), (RX2, TX2, 8), (RX3, TX3, 7), (RX4, TX4, 7), (RX5, TX5, 21), (RX6, TX6, 10)]
/-! ===== a layer over the kit: a walk that speaks of the world alone ===== -/
def ek_nest (w : Cond) : Bool := match w with
  | .fieldLinkNest .. => true
  | .methodLinkNest .. => true
  | _ => false
theorem ek_nest_warm {w : Cond} (h : ek_nest w = true) {s U : State} (hW : s.WarmedH U.vm) (hZ : va_Nw w s) : va_Nw w U := by
  cases w with
  | fieldLinkNest a i b n d h => exact va_Nw.warmF hW hZ
  | methodLinkNest a i x h => exact va_Nw.warmM hW hZ
  | _ => exact absurd h (by simp [ek_nest])
theorem ek_nest_same {w : Cond} (h : ek_nest w = true) {u U : State} (hv : u.vm = U.vm) (hZ : va_Nw w u) : va_Nw w U := by
  cases w with
  | fieldLinkNest a i b n d h => exact va_Nw.same rfl hv hZ
  | methodLinkNest a i x h => exact va_Nw.same rfl hv hZ
  | _ => exact absurd h (by simp [ek_nest])
/-- the words of the tables that only hold while they are warm -/
def ek_N (N : List Cond) (U : State) : Prop := N.all ek_nest = true ∧ ∀ w ∈ N, va_Nw w U
theorem ek_N.warm {N : List Cond} {s U : State} (hW : s.WarmedH U.vm) (h : ek_N N s) : ek_N N U := ⟨h.1, fun w hw => ek_nest_warm (List.all_eq_true.mp h.1 w hw) hW (h.2 w hw)⟩
theorem ek_N.same {N : List Cond} {u U : State} (hv : u.vm = U.vm) (h : ek_N N u) : ek_N N U := ⟨h.1, fun w hw => ek_nest_same (List.all_eq_true.mp h.1 w hw) hv (h.2 w hw)⟩
/-- what stays through a walk -/
def ek_X (p : Program) (s : State) (m : MethodId) (args : Array Value) (meth : Method) (c : Code) (own : String) (cc : ByteArray) (nL : Nat) (ret : Option FieldType) (Ts N : List Cond) (D : va_G) (tys : List (ClassId × FieldType)) (A B : Nat → Prop) (wr : Prop) : Prop :=
  (p.tables.exec = Jvm.exec ∧ c.code = cc ∧ c.maxLocals = nL ∧ s.vm.findClass own = some m.cls ∧ ∀ w ∈ Ts, w.before args s = true) ∧ va_K D vwCl tys s ∧ meth.locks = false ∧ meth.sig.returnType = ret ∧ ek_N N s ∧ (wr → (∀ q : Nat, B q ↔ A q) ∧ ∀ q : Nat, s.heap.size ≤ q → A q)
/-- the walk's goal: from any heap that holds the world w, at pc, with the locals lv and the stack st -/
def ek_G (p : Program) (l : Launch) (e : Env) (R : Room) (s : State) (m : MethodId) (args : Array Value) (below : List Frame) (meth : Method) (c : Code) (nL : Nat) (D : va_G) (A B : Nat → Prop) (k n : Nat) (Q : State → Prop) (w : va_W) (pc : Nat) (lv : List (Nat × Value)) (st : List Value) : Prop :=
  ∀ (H : Heap) (locs : List Loc) (ls : Array Slot), va_P D vwCl w H → va_D B w → va_S A s.heap H locs → lv_has ls nL lv → W p l e R s m args below meth c H locs k n Q (F0 m pc ls st)
section EKG
variable {p : Program} {l : Launch} {e : Env} {R : Room} {s : State} {m : MethodId} {args : Array Value} {below : List Frame} {meth : Method} {c : Code} {own : String} {cc : ByteArray} {nL : Nat} {ret : Option FieldType} {Ts N : List Cond} {D : va_G} {tys : List (ClassId × FieldType)} {A B : Nat → Prop} {wr : Prop} {k n : Nat} {Q : State → Prop} {w : va_W} {pc : Nat} {lv : List (Nat × Value)} {st rest : List Value}
theorem ek_re {lv' : List (Nat × Value)} (is : List Nat) (h : lv_pick lv is = lv') (kk : ek_G p l e R s m args below meth c nL D A B k n Q w pc lv' st) : ek_G p l e R s m args below meth c nL D A B k n Q w pc lv st := fun H locs ls hP hD hS hl => kk H locs ls hP hD hS (lv_sub hl is h)
theorem ek_cast {w' : va_W} (h : w = w') (kk : ek_G p l e R s m args below meth c nL D A B k n Q w' pc lv st) : ek_G p l e R s m args below meth c nL D A B k n Q w pc lv st := h ▸ kk
theorem ek_castS {st' : List Value} (h : st = st') (kk : ek_G p l e R s m args below meth c nL D A B k n Q w pc lv st') : ek_G p l e R s m args below meth c nL D A B k n Q w pc lv st := h ▸ kk
theorem ek_castL {lv' : List (Nat × Value)} (h : lv = lv') (kk : ek_G p l e R s m args below meth c nL D A B k n Q w pc lv' st) : ek_G p l e R s m args below meth c nL D A B k n Q w pc lv st := h ▸ kk
theorem ek_top {v v' : Int32} (h : v = v') (kk : ek_G p l e R s m args below meth c nL D A B k n Q w pc lv (.int v' :: rest)) : ek_G p l e R s m args below meth c nL D A B k n Q w pc lv (.int v :: rest) := h ▸ kk
theorem ek_topL {v v' : Int64} (h : v = v') (kk : ek_G p l e R s m args below meth c nL D A B k n Q w pc lv (.long v' :: rest)) : ek_G p l e R s m args below meth c nL D A B k n Q w pc lv (.long v :: rest) := h ▸ kk
theorem ek_widen {k' n' : Nat} (h1 : k ≤ k') (h2 : n ≤ n') (kk : ek_G p l e R s m args below meth c nL D A B k' n' Q w pc lv st) : ek_G p l e R s m args below meth c nL D A B k n Q w pc lv st := fun H locs ls hP hD hS hl => W.widen h1 h2 (kk H locs ls hP hD hS hl)
/-- a loop: an invariant P with a measure μ -/
theorem ek_loop {σ : Type} (P : σ → Prop) (μ : σ → Nat) (wd : σ → va_W) (lc : σ → List (Nat × Value)) (h : ∀ a : σ, P a → (∀ b : σ, P b → μ b < μ a → ek_G p l e R s m args below meth c nL D A B k n Q (wd b) pc (lc b) st) → ek_G p l e R s m args below meth c nL D A B k n Q (wd a) pc (lc a) st) (a : σ) (ha : P a) : ek_G p l e R s m args below meth c nL D A B k n Q (wd a) pc (lc a) st := by
  generalize hz : μ a = z
  induction z using Nat.strongRecOn generalizing a with
  | _ z ih => exact h a ha (fun b hb hlt => ih (μ b) (by omega) b hb rfl)
-- constants, locals
theorem ek_ic {n0 : Int} {v : Int32} (X : ek_X p s m args meth c own cc nL ret Ts N D tys A B wr) (hv : Int32.ofInt n0 = v) (hdg : decode cc pc = .ok (.iconst n0, 1)) (kk : ek_G p l e R s m args below meth c nL D A B k n Q w (pc + 1) lv (.int v :: st)) : ek_G p l e R s m args below meth c nL D A B k n Q w pc lv st := fun H locs ls hP hD hS hl => lv_iconst X.1.1 X.1.2.1 hdg hv (kk H locs ls hP hD hS hl)
theorem ek_bp {n0 : Int} {v : Int32} (X : ek_X p s m args meth c own cc nL ret Ts N D tys A B wr) (hv : (Int8.ofInt n0).toInt32 = v) (hdg : decode cc pc = .ok (.bipush n0, 2)) (kk : ek_G p l e R s m args below meth c nL D A B k n Q w (pc + 2) lv (.int v :: st)) : ek_G p l e R s m args below meth c nL D A B k n Q w pc lv st := fun H locs ls hP hD hS hl => lv_bipush X.1.1 X.1.2.1 hdg hv (kk H locs ls hP hD hS hl)
theorem ek_sp {n0 : Int} {v : Int32} (X : ek_X p s m args meth c own cc nL ret Ts N D tys A B wr) (hv : (Int16.ofInt n0).toInt32 = v) (hdg : decode cc pc = .ok (.sipush n0, 3)) (kk : ek_G p l e R s m args below meth c nL D A B k n Q w (pc + 3) lv (.int v :: st)) : ek_G p l e R s m args below meth c nL D A B k n Q w pc lv st := fun H locs ls hP hD hS hl => lv_sipush X.1.1 X.1.2.1 hdg hv (kk H locs ls hP hD hS hl)
theorem ek_lc {n0 : Fin 2} {v : Int64} (X : ek_X p s m args meth c own cc nL ret Ts N D tys A B wr) (hv : Int64.ofNat (n0 : Nat) = v) (hdg : decode cc pc = .ok (.lconst n0, 1)) (kk : ek_G p l e R s m args below meth c nL D A B k n Q w (pc + 1) lv (.long v :: st)) : ek_G p l e R s m args below meth c nL D A B k n Q w pc lv st := fun H locs ls hP hD hS hl => lv_lconst X.1.1 X.1.2.1 hdg hv (kk H locs ls hP hD hS hl)
theorem ek_ldc {ix : Nat} {v : Int32} (X : ek_X p s m args meth c own cc nL ret Ts N D tys A B wr) (hc : Cond.constant own ix v ∈ Ts) (hdg : decode cc pc = .ok (.ldc ix, 2)) (kk : ek_G p l e R s m args below meth c nL D A B k n Q w (pc + 2) lv (.int v :: st)) : ek_G p l e R s m args below meth c nL D A B k n Q w pc lv st := fun H locs ls hP hD hS hl => lv_ldc X.1.1 X.1.2.1 X.1.2.2.2.1 (X.1.2.2.2.2 _ hc) hdg (kk H locs ls hP hD hS hl)
theorem ek_ldl {ix : Nat} {v : Int64} (X : ek_X p s m args meth c own cc nL ret Ts N D tys A B wr) (hc : Cond.constantLong own ix v ∈ Ts) (hdg : decode cc pc = .ok (.ldc2_w ix, 3)) (kk : ek_G p l e R s m args below meth c nL D A B k n Q w (pc + 3) lv (.long v :: st)) : ek_G p l e R s m args below meth c nL D A B k n Q w pc lv st := fun H locs ls hP hD hS hl => lv_ldc2 X.1.1 X.1.2.1 X.1.2.2.2.1 (X.1.2.2.2.2 _ hc) hdg (kk H locs ls hP hD hS hl)
theorem ek_il {i : Nat} {x : Int32} (X : ek_X p s m args meth c own cc nL ret Ts N D tys A B wr) (j : Nat) (hj : lv[j]? = some (i, .int x)) (hdg : decode cc pc = .ok (.iload i, 2)) (kk : ek_G p l e R s m args below meth c nL D A B k n Q w (pc + 2) lv (.int x :: st)) : ek_G p l e R s m args below meth c nL D A B k n Q w pc lv st := fun H locs ls hP hD hS hl => lv_iload X.1.1 X.1.2.1 hdg (lv_at hl j hj) (kk H locs ls hP hD hS hl)
theorem ek_iln {i : Fin 4} {x : Int32} (X : ek_X p s m args meth c own cc nL ret Ts N D tys A B wr) (j : Nat) (hj : lv[j]? = some ((i : Nat), .int x)) (hdg : decode cc pc = .ok (.iload_n i, 1)) (kk : ek_G p l e R s m args below meth c nL D A B k n Q w (pc + 1) lv (.int x :: st)) : ek_G p l e R s m args below meth c nL D A B k n Q w pc lv st := fun H locs ls hP hD hS hl => lv_iload_n X.1.1 X.1.2.1 hdg rfl (lv_at hl j hj) (kk H locs ls hP hD hS hl)
theorem ek_ll {i : Nat} {x : Int64} (X : ek_X p s m args meth c own cc nL ret Ts N D tys A B wr) (j : Nat) (hj : lv[j]? = some (i, .long x)) (hdg : decode cc pc = .ok (.lload i, 2)) (kk : ek_G p l e R s m args below meth c nL D A B k n Q w (pc + 2) lv (.long x :: st)) : ek_G p l e R s m args below meth c nL D A B k n Q w pc lv st := fun H locs ls hP hD hS hl => lv_lload X.1.1 X.1.2.1 hdg (lv_at hl j hj) (kk H locs ls hP hD hS hl)
theorem ek_lln {i : Fin 4} {x : Int64} (X : ek_X p s m args meth c own cc nL ret Ts N D tys A B wr) (j : Nat) (hj : lv[j]? = some ((i : Nat), .long x)) (hdg : decode cc pc = .ok (.lload_n i, 1)) (kk : ek_G p l e R s m args below meth c nL D A B k n Q w (pc + 1) lv (.long x :: st)) : ek_G p l e R s m args below meth c nL D A B k n Q w pc lv st := fun H locs ls hP hD hS hl => lv_lload_n X.1.1 X.1.2.1 hdg rfl (lv_at hl j hj) (kk H locs ls hP hD hS hl)
theorem ek_al {i x : Nat} (X : ek_X p s m args meth c own cc nL ret Ts N D tys A B wr) (j : Nat) (hj : lv[j]? = some (i, .ref x)) (hdg : decode cc pc = .ok (.aload i, 2)) (kk : ek_G p l e R s m args below meth c nL D A B k n Q w (pc + 2) lv (.ref x :: st)) : ek_G p l e R s m args below meth c nL D A B k n Q w pc lv st := fun H locs ls hP hD hS hl => lv_aload X.1.1 X.1.2.1 hdg (lv_at hl j hj) (kk H locs ls hP hD hS hl)
theorem ek_aln {i : Fin 4} {x : Nat} (X : ek_X p s m args meth c own cc nL ret Ts N D tys A B wr) (j : Nat) (hj : lv[j]? = some ((i : Nat), .ref x)) (hdg : decode cc pc = .ok (.aload_n i, 1)) (kk : ek_G p l e R s m args below meth c nL D A B k n Q w (pc + 1) lv (.ref x :: st)) : ek_G p l e R s m args below meth c nL D A B k n Q w pc lv st := fun H locs ls hP hD hS hl => lv_aload_n X.1.1 X.1.2.1 hdg rfl (lv_at hl j hj) (kk H locs ls hP hD hS hl)
theorem ek_is {i : Nat} {x : Int32} {lv' : List (Nat × Value)} (X : ek_X p s m args meth c own cc nL ret Ts N D tys A B wr) (hn : i < nL) (hl' : (i, Value.int x) :: lv.filter (fun q => !(q.1 == i) && !(q.1 + 1 == i && q.2.category == 2)) = lv') (hdg : decode cc pc = .ok (.istore i, 2)) (kk : ek_G p l e R s m args below meth c nL D A B k n Q w (pc + 2) lv' st) : ek_G p l e R s m args below meth c nL D A B k n Q w pc lv (.int x :: st) := fun H locs ls hP hD hS hl => lv_istore X.1.1 X.1.2.1 hdg hl hn hl' (fun ls' h' => kk H locs ls' hP hD hS h')
theorem ek_isn {i : Fin 4} {x : Int32} {lv' : List (Nat × Value)} (X : ek_X p s m args meth c own cc nL ret Ts N D tys A B wr) (hn : (i : Nat) < nL) (hl' : ((i : Nat), Value.int x) :: lv.filter (fun q => !(q.1 == (i : Nat)) && !(q.1 + 1 == (i : Nat) && q.2.category == 2)) = lv') (hdg : decode cc pc = .ok (.istore_n i, 1)) (kk : ek_G p l e R s m args below meth c nL D A B k n Q w (pc + 1) lv' st) : ek_G p l e R s m args below meth c nL D A B k n Q w pc lv (.int x :: st) := fun H locs ls hP hD hS hl => lv_istore_n X.1.1 X.1.2.1 hdg rfl hl hn hl' (fun ls' h' => kk H locs ls' hP hD hS h')
theorem ek_ls {i : Nat} {x : Int64} {lv' : List (Nat × Value)} (X : ek_X p s m args meth c own cc nL ret Ts N D tys A B wr) (hn : i + 1 < nL) (hl' : (i, Value.long x) :: lv.filter (fun q => !(q.1 == i) && (!(q.1 == i + 1) && !(q.1 + 1 == i && q.2.category == 2))) = lv') (hdg : decode cc pc = .ok (.lstore i, 2)) (kk : ek_G p l e R s m args below meth c nL D A B k n Q w (pc + 2) lv' st) : ek_G p l e R s m args below meth c nL D A B k n Q w pc lv (.long x :: st) := fun H locs ls hP hD hS hl => lv_lstore X.1.1 X.1.2.1 hdg hl hn hl' (fun ls' h' => kk H locs ls' hP hD hS h')
theorem ek_lsn {i : Fin 4} {x : Int64} {lv' : List (Nat × Value)} (X : ek_X p s m args meth c own cc nL ret Ts N D tys A B wr) (hn : (i : Nat) + 1 < nL) (hl' : ((i : Nat), Value.long x) :: lv.filter (fun q => !(q.1 == (i : Nat)) && (!(q.1 == (i : Nat) + 1) && !(q.1 + 1 == (i : Nat) && q.2.category == 2))) = lv') (hdg : decode cc pc = .ok (.lstore_n i, 1)) (kk : ek_G p l e R s m args below meth c nL D A B k n Q w (pc + 1) lv' st) : ek_G p l e R s m args below meth c nL D A B k n Q w pc lv (.long x :: st) := fun H locs ls hP hD hS hl => lv_lstore_n X.1.1 X.1.2.1 hdg rfl hl hn hl' (fun ls' h' => kk H locs ls' hP hD hS h')
theorem ek_as {i x : Nat} {lv' : List (Nat × Value)} (X : ek_X p s m args meth c own cc nL ret Ts N D tys A B wr) (hn : i < nL) (hl' : (i, Value.ref x) :: lv.filter (fun q => !(q.1 == i) && !(q.1 + 1 == i && q.2.category == 2)) = lv') (hdg : decode cc pc = .ok (.astore i, 2)) (kk : ek_G p l e R s m args below meth c nL D A B k n Q w (pc + 2) lv' st) : ek_G p l e R s m args below meth c nL D A B k n Q w pc lv (.ref x :: st) := fun H locs ls hP hD hS hl => lv_astore X.1.1 X.1.2.1 hdg hl hn hl' (fun ls' h' => kk H locs ls' hP hD hS h')
theorem ek_asn {i : Fin 4} {x : Nat} {lv' : List (Nat × Value)} (X : ek_X p s m args meth c own cc nL ret Ts N D tys A B wr) (hn : (i : Nat) < nL) (hl' : ((i : Nat), Value.ref x) :: lv.filter (fun q => !(q.1 == (i : Nat)) && !(q.1 + 1 == (i : Nat) && q.2.category == 2)) = lv') (hdg : decode cc pc = .ok (.astore_n i, 1)) (kk : ek_G p l e R s m args below meth c nL D A B k n Q w (pc + 1) lv' st) : ek_G p l e R s m args below meth c nL D A B k n Q w pc lv (.ref x :: st) := fun H locs ls hP hD hS hl => lv_astore_n X.1.1 X.1.2.1 hdg rfl hl hn hl' (fun ls' h' => kk H locs ls' hP hD hS h')
theorem ek_inc {i j : Nat} {n0 : Int} {x v : Int32} {lv' : List (Nat × Value)} (X : ek_X p s m args meth c own cc nL ret Ts N D tys A B wr) (hj : lv[j]? = some (i, .int x)) (hv : x + Int32.ofInt n0 = v) (hn : i < nL) (hl' : (i, Value.int v) :: lv.filter (fun q => !(q.1 == i) && !(q.1 + 1 == i && q.2.category == 2)) = lv') (hdg : decode cc pc = .ok (.iinc i n0, 3)) (kk : ek_G p l e R s m args below meth c nL D A B k n Q w (pc + 3) lv' st) : ek_G p l e R s m args below meth c nL D A B k n Q w pc lv st := fun H locs ls hP hD hS hl => lv_iinc X.1.1 X.1.2.1 hdg hl hj hv hn hl' (fun ls' h' => kk H locs ls' hP hD hS h')
theorem ek_dup {v : Value} (X : ek_X p s m args meth c own cc nL ret Ts N D tys A B wr) (hc : v.category = 1) (hdg : decode cc pc = .ok (.dup, 1)) (kk : ek_G p l e R s m args below meth c nL D A B k n Q w (pc + 1) lv (v :: v :: st)) : ek_G p l e R s m args below meth c nL D A B k n Q w pc lv (v :: st) := fun H locs ls hP hD hS hl => lv_dup X.1.1 X.1.2.1 hdg hc (kk H locs ls hP hD hS hl)
theorem ek_dup2 {v u : Value} (X : ek_X p s m args meth c own cc nL ret Ts N D tys A B wr) (hc : v.category = 1) (hu : u.category = 1) (hdg : decode cc pc = .ok (.dup2, 1)) (kk : ek_G p l e R s m args below meth c nL D A B k n Q w (pc + 1) lv (v :: u :: v :: u :: st)) : ek_G p l e R s m args below meth c nL D A B k n Q w pc lv (v :: u :: st) := fun H locs ls hP hD hS hl => lv_dup2_11 X.1.1 X.1.2.1 hdg hc hu (kk H locs ls hP hD hS hl)
theorem ek_pop {v : Value} (X : ek_X p s m args meth c own cc nL ret Ts N D tys A B wr) (hc : v.category = 1) (hdg : decode cc pc = .ok (.pop, 1)) (kk : ek_G p l e R s m args below meth c nL D A B k n Q w (pc + 1) lv st) : ek_G p l e R s m args below meth c nL D A B k n Q w pc lv (v :: st) := fun H locs ls hP hD hS hl => lv_pop X.1.1 X.1.2.1 hdg hc (kk H locs ls hP hD hS hl)
theorem ek_goto {off : Int} (X : ek_X p s m args meth c own cc nL ret Ts N D tys A B wr) (tgt : Nat) (ht : (pc : Int) + off = (tgt : Int)) (hdg : decode cc pc = .ok (.goto off, 3)) (kk : ek_G p l e R s m args below meth c nL D A B k n Q w tgt lv st) : ek_G p l e R s m args below meth c nL D A B k n Q w pc lv st := fun H locs ls hP hD hS hl => lv_goto X.1.1 X.1.2.1 hdg ht (kk H locs ls hP hD hS hl)
-- arithmetic
theorem ek_add {x y : Int32} (X : ek_X p s m args meth c own cc nL ret Ts N D tys A B wr) (hdg : decode cc pc = .ok (.iadd, 1)) (kk : ek_G p l e R s m args below meth c nL D A B k n Q w (pc + 1) lv (.int (x + y) :: st)) : ek_G p l e R s m args below meth c nL D A B k n Q w pc lv (.int y :: .int x :: st) := fun H locs ls hP hD hS hl => lv_iadd X.1.1 X.1.2.1 hdg (kk H locs ls hP hD hS hl)
theorem ek_sub {x y : Int32} (X : ek_X p s m args meth c own cc nL ret Ts N D tys A B wr) (hdg : decode cc pc = .ok (.isub, 1)) (kk : ek_G p l e R s m args below meth c nL D A B k n Q w (pc + 1) lv (.int (x - y) :: st)) : ek_G p l e R s m args below meth c nL D A B k n Q w pc lv (.int y :: .int x :: st) := fun H locs ls hP hD hS hl => lv_isub X.1.1 X.1.2.1 hdg (kk H locs ls hP hD hS hl)
theorem ek_mul {x y : Int32} (X : ek_X p s m args meth c own cc nL ret Ts N D tys A B wr) (hdg : decode cc pc = .ok (.imul, 1)) (kk : ek_G p l e R s m args below meth c nL D A B k n Q w (pc + 1) lv (.int (x * y) :: st)) : ek_G p l e R s m args below meth c nL D A B k n Q w pc lv (.int y :: .int x :: st) := fun H locs ls hP hD hS hl => lv_imul X.1.1 X.1.2.1 hdg (kk H locs ls hP hD hS hl)
theorem ek_div {x y : Int32} (X : ek_X p s m args meth c own cc nL ret Ts N D tys A B wr) (hne : ¬ y = 0) (hdg : decode cc pc = .ok (.idiv, 1)) (kk : ek_G p l e R s m args below meth c nL D A B k n Q w (pc + 1) lv (.int (x / y) :: st)) : ek_G p l e R s m args below meth c nL D A B k n Q w pc lv (.int y :: .int x :: st) := fun H locs ls hP hD hS hl => lv_idiv X.1.1 X.1.2.1 hdg hne (kk H locs ls hP hD hS hl)
theorem ek_rem {x y : Int32} (X : ek_X p s m args meth c own cc nL ret Ts N D tys A B wr) (hne : ¬ y = 0) (hdg : decode cc pc = .ok (.irem, 1)) (kk : ek_G p l e R s m args below meth c nL D A B k n Q w (pc + 1) lv (.int (x - x / y * y) :: st)) : ek_G p l e R s m args below meth c nL D A B k n Q w pc lv (.int y :: .int x :: st) := fun H locs ls hP hD hS hl => lv_irem X.1.1 X.1.2.1 hdg hne (kk H locs ls hP hD hS hl)
theorem ek_and {x y : Int32} (X : ek_X p s m args meth c own cc nL ret Ts N D tys A B wr) (hdg : decode cc pc = .ok (.iand, 1)) (kk : ek_G p l e R s m args below meth c nL D A B k n Q w (pc + 1) lv (.int (x &&& y) :: st)) : ek_G p l e R s m args below meth c nL D A B k n Q w pc lv (.int y :: .int x :: st) := fun H locs ls hP hD hS hl => lv_iand X.1.1 X.1.2.1 hdg (kk H locs ls hP hD hS hl)
theorem ek_or {x y : Int32} (X : ek_X p s m args meth c own cc nL ret Ts N D tys A B wr) (hdg : decode cc pc = .ok (.ior, 1)) (kk : ek_G p l e R s m args below meth c nL D A B k n Q w (pc + 1) lv (.int (x ||| y) :: st)) : ek_G p l e R s m args below meth c nL D A B k n Q w pc lv (.int y :: .int x :: st) := fun H locs ls hP hD hS hl => lv_ior X.1.1 X.1.2.1 hdg (kk H locs ls hP hD hS hl)
theorem ek_shl {x y : Int32} (X : ek_X p s m args meth c own cc nL ret Ts N D tys A B wr) (hdg : decode cc pc = .ok (.ishl, 1)) (kk : ek_G p l e R s m args below meth c nL D A B k n Q w (pc + 1) lv (.int (x <<< (y &&& 31)) :: st)) : ek_G p l e R s m args below meth c nL D A B k n Q w pc lv (.int y :: .int x :: st) := fun H locs ls hP hD hS hl => lv_ishl X.1.1 X.1.2.1 hdg (kk H locs ls hP hD hS hl)
theorem ek_shr {x y : Int32} (X : ek_X p s m args meth c own cc nL ret Ts N D tys A B wr) (hdg : decode cc pc = .ok (.ishr, 1)) (kk : ek_G p l e R s m args below meth c nL D A B k n Q w (pc + 1) lv (.int (x >>> (y &&& 31)) :: st)) : ek_G p l e R s m args below meth c nL D A B k n Q w pc lv (.int y :: .int x :: st) := fun H locs ls hP hD hS hl => lv_ishr X.1.1 X.1.2.1 hdg (kk H locs ls hP hD hS hl)
theorem ek_i2l {x : Int32} {v : Int64} (X : ek_X p s m args meth c own cc nL ret Ts N D tys A B wr) (hv : x.toInt64 = v) (hdg : decode cc pc = .ok (.i2l, 1)) (kk : ek_G p l e R s m args below meth c nL D A B k n Q w (pc + 1) lv (.long v :: st)) : ek_G p l e R s m args below meth c nL D A B k n Q w pc lv (.int x :: st) := fun H locs ls hP hD hS hl => lv_i2l X.1.1 X.1.2.1 hdg hv (kk H locs ls hP hD hS hl)
theorem ek_ladd {x y : Int64} (X : ek_X p s m args meth c own cc nL ret Ts N D tys A B wr) (hdg : decode cc pc = .ok (.ladd, 1)) (kk : ek_G p l e R s m args below meth c nL D A B k n Q w (pc + 1) lv (.long (x + y) :: st)) : ek_G p l e R s m args below meth c nL D A B k n Q w pc lv (.long y :: .long x :: st) := fun H locs ls hP hD hS hl => lv_ladd X.1.1 X.1.2.1 hdg (kk H locs ls hP hD hS hl)
theorem ek_lmul {x y : Int64} (X : ek_X p s m args meth c own cc nL ret Ts N D tys A B wr) (hdg : decode cc pc = .ok (.lmul, 1)) (kk : ek_G p l e R s m args below meth c nL D A B k n Q w (pc + 1) lv (.long (x * y) :: st)) : ek_G p l e R s m args below meth c nL D A B k n Q w pc lv (.long y :: .long x :: st) := fun H locs ls hP hD hS hl => lv_lmul X.1.1 X.1.2.1 hdg (kk H locs ls hP hD hS hl)
theorem ek_land {x y : Int64} (X : ek_X p s m args meth c own cc nL ret Ts N D tys A B wr) (hdg : decode cc pc = .ok (.land, 1)) (kk : ek_G p l e R s m args below meth c nL D A B k n Q w (pc + 1) lv (.long (x &&& y) :: st)) : ek_G p l e R s m args below meth c nL D A B k n Q w pc lv (.long y :: .long x :: st) := fun H locs ls hP hD hS hl => lv_land X.1.1 X.1.2.1 hdg (kk H locs ls hP hD hS hl)
theorem ek_lor {x y : Int64} (X : ek_X p s m args meth c own cc nL ret Ts N D tys A B wr) (hdg : decode cc pc = .ok (.lor, 1)) (kk : ek_G p l e R s m args below meth c nL D A B k n Q w (pc + 1) lv (.long (x ||| y) :: st)) : ek_G p l e R s m args below meth c nL D A B k n Q w pc lv (.long y :: .long x :: st) := fun H locs ls hP hD hS hl => lv_lor X.1.1 X.1.2.1 hdg (kk H locs ls hP hD hS hl)
theorem ek_lshl {x v : Int64} {y : Int32} (X : ek_X p s m args meth c own cc nL ret Ts N D tys A B wr) (hv : x <<< (y.toInt64 &&& 63) = v) (hdg : decode cc pc = .ok (.lshl, 1)) (kk : ek_G p l e R s m args below meth c nL D A B k n Q w (pc + 1) lv (.long v :: st)) : ek_G p l e R s m args below meth c nL D A B k n Q w pc lv (.int y :: .long x :: st) := fun H locs ls hP hD hS hl => lv_lshl X.1.1 X.1.2.1 hdg hv (kk H locs ls hP hD hS hl)
theorem ek_lcmp {x y : Int64} (X : ek_X p s m args meth c own cc nL ret Ts N D tys A B wr) (hdg : decode cc pc = .ok (.lcmp, 1)) (kk : ek_G p l e R s m args below meth c nL D A B k n Q w (pc + 1) lv (.int (lg_cmp x y) :: st)) : ek_G p l e R s m args below meth c nL D A B k n Q w pc lv (.long y :: .long x :: st) := fun H locs ls hP hD hS hl => W.lcmp X.1.1 X.1.2.1 hdg (kk H locs ls hP hD hS hl)
-- ##B
theorem ek_if_eq {x : Int32} {off : Int} (X : ek_X p s m args meth c own cc nL ret Ts N D tys A B wr) (tgt : Nat) (ht : (pc : Int) + off = (tgt : Int)) (hdg : decode cc pc = .ok (.ifCond .eq off, 3)) (kt : x = 0 → ek_G p l e R s m args below meth c nL D A B k n Q w tgt lv st) (kf : ¬ x = 0 → ek_G p l e R s m args below meth c nL D A B k n Q w (pc + 3) lv st) : ek_G p l e R s m args below meth c nL D A B k n Q w pc lv (.int x :: st) := fun H locs ls hP hD hS hl => lv_if_eq X.1.1 X.1.2.1 hdg ht (fun h => kt h H locs ls hP hD hS hl) (fun h => kf h H locs ls hP hD hS hl)
theorem ek_icmp_eq {x y : Int32} {off : Int} (X : ek_X p s m args meth c own cc nL ret Ts N D tys A B wr) (tgt : Nat) (ht : (pc : Int) + off = (tgt : Int)) (hdg : decode cc pc = .ok (.if_icmp .eq off, 3)) (kt : x = y → ek_G p l e R s m args below meth c nL D A B k n Q w tgt lv st) (kf : ¬ x = y → ek_G p l e R s m args below meth c nL D A B k n Q w (pc + 3) lv st) : ek_G p l e R s m args below meth c nL D A B k n Q w pc lv (.int y :: .int x :: st) := fun H locs ls hP hD hS hl => lv_icmp_eq X.1.1 X.1.2.1 hdg ht (fun h => kt h H locs ls hP hD hS hl) (fun h => kf h H locs ls hP hD hS hl)
theorem ek_if_ne {x : Int32} {off : Int} (X : ek_X p s m args meth c own cc nL ret Ts N D tys A B wr) (tgt : Nat) (ht : (pc : Int) + off = (tgt : Int)) (hdg : decode cc pc = .ok (.ifCond .ne off, 3)) (kt : ¬ x = 0 → ek_G p l e R s m args below meth c nL D A B k n Q w tgt lv st) (kf : x = 0 → ek_G p l e R s m args below meth c nL D A B k n Q w (pc + 3) lv st) : ek_G p l e R s m args below meth c nL D A B k n Q w pc lv (.int x :: st) := fun H locs ls hP hD hS hl => lv_if_ne X.1.1 X.1.2.1 hdg ht (fun h => kt h H locs ls hP hD hS hl) (fun h => kf h H locs ls hP hD hS hl)
theorem ek_icmp_ne {x y : Int32} {off : Int} (X : ek_X p s m args meth c own cc nL ret Ts N D tys A B wr) (tgt : Nat) (ht : (pc : Int) + off = (tgt : Int)) (hdg : decode cc pc = .ok (.if_icmp .ne off, 3)) (kt : ¬ x = y → ek_G p l e R s m args below meth c nL D A B k n Q w tgt lv st) (kf : x = y → ek_G p l e R s m args below meth c nL D A B k n Q w (pc + 3) lv st) : ek_G p l e R s m args below meth c nL D A B k n Q w pc lv (.int y :: .int x :: st) := fun H locs ls hP hD hS hl => lv_icmp_ne X.1.1 X.1.2.1 hdg ht (fun h => kt h H locs ls hP hD hS hl) (fun h => kf h H locs ls hP hD hS hl)
theorem ek_if_lt {x : Int32} {off : Int} (X : ek_X p s m args meth c own cc nL ret Ts N D tys A B wr) (tgt : Nat) (ht : (pc : Int) + off = (tgt : Int)) (hdg : decode cc pc = .ok (.ifCond .lt off, 3)) (kt : x < 0 → ek_G p l e R s m args below meth c nL D A B k n Q w tgt lv st) (kf : ¬ x < 0 → ek_G p l e R s m args below meth c nL D A B k n Q w (pc + 3) lv st) : ek_G p l e R s m args below meth c nL D A B k n Q w pc lv (.int x :: st) := fun H locs ls hP hD hS hl => lv_if_lt X.1.1 X.1.2.1 hdg ht (fun h => kt h H locs ls hP hD hS hl) (fun h => kf h H locs ls hP hD hS hl)
theorem ek_icmp_lt {x y : Int32} {off : Int} (X : ek_X p s m args meth c own cc nL ret Ts N D tys A B wr) (tgt : Nat) (ht : (pc : Int) + off = (tgt : Int)) (hdg : decode cc pc = .ok (.if_icmp .lt off, 3)) (kt : x < y → ek_G p l e R s m args below meth c nL D A B k n Q w tgt lv st) (kf : ¬ x < y → ek_G p l e R s m args below meth c nL D A B k n Q w (pc + 3) lv st) : ek_G p l e R s m args below meth c nL D A B k n Q w pc lv (.int y :: .int x :: st) := fun H locs ls hP hD hS hl => lv_icmp_lt X.1.1 X.1.2.1 hdg ht (fun h => kt h H locs ls hP hD hS hl) (fun h => kf h H locs ls hP hD hS hl)
theorem ek_if_ge {x : Int32} {off : Int} (X : ek_X p s m args meth c own cc nL ret Ts N D tys A B wr) (tgt : Nat) (ht : (pc : Int) + off = (tgt : Int)) (hdg : decode cc pc = .ok (.ifCond .ge off, 3)) (kt : 0 ≤ x → ek_G p l e R s m args below meth c nL D A B k n Q w tgt lv st) (kf : ¬ 0 ≤ x → ek_G p l e R s m args below meth c nL D A B k n Q w (pc + 3) lv st) : ek_G p l e R s m args below meth c nL D A B k n Q w pc lv (.int x :: st) := fun H locs ls hP hD hS hl => lv_if_ge X.1.1 X.1.2.1 hdg ht (fun h => kt h H locs ls hP hD hS hl) (fun h => kf h H locs ls hP hD hS hl)
theorem ek_icmp_ge {x y : Int32} {off : Int} (X : ek_X p s m args meth c own cc nL ret Ts N D tys A B wr) (tgt : Nat) (ht : (pc : Int) + off = (tgt : Int)) (hdg : decode cc pc = .ok (.if_icmp .ge off, 3)) (kt : y ≤ x → ek_G p l e R s m args below meth c nL D A B k n Q w tgt lv st) (kf : ¬ y ≤ x → ek_G p l e R s m args below meth c nL D A B k n Q w (pc + 3) lv st) : ek_G p l e R s m args below meth c nL D A B k n Q w pc lv (.int y :: .int x :: st) := fun H locs ls hP hD hS hl => lv_icmp_ge X.1.1 X.1.2.1 hdg ht (fun h => kt h H locs ls hP hD hS hl) (fun h => kf h H locs ls hP hD hS hl)
theorem ek_if_gt {x : Int32} {off : Int} (X : ek_X p s m args meth c own cc nL ret Ts N D tys A B wr) (tgt : Nat) (ht : (pc : Int) + off = (tgt : Int)) (hdg : decode cc pc = .ok (.ifCond .gt off, 3)) (kt : 0 < x → ek_G p l e R s m args below meth c nL D A B k n Q w tgt lv st) (kf : ¬ 0 < x → ek_G p l e R s m args below meth c nL D A B k n Q w (pc + 3) lv st) : ek_G p l e R s m args below meth c nL D A B k n Q w pc lv (.int x :: st) := fun H locs ls hP hD hS hl => lv_if_gt X.1.1 X.1.2.1 hdg ht (fun h => kt h H locs ls hP hD hS hl) (fun h => kf h H locs ls hP hD hS hl)
theorem ek_icmp_gt {x y : Int32} {off : Int} (X : ek_X p s m args meth c own cc nL ret Ts N D tys A B wr) (tgt : Nat) (ht : (pc : Int) + off = (tgt : Int)) (hdg : decode cc pc = .ok (.if_icmp .gt off, 3)) (kt : y < x → ek_G p l e R s m args below meth c nL D A B k n Q w tgt lv st) (kf : ¬ y < x → ek_G p l e R s m args below meth c nL D A B k n Q w (pc + 3) lv st) : ek_G p l e R s m args below meth c nL D A B k n Q w pc lv (.int y :: .int x :: st) := fun H locs ls hP hD hS hl => lv_icmp_gt X.1.1 X.1.2.1 hdg ht (fun h => kt h H locs ls hP hD hS hl) (fun h => kf h H locs ls hP hD hS hl)
theorem ek_if_le {x : Int32} {off : Int} (X : ek_X p s m args meth c own cc nL ret Ts N D tys A B wr) (tgt : Nat) (ht : (pc : Int) + off = (tgt : Int)) (hdg : decode cc pc = .ok (.ifCond .le off, 3)) (kt : x ≤ 0 → ek_G p l e R s m args below meth c nL D A B k n Q w tgt lv st) (kf : ¬ x ≤ 0 → ek_G p l e R s m args below meth c nL D A B k n Q w (pc + 3) lv st) : ek_G p l e R s m args below meth c nL D A B k n Q w pc lv (.int x :: st) := fun H locs ls hP hD hS hl => lv_if_le X.1.1 X.1.2.1 hdg ht (fun h => kt h H locs ls hP hD hS hl) (fun h => kf h H locs ls hP hD hS hl)
theorem ek_icmp_le {x y : Int32} {off : Int} (X : ek_X p s m args meth c own cc nL ret Ts N D tys A B wr) (tgt : Nat) (ht : (pc : Int) + off = (tgt : Int)) (hdg : decode cc pc = .ok (.if_icmp .le off, 3)) (kt : x ≤ y → ek_G p l e R s m args below meth c nL D A B k n Q w tgt lv st) (kf : ¬ x ≤ y → ek_G p l e R s m args below meth c nL D A B k n Q w (pc + 3) lv st) : ek_G p l e R s m args below meth c nL D A B k n Q w pc lv (.int y :: .int x :: st) := fun H locs ls hP hD hS hl => lv_icmp_le X.1.1 X.1.2.1 hdg ht (fun h => kt h H locs ls hP hD hS hl) (fun h => kf h H locs ls hP hD hS hl)
-- icmp_eq: x = y | ¬ x = y
theorem ek_Neq {a b : Nat} {off : Int} (X : ek_X p s m args meth c own cc nL ret Ts N D tys A B wr) (ha : a < 2147483648) (hb : b < 2147483648) (tgt : Nat) (ht : (pc : Int) + off = (tgt : Int)) (hdg : decode cc pc = .ok (.if_icmp .eq off, 3)) (kt : a = b → ek_G p l e R s m args below meth c nL D A B k n Q w tgt lv st) (kf : ¬ a = b → ek_G p l e R s m args below meth c nL D A B k n Q w (pc + 3) lv st) : ek_G p l e R s m args below meth c nL D A B k n Q w pc lv (.int (nI b) :: .int (nI a) :: st) := by
  refine ek_icmp_eq X tgt ht hdg (fun h => kt ?_) (fun h => kf ?_)
  · have h1 := @nI_eq a b ha hb; have h2 := @nI_ltI a b ha hb; have h3 := @nI_leI a b ha hb; have h4 := @nI_leI b a hb ha; have h5 := @nI_ltI b a hb ha; simp only [h1, h2, h3, h4, h5] at h; omega
  · have h1 := @nI_eq a b ha hb; have h2 := @nI_ltI a b ha hb; have h3 := @nI_leI a b ha hb; have h4 := @nI_leI b a hb ha; have h5 := @nI_ltI b a hb ha; simp only [h1, h2, h3, h4, h5] at h; omega
theorem ek_Zeq {a : Nat} {off : Int} (X : ek_X p s m args meth c own cc nL ret Ts N D tys A B wr) (ha : a < 2147483648) (tgt : Nat) (ht : (pc : Int) + off = (tgt : Int)) (hdg : decode cc pc = .ok (.ifCond .eq off, 3)) (kt : a = 0 → ek_G p l e R s m args below meth c nL D A B k n Q w tgt lv st) (kf : ¬ a = 0 → ek_G p l e R s m args below meth c nL D A B k n Q w (pc + 3) lv st) : ek_G p l e R s m args below meth c nL D A B k n Q w pc lv (.int (nI a) :: st) := by
  refine ek_if_eq X tgt ht hdg (fun h => kt ?_) (fun h => kf ?_)
  · rw [← nI_0] at h; have h1 := @nI_eq a 0 ha (by omega); have h2 := @nI_ltI a 0 ha (by omega); have h3 := @nI_leI a 0 ha (by omega); have h4 := @nI_leI 0 a (by omega) ha; have h5 := @nI_ltI 0 a (by omega) ha; simp only [h1, h2, h3, h4, h5] at h; omega
  · rw [← nI_0] at h; have h1 := @nI_eq a 0 ha (by omega); have h2 := @nI_ltI a 0 ha (by omega); have h3 := @nI_leI a 0 ha (by omega); have h4 := @nI_leI 0 a (by omega) ha; have h5 := @nI_ltI 0 a (by omega) ha; simp only [h1, h2, h3, h4, h5] at h; omega
-- icmp_ne: ¬ x = y | x = y
theorem ek_Nne {a b : Nat} {off : Int} (X : ek_X p s m args meth c own cc nL ret Ts N D tys A B wr) (ha : a < 2147483648) (hb : b < 2147483648) (tgt : Nat) (ht : (pc : Int) + off = (tgt : Int)) (hdg : decode cc pc = .ok (.if_icmp .ne off, 3)) (kt : ¬ a = b → ek_G p l e R s m args below meth c nL D A B k n Q w tgt lv st) (kf : a = b → ek_G p l e R s m args below meth c nL D A B k n Q w (pc + 3) lv st) : ek_G p l e R s m args below meth c nL D A B k n Q w pc lv (.int (nI b) :: .int (nI a) :: st) := by
  refine ek_icmp_ne X tgt ht hdg (fun h => kt ?_) (fun h => kf ?_)
  · have h1 := @nI_eq a b ha hb; have h2 := @nI_ltI a b ha hb; have h3 := @nI_leI a b ha hb; have h4 := @nI_leI b a hb ha; have h5 := @nI_ltI b a hb ha; simp only [h1, h2, h3, h4, h5] at h; omega
  · have h1 := @nI_eq a b ha hb; have h2 := @nI_ltI a b ha hb; have h3 := @nI_leI a b ha hb; have h4 := @nI_leI b a hb ha; have h5 := @nI_ltI b a hb ha; simp only [h1, h2, h3, h4, h5] at h; omega
theorem ek_Zne {a : Nat} {off : Int} (X : ek_X p s m args meth c own cc nL ret Ts N D tys A B wr) (ha : a < 2147483648) (tgt : Nat) (ht : (pc : Int) + off = (tgt : Int)) (hdg : decode cc pc = .ok (.ifCond .ne off, 3)) (kt : ¬ a = 0 → ek_G p l e R s m args below meth c nL D A B k n Q w tgt lv st) (kf : a = 0 → ek_G p l e R s m args below meth c nL D A B k n Q w (pc + 3) lv st) : ek_G p l e R s m args below meth c nL D A B k n Q w pc lv (.int (nI a) :: st) := by
  refine ek_if_ne X tgt ht hdg (fun h => kt ?_) (fun h => kf ?_)
  · rw [← nI_0] at h; have h1 := @nI_eq a 0 ha (by omega); have h2 := @nI_ltI a 0 ha (by omega); have h3 := @nI_leI a 0 ha (by omega); have h4 := @nI_leI 0 a (by omega) ha; have h5 := @nI_ltI 0 a (by omega) ha; simp only [h1, h2, h3, h4, h5] at h; omega
  · rw [← nI_0] at h; have h1 := @nI_eq a 0 ha (by omega); have h2 := @nI_ltI a 0 ha (by omega); have h3 := @nI_leI a 0 ha (by omega); have h4 := @nI_leI 0 a (by omega) ha; have h5 := @nI_ltI 0 a (by omega) ha; simp only [h1, h2, h3, h4, h5] at h; omega
-- icmp_lt: x < y | ¬ x < y
theorem ek_Nlt {a b : Nat} {off : Int} (X : ek_X p s m args meth c own cc nL ret Ts N D tys A B wr) (ha : a < 2147483648) (hb : b < 2147483648) (tgt : Nat) (ht : (pc : Int) + off = (tgt : Int)) (hdg : decode cc pc = .ok (.if_icmp .lt off, 3)) (kt : a < b → ek_G p l e R s m args below meth c nL D A B k n Q w tgt lv st) (kf : b ≤ a → ek_G p l e R s m args below meth c nL D A B k n Q w (pc + 3) lv st) : ek_G p l e R s m args below meth c nL D A B k n Q w pc lv (.int (nI b) :: .int (nI a) :: st) := by
  refine ek_icmp_lt X tgt ht hdg (fun h => kt ?_) (fun h => kf ?_)
  · have h1 := @nI_eq a b ha hb; have h2 := @nI_ltI a b ha hb; have h3 := @nI_leI a b ha hb; have h4 := @nI_leI b a hb ha; have h5 := @nI_ltI b a hb ha; simp only [h1, h2, h3, h4, h5] at h; omega
  · have h1 := @nI_eq a b ha hb; have h2 := @nI_ltI a b ha hb; have h3 := @nI_leI a b ha hb; have h4 := @nI_leI b a hb ha; have h5 := @nI_ltI b a hb ha; simp only [h1, h2, h3, h4, h5] at h; omega
theorem ek_Zlt {a : Nat} {off : Int} (X : ek_X p s m args meth c own cc nL ret Ts N D tys A B wr) (ha : a < 2147483648) (tgt : Nat) (ht : (pc : Int) + off = (tgt : Int)) (hdg : decode cc pc = .ok (.ifCond .lt off, 3)) (kt : False → ek_G p l e R s m args below meth c nL D A B k n Q w tgt lv st) (kf : True → ek_G p l e R s m args below meth c nL D A B k n Q w (pc + 3) lv st) : ek_G p l e R s m args below meth c nL D A B k n Q w pc lv (.int (nI a) :: st) := by
  refine ek_if_lt X tgt ht hdg (fun h => kt ?_) (fun h => kf ?_)
  · rw [← nI_0] at h; have h1 := @nI_eq a 0 ha (by omega); have h2 := @nI_ltI a 0 ha (by omega); have h3 := @nI_leI a 0 ha (by omega); have h4 := @nI_leI 0 a (by omega) ha; have h5 := @nI_ltI 0 a (by omega) ha; simp only [h1, h2, h3, h4, h5] at h; first | trivial | omega
  · rw [← nI_0] at h; have h1 := @nI_eq a 0 ha (by omega); have h2 := @nI_ltI a 0 ha (by omega); have h3 := @nI_leI a 0 ha (by omega); have h4 := @nI_leI 0 a (by omega) ha; have h5 := @nI_ltI 0 a (by omega) ha; simp only [h1, h2, h3, h4, h5] at h; first | trivial | omega
-- icmp_ge: y ≤ x | ¬ y ≤ x
theorem ek_Nge {a b : Nat} {off : Int} (X : ek_X p s m args meth c own cc nL ret Ts N D tys A B wr) (ha : a < 2147483648) (hb : b < 2147483648) (tgt : Nat) (ht : (pc : Int) + off = (tgt : Int)) (hdg : decode cc pc = .ok (.if_icmp .ge off, 3)) (kt : b ≤ a → ek_G p l e R s m args below meth c nL D A B k n Q w tgt lv st) (kf : a < b → ek_G p l e R s m args below meth c nL D A B k n Q w (pc + 3) lv st) : ek_G p l e R s m args below meth c nL D A B k n Q w pc lv (.int (nI b) :: .int (nI a) :: st) := by
  refine ek_icmp_ge X tgt ht hdg (fun h => kt ?_) (fun h => kf ?_)
  · have h1 := @nI_eq a b ha hb; have h2 := @nI_ltI a b ha hb; have h3 := @nI_leI a b ha hb; have h4 := @nI_leI b a hb ha; have h5 := @nI_ltI b a hb ha; simp only [h1, h2, h3, h4, h5] at h; omega
  · have h1 := @nI_eq a b ha hb; have h2 := @nI_ltI a b ha hb; have h3 := @nI_leI a b ha hb; have h4 := @nI_leI b a hb ha; have h5 := @nI_ltI b a hb ha; simp only [h1, h2, h3, h4, h5] at h; omega
theorem ek_Zge {a : Nat} {off : Int} (X : ek_X p s m args meth c own cc nL ret Ts N D tys A B wr) (ha : a < 2147483648) (tgt : Nat) (ht : (pc : Int) + off = (tgt : Int)) (hdg : decode cc pc = .ok (.ifCond .ge off, 3)) (kt : True → ek_G p l e R s m args below meth c nL D A B k n Q w tgt lv st) (kf : False → ek_G p l e R s m args below meth c nL D A B k n Q w (pc + 3) lv st) : ek_G p l e R s m args below meth c nL D A B k n Q w pc lv (.int (nI a) :: st) := by
  refine ek_if_ge X tgt ht hdg (fun h => kt ?_) (fun h => kf ?_)
  · rw [← nI_0] at h; have h1 := @nI_eq a 0 ha (by omega); have h2 := @nI_ltI a 0 ha (by omega); have h3 := @nI_leI a 0 ha (by omega); have h4 := @nI_leI 0 a (by omega) ha; have h5 := @nI_ltI 0 a (by omega) ha; simp only [h1, h2, h3, h4, h5] at h; first | trivial | omega
  · rw [← nI_0] at h; have h1 := @nI_eq a 0 ha (by omega); have h2 := @nI_ltI a 0 ha (by omega); have h3 := @nI_leI a 0 ha (by omega); have h4 := @nI_leI 0 a (by omega) ha; have h5 := @nI_ltI 0 a (by omega) ha; simp only [h1, h2, h3, h4, h5] at h; first | trivial | omega
-- icmp_gt: y < x | ¬ y < x
theorem ek_Ngt {a b : Nat} {off : Int} (X : ek_X p s m args meth c own cc nL ret Ts N D tys A B wr) (ha : a < 2147483648) (hb : b < 2147483648) (tgt : Nat) (ht : (pc : Int) + off = (tgt : Int)) (hdg : decode cc pc = .ok (.if_icmp .gt off, 3)) (kt : b < a → ek_G p l e R s m args below meth c nL D A B k n Q w tgt lv st) (kf : a ≤ b → ek_G p l e R s m args below meth c nL D A B k n Q w (pc + 3) lv st) : ek_G p l e R s m args below meth c nL D A B k n Q w pc lv (.int (nI b) :: .int (nI a) :: st) := by
  refine ek_icmp_gt X tgt ht hdg (fun h => kt ?_) (fun h => kf ?_)
  · have h1 := @nI_eq a b ha hb; have h2 := @nI_ltI a b ha hb; have h3 := @nI_leI a b ha hb; have h4 := @nI_leI b a hb ha; have h5 := @nI_ltI b a hb ha; simp only [h1, h2, h3, h4, h5] at h; omega
  · have h1 := @nI_eq a b ha hb; have h2 := @nI_ltI a b ha hb; have h3 := @nI_leI a b ha hb; have h4 := @nI_leI b a hb ha; have h5 := @nI_ltI b a hb ha; simp only [h1, h2, h3, h4, h5] at h; omega
theorem ek_Zgt {a : Nat} {off : Int} (X : ek_X p s m args meth c own cc nL ret Ts N D tys A B wr) (ha : a < 2147483648) (tgt : Nat) (ht : (pc : Int) + off = (tgt : Int)) (hdg : decode cc pc = .ok (.ifCond .gt off, 3)) (kt : 0 < a → ek_G p l e R s m args below meth c nL D A B k n Q w tgt lv st) (kf : a = 0 → ek_G p l e R s m args below meth c nL D A B k n Q w (pc + 3) lv st) : ek_G p l e R s m args below meth c nL D A B k n Q w pc lv (.int (nI a) :: st) := by
  refine ek_if_gt X tgt ht hdg (fun h => kt ?_) (fun h => kf ?_)
  · rw [← nI_0] at h; have h1 := @nI_eq a 0 ha (by omega); have h2 := @nI_ltI a 0 ha (by omega); have h3 := @nI_leI a 0 ha (by omega); have h4 := @nI_leI 0 a (by omega) ha; have h5 := @nI_ltI 0 a (by omega) ha; simp only [h1, h2, h3, h4, h5] at h; omega
  · rw [← nI_0] at h; have h1 := @nI_eq a 0 ha (by omega); have h2 := @nI_ltI a 0 ha (by omega); have h3 := @nI_leI a 0 ha (by omega); have h4 := @nI_leI 0 a (by omega) ha; have h5 := @nI_ltI 0 a (by omega) ha; simp only [h1, h2, h3, h4, h5] at h; omega
-- icmp_le: x ≤ y | ¬ x ≤ y
theorem ek_Nle {a b : Nat} {off : Int} (X : ek_X p s m args meth c own cc nL ret Ts N D tys A B wr) (ha : a < 2147483648) (hb : b < 2147483648) (tgt : Nat) (ht : (pc : Int) + off = (tgt : Int)) (hdg : decode cc pc = .ok (.if_icmp .le off, 3)) (kt : a ≤ b → ek_G p l e R s m args below meth c nL D A B k n Q w tgt lv st) (kf : b < a → ek_G p l e R s m args below meth c nL D A B k n Q w (pc + 3) lv st) : ek_G p l e R s m args below meth c nL D A B k n Q w pc lv (.int (nI b) :: .int (nI a) :: st) := by
  refine ek_icmp_le X tgt ht hdg (fun h => kt ?_) (fun h => kf ?_)
  · have h1 := @nI_eq a b ha hb; have h2 := @nI_ltI a b ha hb; have h3 := @nI_leI a b ha hb; have h4 := @nI_leI b a hb ha; have h5 := @nI_ltI b a hb ha; simp only [h1, h2, h3, h4, h5] at h; omega
  · have h1 := @nI_eq a b ha hb; have h2 := @nI_ltI a b ha hb; have h3 := @nI_leI a b ha hb; have h4 := @nI_leI b a hb ha; have h5 := @nI_ltI b a hb ha; simp only [h1, h2, h3, h4, h5] at h; omega
theorem ek_Zle {a : Nat} {off : Int} (X : ek_X p s m args meth c own cc nL ret Ts N D tys A B wr) (ha : a < 2147483648) (tgt : Nat) (ht : (pc : Int) + off = (tgt : Int)) (hdg : decode cc pc = .ok (.ifCond .le off, 3)) (kt : a = 0 → ek_G p l e R s m args below meth c nL D A B k n Q w tgt lv st) (kf : 0 < a → ek_G p l e R s m args below meth c nL D A B k n Q w (pc + 3) lv st) : ek_G p l e R s m args below meth c nL D A B k n Q w pc lv (.int (nI a) :: st) := by
  refine ek_if_le X tgt ht hdg (fun h => kt ?_) (fun h => kf ?_)
  · rw [← nI_0] at h; have h1 := @nI_eq a 0 ha (by omega); have h2 := @nI_ltI a 0 ha (by omega); have h3 := @nI_leI a 0 ha (by omega); have h4 := @nI_leI 0 a (by omega) ha; have h5 := @nI_ltI 0 a (by omega) ha; simp only [h1, h2, h3, h4, h5] at h; omega
  · rw [← nI_0] at h; have h1 := @nI_eq a 0 ha (by omega); have h2 := @nI_ltI a 0 ha (by omega); have h3 := @nI_leI a 0 ha (by omega); have h4 := @nI_leI 0 a (by omega) ha; have h5 := @nI_ltI 0 a (by omega) ha; simp only [h1, h2, h3, h4, h5] at h; omega
theorem ek_ofInt (d : Nat) : Int32.ofInt (d : Int) = nI d := by
  unfold nI Int32.ofInt Int32.ofNat
  simp
theorem ek_Nadd {a b : Nat} (X : ek_X p s m args meth c own cc nL ret Ts N D tys A B wr)  (hdg : decode cc pc = .ok (.iadd, 1)) (kk : ek_G p l e R s m args below meth c nL D A B k n Q w (pc + 1) lv (.int (nI (a + b)) :: st)) : ek_G p l e R s m args below meth c nL D A B k n Q w pc lv (.int (nI b) :: .int (nI a) :: st) := ek_add X  hdg (ek_top (nI_add a b) kk)
theorem ek_Nsub {a b : Nat} (X : ek_X p s m args meth c own cc nL ret Ts N D tys A B wr) (h : b ≤ a) (hdg : decode cc pc = .ok (.isub, 1)) (kk : ek_G p l e R s m args below meth c nL D A B k n Q w (pc + 1) lv (.int (nI (a - b)) :: st)) : ek_G p l e R s m args below meth c nL D A B k n Q w pc lv (.int (nI b) :: .int (nI a) :: st) := ek_sub X  hdg (ek_top (pk_sub h) kk)
theorem ek_Nmul {a b : Nat} (X : ek_X p s m args meth c own cc nL ret Ts N D tys A B wr)  (hdg : decode cc pc = .ok (.imul, 1)) (kk : ek_G p l e R s m args below meth c nL D A B k n Q w (pc + 1) lv (.int (nI (a * b)) :: st)) : ek_G p l e R s m args below meth c nL D A B k n Q w pc lv (.int (nI b) :: .int (nI a) :: st) := ek_mul X  hdg (ek_top (pk_mul a b) kk)
theorem ek_Ndiv {a b : Nat} (X : ek_X p s m args meth c own cc nL ret Ts N D tys A B wr) (ha : a < 2147483648) (h0 : 0 < b) (hb : b < 2147483648) (hdg : decode cc pc = .ok (.idiv, 1)) (kk : ek_G p l e R s m args below meth c nL D A B k n Q w (pc + 1) lv (.int (nI (a / b)) :: st)) : ek_G p l e R s m args below meth c nL D A B k n Q w pc lv (.int (nI b) :: .int (nI a) :: st) := ek_div X (nI_ne0 h0 hb) hdg (ek_top (pk_div ha h0 hb) kk)
theorem ek_Nrem {a b : Nat} (X : ek_X p s m args meth c own cc nL ret Ts N D tys A B wr) (ha : a < 2147483648) (h0 : 0 < b) (hb : b < 2147483648) (hdg : decode cc pc = .ok (.irem, 1)) (kk : ek_G p l e R s m args below meth c nL D A B k n Q w (pc + 1) lv (.int (nI (a % b)) :: st)) : ek_G p l e R s m args below meth c nL D A B k n Q w pc lv (.int (nI b) :: .int (nI a) :: st) := ek_rem X (nI_ne0 h0 hb) hdg (ek_top (pk_rem ha h0 hb) kk)
theorem ek_Ninc {i j : Nat} {a d : Nat} {lv' : List (Nat × Value)} (X : ek_X p s m args meth c own cc nL ret Ts N D tys A B wr) (hj : lv[j]? = some (i, .int (nI a))) (hn : i < nL) (hl' : (i, Value.int (nI (a + d))) :: lv.filter (fun q => !(q.1 == i) && !(q.1 + 1 == i && q.2.category == 2)) = lv') (hdg : decode cc pc = .ok (.iinc i (d : Int), 3)) (kk : ek_G p l e R s m args below meth c nL D A B k n Q w (pc + 3) lv' st) : ek_G p l e R s m args below meth c nL D A B k n Q w pc lv st := ek_inc X hj (by rw [← nI_add, ek_ofInt]) hn hl' hdg kk
theorem ek_Ndec {i j : Nat} {a : Nat} {lv' : List (Nat × Value)} (X : ek_X p s m args meth c own cc nL ret Ts N D tys A B wr) (h : 0 < a) (hj : lv[j]? = some (i, .int (nI a))) (hn : i < nL) (hl' : (i, Value.int (nI (a - 1))) :: lv.filter (fun q => !(q.1 == i) && !(q.1 + 1 == i && q.2.category == 2)) = lv') (hdg : decode cc pc = .ok (.iinc i (-1), 3)) (kk : ek_G p l e R s m args below meth c nL D A B k n Q w (pc + 3) lv' st) : ek_G p l e R s m args below meth c nL D A B k n Q w pc lv st := ek_inc X hj (by rw [show Int32.ofInt (-1) = -1 by decide]; exact sb_m1 h) hn hl' hdg kk
/-- f, but v at k -/
def eN {α : Type} (f : Nat → α) (k : Nat) (v : α) : Nat → α := fun j => if j = k then v else f j
theorem eN_self {α : Type} (f : Nat → α) (k : Nat) (v : α) : eN f k v k = v := by simp [eN]
theorem eN_ne {α : Type} (f : Nat → α) {k j : Nat} (v : α) (h : j ≠ k) : eN f k v j = f j := by simp [eN, h]
theorem eN_comp {α β : Type} (g : α → β) (f : Nat → α) (k : Nat) (v : α) : (fun j => g (eN f k v j)) = eN (fun j => g (f j)) k (g v) := by
  funext j
  by_cases h : j = k <;> simp [eN, h]
theorem eN_upd (f : Nat → Int32) (k : Nat) (v : Int32) : upd f k v = eN f k v := by
  funext j
  by_cases h : j = k <;> simp [upd, eN, h]
theorem eN_updL (f : Nat → Int64) (k : Nat) (v : Int64) : vp_updL f k v = eN f k v := rfl
theorem ek_get {C : String} {T : u_T} {M ci ix a : Nat} {fs : List Value} {v : Value} (X : ek_X p s m args meth c own cc nL ret Ts N D tys A B wr) (hin : ∀ x ∈ u_ws C T M, x ∈ Ts) (q0 : Nat) (he : w[q0]? = some (a, .inr (ci, fs))) (hc : vwCl[ci]? = some (C, T, M)) (j : Nat) (hj : j < M) (hlink : Cond.fieldLink own ix (T j).1 (T j).2.1 (T j).2.2.1 ∈ Ts) (hv : fs[j]? = some v) (hdg : decode cc pc = .ok (.getfield ix, 3)) (kk : ek_G p l e R s m args below meth c nL D A B k n Q w (pc + 3) lv (v :: st)) : ek_G p l e R s m args below meth c nL D A B k n Q w pc lv (.ref a :: st) := fun H locs ls hP hD hS hl => va_get X.1.1 X.1.2.1 X.1.2.2.2.2 hin X.1.2.2.2.1 X.2.1 hP q0 he hc j hj (X.1.2.2.2.2 _ hlink) (fun _ h => h) hv hdg (kk H locs ls hP hD hS hl)
theorem ek_getN {C host : String} {T : u_T} {M ci ix a : Nat} {fs : List Value} {v : Value} (X : ek_X p s m args meth c own cc nL ret Ts N D tys A B wr) (hin : ∀ x ∈ u_ws C T M, x ∈ Ts) (q0 : Nat) (he : w[q0]? = some (a, .inr (ci, fs))) (hc : vwCl[ci]? = some (C, T, M)) (j : Nat) (hj : j < M) (hlink : Cond.fieldLinkNest own ix (T j).1 (T j).2.1 (T j).2.2.1 host ∈ N) (hv : fs[j]? = some v) (hdg : decode cc pc = .ok (.getfield ix, 3)) (kk : ek_G p l e R s m args below meth c nL D A B k n Q w (pc + 3) lv (v :: st)) : ek_G p l e R s m args below meth c nL D A B k n Q w pc lv (.ref a :: st) := fun H locs ls hP hD hS hl => va_getN X.1.1 X.1.2.1 X.1.2.2.2.2 hin X.1.2.2.2.1 X.2.1 hP q0 he hc j hj (va_Nw.use (by rfl) (X.2.2.2.2.1.2 _ hlink)) (fun _ h => h) hv hdg (kk H locs ls hP hD hS hl)
theorem ek_put {C : String} {T : u_T} {M ci ix a : Nat} {fs : List Value} {v : Value} {ty : FieldType} {w' : va_W} (X : ek_X p s m args meth c own cc nL ret Ts N D tys A B True) (hin : ∀ x ∈ u_ws C T M, x ∈ Ts) (ty0 : Nat → FieldType) (hty : ∀ i, i < M → parseFieldDescriptor (T i).2.2.1 = some (ty0 i)) (hnm : ∀ a, a < M → ∀ b, b < M → a ≠ b → (T a).2.1 ≠ (T b).2.1) (q0 : Nat) (he : w[q0]? = some (a, .inr (ci, fs))) (hc : vwCl[ci]? = some (C, T, M)) (j : Nat) (hj : j < M) (hlink : Cond.fieldLink own ix (T j).1 (T j).2.1 (T j).2.2.1 ∈ Ts) (hfin : (T j).2.2.2 = false)  (htj : ty0 j = ty) (hn : narrow ty v = v) (hfit : fits ty v = true) (hl0 : j < fs.length) (hw : w.set q0 (a, .inr (ci, fs.set j v)) = w') (hdg : decode cc pc = .ok (.putfield ix, 3)) (kk : ek_G p l e R s m args below meth c nL D A B k n Q w' (pc + 3) lv st) : ek_G p l e R s m args below meth c nL D A B k n Q w pc lv (v :: .ref a :: st) := by
  intro H locs ls hP hD hS hl
  have hDA : va_D A w := hD.weaken (fun _ x _ h => ((X.2.2.2.2.2 trivial).1 x.1).mp h)
  subst hw
  refine va_put X.1.1 X.1.2.1 X.1.2.2.2.2 hin ty0 hty hnm X.1.2.2.2.1 X.2.1 hP hDA hS q0 he hc j hj (X.1.2.2.2.2 _ hlink) (fun _ h => h) hfin  (by rw [hty j hj, htj]) hn hfit hl0 hdg (fun H1 locs1 hP1 _ hS1 => ?_)
  exact kk H1 locs1 ls hP1 (hD.set he) hS1 hl
theorem ek_putF {C : String} {T : u_T} {M ci ix a : Nat} {fs : List Value} {v : Value} {ty : FieldType} {w' : va_W} (X : ek_X p s m args meth c own cc nL ret Ts N D tys A B True) (hin : ∀ x ∈ u_ws C T M, x ∈ Ts) (ty0 : Nat → FieldType) (hty : ∀ i, i < M → parseFieldDescriptor (T i).2.2.1 = some (ty0 i)) (hnm : ∀ a, a < M → ∀ b, b < M → a ≠ b → (T a).2.1 ≠ (T b).2.1) (q0 : Nat) (he : w[q0]? = some (a, .inr (ci, fs))) (hc : vwCl[ci]? = some (C, T, M)) (j : Nat) (hj : j < M) (hlink : Cond.fieldLink own ix (T j).1 (T j).2.1 (T j).2.2.1 ∈ Ts) (hfin : (T j).2.2.2 = true) (hin2 : meth.name = "<init>") (hdecl : (T j).1 = own) (htj : ty0 j = ty) (hn : narrow ty v = v) (hfit : fits ty v = true) (hl0 : j < fs.length) (hw : w.set q0 (a, .inr (ci, fs.set j v)) = w') (hdg : decode cc pc = .ok (.putfield ix, 3)) (kk : ek_G p l e R s m args below meth c nL D A B k n Q w' (pc + 3) lv st) : ek_G p l e R s m args below meth c nL D A B k n Q w pc lv (v :: .ref a :: st) := by
  intro H locs ls hP hD hS hl
  have hDA : va_D A w := hD.weaken (fun _ x _ h => ((X.2.2.2.2.2 trivial).1 x.1).mp h)
  subst hw
  refine va_putF X.1.1 X.1.2.1 X.1.2.2.2.2 hin ty0 hty hnm X.1.2.2.2.1 X.2.1 hP hDA hS q0 he hc j hj (X.1.2.2.2.2 _ hlink) (fun _ h => h) hfin hin2 hdecl (by rw [hty j hj, htj]) hn hfit hl0 hdg (fun H1 locs1 hP1 _ hS1 => ?_)
  exact kk H1 locs1 ls hP1 (hD.set he) hS1 hl
theorem ek_putN {C host : String} {T : u_T} {M ci ix a : Nat} {fs : List Value} {v : Value} {ty : FieldType} {w' : va_W} (X : ek_X p s m args meth c own cc nL ret Ts N D tys A B True) (hin : ∀ x ∈ u_ws C T M, x ∈ Ts) (ty0 : Nat → FieldType) (hty : ∀ i, i < M → parseFieldDescriptor (T i).2.2.1 = some (ty0 i)) (hnm : ∀ a, a < M → ∀ b, b < M → a ≠ b → (T a).2.1 ≠ (T b).2.1) (q0 : Nat) (he : w[q0]? = some (a, .inr (ci, fs))) (hc : vwCl[ci]? = some (C, T, M)) (j : Nat) (hj : j < M) (hlink : Cond.fieldLinkNest own ix (T j).1 (T j).2.1 (T j).2.2.1 host ∈ N) (hfin : (T j).2.2.2 = false)  (htj : ty0 j = ty) (hn : narrow ty v = v) (hfit : fits ty v = true) (hl0 : j < fs.length) (hw : w.set q0 (a, .inr (ci, fs.set j v)) = w') (hdg : decode cc pc = .ok (.putfield ix, 3)) (kk : ek_G p l e R s m args below meth c nL D A B k n Q w' (pc + 3) lv st) : ek_G p l e R s m args below meth c nL D A B k n Q w pc lv (v :: .ref a :: st) := by
  intro H locs ls hP hD hS hl
  have hDA : va_D A w := hD.weaken (fun _ x _ h => ((X.2.2.2.2.2 trivial).1 x.1).mp h)
  subst hw
  refine va_putN X.1.1 X.1.2.1 X.1.2.2.2.2 hin ty0 hty hnm X.1.2.2.2.1 X.2.1 hP hDA hS q0 he hc j hj (va_Nw.use (by rfl) (X.2.2.2.2.1.2 _ hlink)) (fun _ h => h) hfin  (by rw [hty j hj, htj]) hn hfit hl0 hdg (fun H1 locs1 hP1 _ hS1 => ?_)
  exact kk H1 locs1 ls hP1 (hD.set he) hS1 hl
theorem ek_ald {cA : ClassId} {a n0 i : Nat} {f : Nat → Int32} (X : ek_X p s m args meth c own cc nL ret Ts N D tys A B wr) (q0 t0 : Nat) (ha : w[q0]? = some (a, .inl (cA, n0, .inl f))) (ht : tys[t0]? = some (cA, .int)) (hi : i < n0) (hn : n0 < 2147483648) (hdg : decode cc pc = .ok (.iaload, 1)) (kk : ek_G p l e R s m args below meth c nL D A B k n Q w (pc + 1) lv (.int (f i) :: st)) : ek_G p l e R s m args below meth c nL D A B k n Q w pc lv (.int (nI i) :: .ref a :: st) := fun H locs ls hP hD hS hl => va_iald X.1.1 X.1.2.1 X.2.1 hP q0 t0 ha ht (vp_in_nI hi hn) hdg (by rw [nI_clamp (Nat.lt_trans hi hn)]; exact kk H locs ls hP hD hS hl)
theorem ek_lald {cA : ClassId} {a n0 i : Nat} {f : Nat → Int64} (X : ek_X p s m args meth c own cc nL ret Ts N D tys A B wr) (q0 t0 : Nat) (ha : w[q0]? = some (a, .inl (cA, n0, .inr (.inl f)))) (ht : tys[t0]? = some (cA, .long)) (hi : i < n0) (hn : n0 < 2147483648) (hdg : decode cc pc = .ok (.laload, 1)) (kk : ek_G p l e R s m args below meth c nL D A B k n Q w (pc + 1) lv (.long (f i) :: st)) : ek_G p l e R s m args below meth c nL D A B k n Q w pc lv (.int (nI i) :: .ref a :: st) := fun H locs ls hP hD hS hl => va_lald X.1.1 X.1.2.1 X.2.1 hP q0 t0 ha ht (vp_in_nI hi hn) hdg (by rw [nI_clamp (Nat.lt_trans hi hn)]; exact kk H locs ls hP hD hS hl)
theorem ek_aald {cA : ClassId} {a n0 i b : Nat} {f : Nat → Option Nat} (X : ek_X p s m args meth c own cc nL ret Ts N D tys A B wr) (q0 t0 : Nat) (ha : w[q0]? = some (a, .inl (cA, n0, .inr (.inr (.inr (.inr f)))))) (ht : tys[t0]? = some (cA, .array .int)) (hi : i < n0) (hn : n0 < 2147483648) (hb : f i = some b) (hdg : decode cc pc = .ok (.aaload, 1)) (kk : ek_G p l e R s m args below meth c nL D A B k n Q w (pc + 1) lv (.ref b :: st)) : ek_G p l e R s m args below meth c nL D A B k n Q w pc lv (.int (nI i) :: .ref a :: st) := by
  intro H locs ls hP hD hS hl
  refine W.aald (v := .ref b) (ty := .array .int) X.1.1 X.1.2.1 (hP q0 _ ha) ((X.2.1.2 t0 _ ht).1 n0 (fun j => va_rf (f j))) rfl (fun q => by cases q) (by show ¬ (_ < 0 ∨ (arrV _ _ _).slots.size ≤ _); rw [arrV_size]; exact vp_in_nI hi hn) (by show (arrV _ _ _).slots[_]? = _; rw [nI_clamp (Nat.lt_trans hi hn), arrV_read _ _ hi, hb]; rfl) rfl rfl hdg (kk H locs ls hP hD hS hl)
theorem ek_ast {cA : ClassId} {a n0 i : Nat} {f : Nat → Int32} {x : Int32} {w' : va_W} (X : ek_X p s m args meth c own cc nL ret Ts N D tys A B True) (q0 t0 : Nat) (ha : w[q0]? = some (a, .inl (cA, n0, .inl f))) (ht : tys[t0]? = some (cA, .int)) (hi : i < n0) (hn : n0 < 2147483648) (hw : w.set q0 (a, .inl (cA, n0, .inl (eN f i x))) = w') (hdg : decode cc pc = .ok (.iastore, 1)) (kk : ek_G p l e R s m args below meth c nL D A B k n Q w' (pc + 1) lv st) : ek_G p l e R s m args below meth c nL D A B k n Q w pc lv (.int x :: .int (nI i) :: .ref a :: st) := by
  intro H locs ls hP hD hS hl
  have hDA : va_D A w := hD.weaken (fun _ x _ h => ((X.2.2.2.2.2 trivial).1 x.1).mp h)
  subst hw
  refine va_iast X.1.1 X.1.2.1 X.2.1 hP hDA hS q0 t0 ha ht (vp_in_nI hi hn) hdg (fun H1 locs1 hP1 _ hS1 => ?_)
  rw [nI_clamp (Nat.lt_trans hi hn), eN_upd] at hP1
  exact kk H1 locs1 ls hP1 (hD.set ha) hS1 hl
theorem ek_Nast {cA : ClassId} {a n0 i v : Nat} {g : Nat → Nat} {w' : va_W} (X : ek_X p s m args meth c own cc nL ret Ts N D tys A B True) (q0 t0 : Nat) (ha : w[q0]? = some (a, .inl (cA, n0, .inl (fun j => nI (g j))))) (ht : tys[t0]? = some (cA, .int)) (hi : i < n0) (hn : n0 < 2147483648) (hw : w.set q0 (a, .inl (cA, n0, .inl (fun j => nI (eN g i v j)))) = w') (hdg : decode cc pc = .ok (.iastore, 1)) (kk : ek_G p l e R s m args below meth c nL D A B k n Q w' (pc + 1) lv st) : ek_G p l e R s m args below meth c nL D A B k n Q w pc lv (.int (nI v) :: .int (nI i) :: .ref a :: st) := ek_ast X q0 t0 ha ht hi hn (by rw [← eN_comp nI]; exact hw) hdg kk
theorem ek_last {cA : ClassId} {a n0 i : Nat} {f : Nat → Int64} {x : Int64} {w' : va_W} (X : ek_X p s m args meth c own cc nL ret Ts N D tys A B True) (q0 t0 : Nat) (ha : w[q0]? = some (a, .inl (cA, n0, .inr (.inl f)))) (ht : tys[t0]? = some (cA, .long)) (hi : i < n0) (hn : n0 < 2147483648) (hw : w.set q0 (a, .inl (cA, n0, .inr (.inl (eN f i x)))) = w') (hdg : decode cc pc = .ok (.lastore, 1)) (kk : ek_G p l e R s m args below meth c nL D A B k n Q w' (pc + 1) lv st) : ek_G p l e R s m args below meth c nL D A B k n Q w pc lv (.long x :: .int (nI i) :: .ref a :: st) := by
  intro H locs ls hP hD hS hl
  have hDA : va_D A w := hD.weaken (fun _ x _ h => ((X.2.2.2.2.2 trivial).1 x.1).mp h)
  subst hw
  refine va_last X.1.1 X.1.2.1 X.2.1 hP hDA hS q0 t0 ha ht (vp_in_nI hi hn) hdg (fun H1 locs1 hP1 _ hS1 => ?_)
  rw [nI_clamp (Nat.lt_trans hi hn), eN_updL] at hP1
  exact kk H1 locs1 ls hP1 (hD.set ha) hS1 hl
theorem ek_alen {cA : ClassId} {a : Nat} {x : vp_A} {ty : FieldType} (X : ek_X p s m args meth c own cc nL ret Ts N D tys A B wr) (q0 t0 : Nat) (ha : w[q0]? = some (a, .inl (cA, x))) (ht : tys[t0]? = some (cA, ty)) (hdg : decode cc pc = .ok (.arraylength, 1)) (kk : ek_G p l e R s m args below meth c nL D A B k n Q w (pc + 1) lv (.int (nI x.1) :: st)) : ek_G p l e R s m args below meth c nL D A B k n Q w pc lv (.ref a :: st) := fun H locs ls hP hD hS hl => va_alen X.1.1 X.1.2.1 X.2.1 hP q0 t0 ha ht rfl hdg (kk H locs ls hP hD hS hl)
theorem ek_arrs {ty : FieldType} {cA cB : ClassId} (h1 : s.vm.findClass ("[" ++ ty.toString) = some cA) (h2 : s.vm.findClass ("[" ++ ty.toString) = some cB) : cA = cB := Option.some.inj (h1.symm.trans h2)
/-- new int[n], new long[n]: the new cell goes to the end of the world -/
theorem ek_newI {cA : ClassId} {n0 : Nat} (X : ek_X p s m args meth c own cc nL ret Ts N D tys A B True) (t0 : Nat) (ht : tys[t0]? = some (cA, .int)) (harr : Cond.arrayClass .int ∈ Ts) (hn : n0 < 134217728) (hk : k + 1 ≤ R.cells ∧ n + n0 ≤ R.slots) (hdg : decode cc pc = .ok (.newarray .int, 2)) (kk : ∀ q : Nat, ek_G p l e R s m args below meth c nL D A B (k + 1) (n + n0) Q (w ++ [(q, .inl (cA, n0, .inl (fun _ => nI 0)))]) (pc + 2) lv (.ref q :: st)) : ek_G p l e R s m args below meth c nL D A B k n Q w pc lv (.int (nI n0) :: st) := by
  intro H locs ls hP hD hS hl
  have hDA : va_D A w := hD.weaken (fun _ x _ h => ((X.2.2.2.2.2 trivial).1 x.1).mp h)
  refine va_newa (atype := .int) (ty := .int) (a0 := (n0, .inl (fun _ => nI 0))) (N' := n0) X.1.1 X.1.2.1 (X.1.2.2.2.2 _ harr) rfl X.2.1 hP hDA hS (X.2.2.2.2.2 trivial).2 (fun _ => rfl) (nI_pos (by omega)) (nI_clamp (by omega)) (by show n0 * 4 ≤ _; omega) hk.1 hk.2 hdg (fun q cB H1 hK1 hP1 hD1 hS1 => ?_)
  have e1 := (hK1.2 tys.length (cB, .int) (by rw [List.getElem?_append_right (Nat.le_refl _), Nat.sub_self]; rfl)).2
  have e2 := (X.2.1.2 t0 _ ht).2
  have e3 : cB = cA := ek_arrs (ty := .int) e1 e2
  subst e3
  exact kk q H1 locs ls hP1 (hD1.weaken (fun _ x _ h => ((X.2.2.2.2.2 trivial).1 x.1).mpr h)) hS1 hl
theorem ek_newL {cA : ClassId} {n0 : Nat} (X : ek_X p s m args meth c own cc nL ret Ts N D tys A B True) (t0 : Nat) (ht : tys[t0]? = some (cA, .long)) (harr : Cond.arrayClass .long ∈ Ts) (hn : n0 < 67108864) (hk : k + 1 ≤ R.cells ∧ n + n0 ≤ R.slots) (hdg : decode cc pc = .ok (.newarray .long, 2)) (kk : ∀ q : Nat, ek_G p l e R s m args below meth c nL D A B (k + 1) (n + n0) Q (w ++ [(q, .inl (cA, n0, .inr (.inl (fun _ => lN 0))))]) (pc + 2) lv (.ref q :: st)) : ek_G p l e R s m args below meth c nL D A B k n Q w pc lv (.int (nI n0) :: st) := by
  intro H locs ls hP hD hS hl
  have hDA : va_D A w := hD.weaken (fun _ x _ h => ((X.2.2.2.2.2 trivial).1 x.1).mp h)
  refine va_newa (atype := .long) (ty := .long) (a0 := (n0, .inr (.inl (fun _ => lN 0)))) (N' := n0) X.1.1 X.1.2.1 (X.1.2.2.2.2 _ harr) rfl X.2.1 hP hDA hS (X.2.2.2.2.2 trivial).2 (fun _ => rfl) (nI_pos (by omega)) (nI_clamp (by omega)) (by show n0 * 8 ≤ _; omega) hk.1 hk.2 hdg (fun q cB H1 hK1 hP1 hD1 hS1 => ?_)
  have e1 := (hK1.2 tys.length (cB, .long) (by rw [List.getElem?_append_right (Nat.le_refl _), Nat.sub_self]; rfl)).2
  have e2 := (X.2.1.2 t0 _ ht).2
  have e3 : cB = cA := ek_arrs (ty := .long) e1 e2
  subst e3
  exact kk q H1 locs ls hP1 (hD1.weaken (fun _ x _ h => ((X.2.2.2.2.2 trivial).1 x.1).mpr h)) hS1 hl
theorem ek_new {C : String} {T : u_T} {M ci ix : Nat} (X : ek_X p s m args meth c own cc nL ret Ts N D tys A B True) (fs : List Value) (hin : ∀ x ∈ u_ws C T M, x ∈ Ts) (ty : Nat → FieldType) (hty : ∀ k, k < M → parseFieldDescriptor (T k).2.2.1 = some (ty k)) (hcl : Cond.classLink own ix C ∈ Ts) (hinst : Cond.instantiable C M ∈ Ts) (hini : Cond.initialized C ∈ Ts) (hc : vwCl[ci]? = some (C, T, M)) (hfs : ∀ j, j < M → defaultValue (ty j) = vp_V fs j) (hk : k + 1 ≤ R.cells ∧ n + M ≤ R.slots) (hdg : decode cc pc = .ok (.new ix, 3)) (kk : ∀ q : Nat, ek_G p l e R s m args below meth c nL D A B (k + 1) (n + M) Q (w ++ [(q, .inr (ci, fs))]) (pc + 3) lv (.ref q :: st)) : ek_G p l e R s m args below meth c nL D A B k n Q w pc lv st := by
  intro H locs ls hP hD hS hl
  have hDA : va_D A w := hD.weaken (fun _ x _ h => ((X.2.2.2.2.2 trivial).1 x.1).mp h)
  exact va_new X.1.1 X.1.2.1 X.1.2.2.2.2 hin ty hty X.1.2.2.2.1 (X.1.2.2.2.2 _ hcl) (X.1.2.2.2.2 _ hinst) (X.1.2.2.2.2 _ hini) X.2.1 hP hDA hS (X.2.2.2.2.2 trivial).2 hc hfs hk.1 hk.2 hdg (fun q H1 hP1 hD1 hS1 => kk q H1 locs ls hP1 (hD1.weaken (fun _ x _ h => ((X.2.2.2.2.2 trivial).1 x.1).mpr h)) hS1 hl)
theorem ek_oinit {ix a : Nat} (X : ek_X p s m args meth c own cc nL ret Ts N D tys A B wr) (h1 : Cond.methodLink own ix Lib.objectInit ∈ Ts) (h2 : Cond.instanceMethod Lib.objectInit ∈ Ts) (h3 : Cond.code Lib.objectInit ⟨#[0xb1]⟩ 1 none ∈ Ts) (hR : 2 ≤ R.frames ∧ 20 ≤ R.locals) (hst : (st.map fun v => v.category).sum ≤ 8) (hdg : decode cc pc = .ok (.invokespecial ix, 3)) (kk : ek_G p l e R s m args below meth c nL D A B k n Q w (pc + 3) lv st) : ek_G p l e R s m args below meth c nL D A B k n Q w pc lv (.ref a :: st) := by
  intro H locs ls hP hD hS hl
  refine W.objInit X.1.1 X.1.2.1 X.1.2.2.2.1 (X.1.2.2.2.2 _ h1) (X.1.2.2.2.2 _ h2) (X.1.2.2.2.2 _ h3) rfl (by rw [X.1.2.2.1]; exact hl.1) rfl hdg (by omega) (by show 2 * 0 + _ + 12 ≤ _; omega) ?_
  exact kk H locs ls hP hD hS hl
-- contracts
def ek_P (D : va_G) (tys : List (ClassId × FieldType)) (N : List Cond) (av : List Value) (w : va_W) (sz : Nat) : Array Value → State → Prop := va_Pc av (fun U => U.heap.size = sz ∧ va_P D vwCl w U.heap ∧ va_K D vwCl tys U ∧ va_D (fun _ => True) w ∧ ek_N N U)
theorem ek_P.blind {av : List Value} {sz : Nat} : FrameBlind (ek_P D tys N av w sz) := fun a U g mk q => by
  obtain ⟨q0, q1, qP, qK, qD, qN⟩ := q
  exact ⟨q0, q1, qP, va_K.moved (u := U) (U := U.calling g mk a) (Vm.Alike.refl U.vm) qK, qD, ek_N.same (u := U) (U := U.calling g mk a) rfl qN⟩
def ek_Q {S : Type} (D : va_G) (A : Nat → Prop) (post : Option Value → S → Prop) (W' : S → va_W) : Array Value → State → Outcome → State → Prop := fun _ st oc t => (∃ (r : Option Value) (u : S), oc = .returned r ∧ post r u ∧ va_P D vwCl (W' u) t.heap ∧ va_D A (W' u)) ∧ va_F A st t
def ek_Qr (post : Option Value → Prop) : Array Value → State → Outcome → State → Prop := fun _ st oc t => (∃ r : Option Value, oc = .returned r ∧ post r) ∧ va_F (fun _ => False) st t
/-- the world w becomes W' u, with post -/
def ek_M {S : Type} (l : Launch) (y : MethodName) (cw : List Cond) (rm : Room) (D : va_G) (tys : List (ClassId × FieldType)) (N : List Cond) (av : List Value) (w : va_W) (post : Option Value → S → Prop) (W' : S → va_W) : Prop := ∀ sz : Nat, Met l y cw rm (ek_P D tys N av w sz) (ek_Q D (va_A w sz) post W') rm.cells rm.slots (va_A w sz)
/-- the world stays -/
def ek_R (l : Launch) (y : MethodName) (cw : List Cond) (rm : Room) (D : va_G) (tys : List (ClassId × FieldType)) (N : List Cond) (av : List Value) (w : va_W) (post : Option Value → Prop) : Prop := ∀ sz : Nat, Met l y cw rm (ek_P D tys N av w sz) (ek_Qr post) rm.cells rm.slots (fun _ => False)
/-- what a method's walk comes to -/
def ek_E {S : Type} (D : va_G) (A : Nat → Prop) (post : Option Value → S → Prop) (W' : S → va_W) (below : List Frame) (args : Array Value) (s : State) (mc ms : Nat) : State → Prop := MQ below (ek_Q D A post W') args s mc ms A
def ek_Er (post : Option Value → Prop) (below : List Frame) (args : Array Value) (s : State) (mc ms : Nat) : State → Prop := MQ below (ek_Qr post) args s mc ms (fun _ => False)
theorem ek_M.of {S : Type} {y : MethodName} {cw cw' : List Cond} {rm : Room} {av : List Value} {post : Option Value → S → Prop} {W' : S → va_W} {maxL : Nat} (hy : plainName y.cls = true) (hw : cw = Cond.code y cc maxL ret :: cw') (hlen : (lg_sl av).length ≤ maxL)
    (body : ∀ (p : Program) (e : Env) (s : State) (m : MethodId) (args : Array Value) (below : List Frame) (meth : Method) (c : Code) (A : Nat → Prop), ek_X p s m args meth c y.cls cc maxL ret cw N D tys A A True → (y.name = "<init>" → meth.name = "<init>") → ek_G p l e rm s m args below meth c maxL D A A 0 0 (ek_E D A post W' below args s rm.cells rm.slots) w 0 (lv_args 0 av) []) : ek_M l y cw rm D tys N av w post W' := by
  intro sz
  refine Met.ofW (cc := cc) (maxL := maxL) (ret := ret) hy hw ?_
  intro p e s m args below meth c s₁ B0 hml hv
  obtain ⟨rfl, hsz, hP, hK, hD0, hN⟩ := hv
  subst hsz
  have hD : va_D (va_A w s.heap.size) w := hD0.self
  have hX : ek_X p s m av.toArray meth c y.cls cc maxL ret cw N D tys (va_A w s.heap.size) (va_A w s.heap.size) True := ⟨⟨B0.exec, B0.bytes, hml, findClass_of_methodNamed B0.named, atoms_spec (ws := cw) B0.pre⟩, hK, B0.notSynchronized, B0.returns, hN, fun _ => ⟨fun _ => Iff.rfl, fun q h => Or.inr h⟩⟩
  have hb := body p e s m av.toArray below meth c (va_A w s.heap.size) hX (fun h => (name_of_methodNamed B0.named B0.method).1.trans h)
  rw [lg_entry_eq]
  exact hb s.heap [] _ hP hD va_S.rf (lv_entry av hlen)
theorem ek_R.of {y : MethodName} {cw cw' : List Cond} {rm : Room} {av : List Value} {post : Option Value → Prop} {maxL : Nat} (hy : plainName y.cls = true) (hw : cw = Cond.code y cc maxL ret :: cw') (hlen : (lg_sl av).length ≤ maxL)
    (body : ∀ (p : Program) (e : Env) (s : State) (m : MethodId) (args : Array Value) (below : List Frame) (meth : Method) (c : Code), ek_X p s m args meth c y.cls cc maxL ret cw N D tys (fun _ => False) (fun _ => True) False → ek_G p l e rm s m args below meth c maxL D (fun _ => False) (fun _ => True) 0 0 (ek_Er post below args s rm.cells rm.slots) w 0 (lv_args 0 av) []) : ek_R l y cw rm D tys N av w post := by
  intro sz
  refine Met.ofW (cc := cc) (maxL := maxL) (ret := ret) hy hw ?_
  intro p e s m args below meth c s₁ B0 hml hv
  obtain ⟨rfl, hsz, hP, hK, hD0, hN⟩ := hv
  subst hsz
  have hX : ek_X p s m av.toArray meth c y.cls cc maxL ret cw N D tys (fun _ => False) (fun _ => True) False := ⟨⟨B0.exec, B0.bytes, hml, findClass_of_methodNamed B0.named, atoms_spec (ws := cw) B0.pre⟩, hK, B0.notSynchronized, B0.returns, hN, fun h => h.elim⟩
  have hb := body p e s m av.toArray below meth c hX
  rw [lg_entry_eq]
  exact hb s.heap [] _ hP hD0 va_S.rf (lv_entry av hlen)
-- ends
theorem ek_reti {S : Type} {post : Option Value → S → Prop} {W' : S → va_W} {v : Int32} (X : ek_X p s m args meth c own cc nL (some .int) Ts N D tys A A True) (u : S) (hp : post (some (.int v)) u) (hw : w = W' u) (hdg : decode cc pc = .ok (.ireturn, 1)) : ek_G p l e R s m args below meth c nL D A A k n (ek_E D A post W' below args s k n) w pc lv [.int v] := fun H locs ls hP hD hS hl => W.iret (v := v) X.1.1 X.1.2.1 X.2.2.2.1 (fun t ht hW => ⟨⟨_, u, rfl, hp, by rw [ht, ← hw]; exact hP, by rw [← hw]; exact hD⟩, hS.F ht⟩) hS.2.2 hdg X.2.2.1
theorem ek_retz {S : Type} {post : Option Value → S → Prop} {W' : S → va_W} {v : Int32} (X : ek_X p s m args meth c own cc nL (some .boolean) Ts N D tys A A True) (u : S) (hv : narrow .boolean (.int v) = .int v) (hp : post (some (.int v)) u) (hw : w = W' u) (hdg : decode cc pc = .ok (.ireturn, 1)) : ek_G p l e R s m args below meth c nL D A A k n (ek_E D A post W' below args s k n) w pc lv [.int v] := fun H locs ls hP hD hS hl => W.zret (v := v) X.1.1 X.1.2.1 X.2.2.2.1 hv (fun t ht hW => ⟨⟨_, u, rfl, hp, by rw [ht, ← hw]; exact hP, by rw [← hw]; exact hD⟩, hS.F ht⟩) hS.2.2 hdg X.2.2.1
theorem ek_retv {S : Type} {post : Option Value → S → Prop} {W' : S → va_W} (X : ek_X p s m args meth c own cc nL none Ts N D tys A A True) (u : S) (hp : post none u) (hw : w = W' u) (hdg : decode cc pc = .ok (.return_, 1)) : ek_G p l e R s m args below meth c nL D A A k n (ek_E D A post W' below args s k n) w pc lv [] := fun H locs ls hP hD hS hl => W.vret X.1.1 X.1.2.1 X.2.2.2.1 (fun t ht hW => ⟨⟨_, u, rfl, hp, by rw [ht, ← hw]; exact hP, by rw [← hw]; exact hD⟩, hS.F ht⟩) hS.2.2 hdg X.2.2.1
theorem ek_retiR {post : Option Value → Prop} {v : Int32} (X : ek_X p s m args meth c own cc nL (some .int) Ts N D tys (fun _ => False) B wr) (hp : post (some (.int v))) (hdg : decode cc pc = .ok (.ireturn, 1)) : ek_G p l e R s m args below meth c nL D (fun _ => False) B k n (ek_Er post below args s k n) w pc lv [.int v] := fun H locs ls hP hD hS hl => W.iret (v := v) X.1.1 X.1.2.1 X.2.2.2.1 (fun t ht hW => ⟨⟨_, rfl, hp⟩, hS.F ht⟩) hS.2.2 hdg X.2.2.1
theorem ek_retzR {post : Option Value → Prop} {v : Int32} (X : ek_X p s m args meth c own cc nL (some .boolean) Ts N D tys (fun _ => False) B wr) (hv : narrow .boolean (.int v) = .int v) (hp : post (some (.int v))) (hdg : decode cc pc = .ok (.ireturn, 1)) : ek_G p l e R s m args below meth c nL D (fun _ => False) B k n (ek_Er post below args s k n) w pc lv [.int v] := fun H locs ls hP hD hS hl => W.zret (v := v) X.1.1 X.1.2.1 X.2.2.2.1 hv (fun t ht hW => ⟨⟨_, rfl, hp⟩, hS.F ht⟩) hS.2.2 hdg X.2.2.1
theorem ek_retvR {post : Option Value → Prop} (X : ek_X p s m args meth c own cc nL none Ts N D tys (fun _ => False) B wr) (hp : post none) (hdg : decode cc pc = .ok (.return_, 1)) : ek_G p l e R s m args below meth c nL D (fun _ => False) B k n (ek_Er post below args s k n) w pc lv [] := fun H locs ls hP hD hS hl => W.vret X.1.1 X.1.2.1 X.2.2.2.1 (fun t ht hW => ⟨⟨_, rfl, hp⟩, hS.F ht⟩) hS.2.2 hdg X.2.2.1
-- calls
def ek_Run (p : Program) (l : Launch) (e : Env) (R : Room) (s : State) (m : MethodId) (args : Array Value) (below : List Frame) (meth : Method) (c : Code) (nL : Nat) (D : va_G) (B : Nat → Prop) (k n : Nat) (w : va_W) (pc : Nat) (lv : List (Nat × Value)) (st rest : List Value) (mc ms : Nat) (Qa : Nat → State → Outcome → State → Prop) (free : Nat → Nat → Prop) : Prop :=
  ∀ (H : Heap) (locs : List Loc) (ls : Array Slot), va_P D vwCl w H → va_D B w → lv_has ls nL lv → va_Run p l e R s m args below meth c H locs k n mc ms (F0 m pc ls st) rest (Qa H.size) (free H.size)
section EKR
variable {y : MethodName} {bytes : ByteArray} {maxL ix : Nat} {rt : Option FieldType} {cw cw' : List Cond} {rm : Room} {av As : List Value} {wc : va_W} {Qc : Nat → Array Value → State → Outcome → State → Prop} {free : Nat → Nat → Prop} {b : Nat}
theorem ek_sat (X : ek_X p s m args meth c own cc nL ret Ts N D tys A B wr) {H : Heap} (hP : va_P D vwCl w H) (hD : va_D B w) (isC : List Nat) (hC : isC.map (fun i => w[i]?) = wc.map some) (hn : va_nd isC = true) : va_P D vwCl wc H ∧ va_D (fun _ => True) wc ∧ ∀ U : State, U.heap = H → s.WarmedH U.vm → ek_P D tys N av wc H.size av.toArray U := by
  have hf : isC.filterMap (fun i => w[i]?) = wc := by
    have h1 : (isC.map (fun i => w[i]?)).filterMap id = wc := by rw [hC, List.filterMap_map]; simp
    rw [List.filterMap_map] at h1
    exact h1
  have hPc := hP.sub isC hf
  have hDc : va_D (fun _ => True) wc := (hD.sub isC hn hC).weaken (fun _ _ _ _ => trivial)
  exact ⟨hPc, hDc, fun U hU hW => ⟨rfl, by rw [hU], by rw [hU]; exact hPc, va_K.moved hW.alike X.2.1, hDc, X.2.2.2.2.1.warm hW⟩⟩
theorem ek_runV {C : String} {T : u_T} {M0 : Nat} {fs : List Value} (X : ek_X p s m args meth c own cc nL ret Ts N D tys A B wr) (M : ∀ sz : Nat, Met l y cw rm (ek_P D tys N (.ref b :: As) wc sz) (Qc sz) rm.cells rm.slots (free sz)) (hG : GoodIn Ts (wsV own ix C y cw)) (hw : cw = Cond.code y bytes maxL rt :: cw') (hd : y.cls = C ∧ y.cls ≠ "java/lang/invoke/MethodHandle" ∧ y.cls ≠ "java/lang/invoke/VarHandle" ∧ (parseMethodDescriptor y.desc).map (fun d => d.parameters.length) = some As.length) (hR : rm.frames + 1 ≤ R.frames ∧ 8 + (maxL + 11) + rm.locals ≤ R.locals) (hk : k + rm.cells ≤ R.cells ∧ n + rm.slots ≤ R.slots) (isC : List Nat) (hC : isC.map (fun i => w[i]?) = wc.map some) (hn : va_nd isC = true) (q0 ci : Nat) (he : wc[q0]? = some (b, .inr (ci, fs))) (hc : vwCl[ci]? = some (C, T, M0)) (hst : (rest.map fun v => v.category).sum ≤ 8) (hdg : decode cc pc = .ok (.invokevirtual ix, 3)) : ek_Run p l e R s m args below meth c nL D B k n w pc lv (As.reverse ++ .ref b :: rest) rest rm.cells rm.slots (fun sz => Qc sz (Value.ref b :: As).toArray) free := by
  intro H locs ls hP hD hl
  obtain ⟨hPc, hDc, hs⟩ := ek_sat (av := .ref b :: As) X hP hD isC hC hn
  exact va_runV X.1 (M H.size) (cwV As.length X.1.2.2.2.2 hG hw rfl rfl hd hR) ⟨ek_P.blind, va_recv (q := (C, T, M0)) X.2.1 hPc hc he, hs⟩ rfl rfl hl.1 rfl (lv_room hst) hdg hk
theorem ek_runS (X : ek_X p s m args meth c own cc nL ret Ts N D tys A B wr) (M : ∀ sz : Nat, Met l y cw rm (ek_P D tys N As wc sz) (Qc sz) rm.cells rm.slots (free sz)) (hG : GoodIn Ts (va_wsS own ix y cw)) (hw : cw = Cond.code y bytes maxL rt :: cw') (hd : y.cls ≠ "java/lang/invoke/MethodHandle" ∧ y.cls ≠ "java/lang/invoke/VarHandle" ∧ (parseMethodDescriptor y.desc).map (fun d => d.parameters.length) = some As.length) (hR : rm.frames + 1 ≤ R.frames ∧ 8 + (maxL + 11) + rm.locals ≤ R.locals) (hk : k + rm.cells ≤ R.cells ∧ n + rm.slots ≤ R.slots) (isC : List Nat) (hC : isC.map (fun i => w[i]?) = wc.map some) (hn : va_nd isC = true) (hst : (rest.map fun v => v.category).sum ≤ 8) (hdg : decode cc pc = .ok (.invokestatic ix, 3)) : ek_Run p l e R s m args below meth c nL D B k n w pc lv (As.reverse ++ rest) rest rm.cells rm.slots (fun sz => Qc sz As.toArray) free := by
  intro H locs ls hP hD hl
  obtain ⟨hPc, hDc, hs⟩ := ek_sat (av := As) X hP hD isC hC hn
  exact va_runS X.1 (M H.size) (va_cwS As.length X.1.2.2.2.2 hG hw rfl rfl hd hR) ⟨ek_P.blind, hs⟩ rfl rfl hl.1 rfl (lv_room hst) hdg hk
theorem ek_runI (X : ek_X p s m args meth c own cc nL ret Ts N D tys A B wr) (M : ∀ sz : Nat, Met l y cw rm (ek_P D tys N (.ref b :: As) wc sz) (Qc sz) rm.cells rm.slots (free sz)) (hG : GoodIn Ts cw) (hw : cw = Cond.code y bytes maxL none :: cw') (h1 : Cond.initialized y.cls ∈ Ts) (h2 : Cond.methodLink own ix y ∈ Ts) (h3 : Cond.instanceMethod y ∈ Ts) (hy : y.name = "<init>") (hd : y.cls ≠ "java/lang/invoke/MethodHandle" ∧ y.cls ≠ "java/lang/invoke/VarHandle" ∧ (parseMethodDescriptor y.desc).map (fun d => d.parameters.length) = some As.length) (hR : rm.frames + 1 ≤ R.frames ∧ 8 + (maxL + 11) + rm.locals ≤ R.locals) (hk : k + rm.cells ≤ R.cells ∧ n + rm.slots ≤ R.slots) (isC : List Nat) (hC : isC.map (fun i => w[i]?) = wc.map some) (hn : va_nd isC = true) (hst : (rest.map fun v => v.category).sum ≤ 8) (hdg : decode cc pc = .ok (.invokespecial ix, 3)) : ek_Run p l e R s m args below meth c nL D B k n w pc lv (As.reverse ++ .ref b :: rest) rest rm.cells rm.slots (fun sz => Qc sz (Value.ref b :: As).toArray) free := by
  intro H locs ls hP hD hl
  obtain ⟨hPc, hDc, hs⟩ := ek_sat (av := .ref b :: As) X hP hD isC hC hn
  exact va_runI X.1 (M H.size) (cwI As.length X.1.2.2.2.2 hG hw rfl rfl (X.1.2.2.2.2 _ h1) (X.1.2.2.2.2 _ h2) (X.1.2.2.2.2 _ h3) hy hd hR) ⟨ek_P.blind, hs⟩ rfl rfl hl.1 rfl (lv_room hst) hdg hk
theorem ek_runVN {C host : String} {T : u_T} {M0 : Nat} {fs : List Value} (X : ek_X p s m args meth c own cc nL ret Ts N D tys A B wr) (M : ∀ sz : Nat, Met l y cw rm (ek_P D tys N (.ref b :: As) wc sz) (Qc sz) rm.cells rm.slots (free sz)) (hG : GoodIn Ts cw) (hw : cw = Cond.code y bytes maxL rt :: cw') (h0 : Cond.methodLinkNest own ix y host ∈ N) (h1 : Cond.initialized y.cls ∈ Ts) (h2 : Cond.instanceMethod y ∈ Ts) (h3 : Cond.selects C y y ∈ Ts) (hd : y.cls ≠ "java/lang/invoke/MethodHandle" ∧ y.cls ≠ "java/lang/invoke/VarHandle" ∧ (parseMethodDescriptor y.desc).map (fun d => d.parameters.length) = some As.length) (hR : rm.frames + 1 ≤ R.frames ∧ 8 + (maxL + 11) + rm.locals ≤ R.locals) (hk : k + rm.cells ≤ R.cells ∧ n + rm.slots ≤ R.slots) (isC : List Nat) (hC : isC.map (fun i => w[i]?) = wc.map some) (hn : va_nd isC = true) (q0 ci : Nat) (he : wc[q0]? = some (b, .inr (ci, fs))) (hc : vwCl[ci]? = some (C, T, M0)) (hst : (rest.map fun v => v.category).sum ≤ 8) (hdg : decode cc pc = .ok (.invokevirtual ix, 3)) : ek_Run p l e R s m args below meth c nL D B k n w pc lv (As.reverse ++ .ref b :: rest) rest rm.cells rm.slots (fun sz => Qc sz (Value.ref b :: As).toArray) free := by
  intro H locs ls hP hD hl
  obtain ⟨hPc, hDc, hs⟩ := ek_sat (av := .ref b :: As) X hP hD isC hC hn
  exact va_runVN X.1 (M H.size) ⟨va_cnB As.length X.1.2.2.2.2 hG hw rfl rfl (X.2.2.2.2.1.2 _ h0) (X.1.2.2.2.2 _ h1) hd hR, X.1.2.2.2.2 _ h2, X.1.2.2.2.2 _ h3⟩ ⟨ek_P.blind, va_recv (q := (C, T, M0)) X.2.1 hPc hc he, hs⟩ rfl rfl hl.1 rfl (lv_room hst) hdg hk
theorem ek_runSN {host : String} (X : ek_X p s m args meth c own cc nL ret Ts N D tys A B wr) (M : ∀ sz : Nat, Met l y cw rm (ek_P D tys N As wc sz) (Qc sz) rm.cells rm.slots (free sz)) (hG : GoodIn Ts cw) (hw : cw = Cond.code y bytes maxL rt :: cw') (h0 : Cond.methodLinkNest own ix y host ∈ N) (h1 : Cond.initialized y.cls ∈ Ts) (h2 : Cond.static y ∈ Ts) (hd : y.cls ≠ "java/lang/invoke/MethodHandle" ∧ y.cls ≠ "java/lang/invoke/VarHandle" ∧ (parseMethodDescriptor y.desc).map (fun d => d.parameters.length) = some As.length) (hR : rm.frames + 1 ≤ R.frames ∧ 8 + (maxL + 11) + rm.locals ≤ R.locals) (hk : k + rm.cells ≤ R.cells ∧ n + rm.slots ≤ R.slots) (isC : List Nat) (hC : isC.map (fun i => w[i]?) = wc.map some) (hn : va_nd isC = true) (hst : (rest.map fun v => v.category).sum ≤ 8) (hdg : decode cc pc = .ok (.invokestatic ix, 3)) : ek_Run p l e R s m args below meth c nL D B k n w pc lv (As.reverse ++ rest) rest rm.cells rm.slots (fun sz => Qc sz As.toArray) free := by
  intro H locs ls hP hD hl
  obtain ⟨hPc, hDc, hs⟩ := ek_sat (av := As) X hP hD isC hC hn
  exact va_runSN X.1 (M H.size) ⟨va_cnB As.length X.1.2.2.2.2 hG hw rfl rfl (X.2.2.2.2.1.2 _ h0) (X.1.2.2.2.2 _ h1) hd hR, X.1.2.2.2.2 _ h2, trivial⟩ ⟨ek_P.blind, hs⟩ rfl rfl hl.1 rfl (lv_room hst) hdg hk
theorem ek_runIN {host : String} (X : ek_X p s m args meth c own cc nL ret Ts N D tys A B wr) (M : ∀ sz : Nat, Met l y cw rm (ek_P D tys N (.ref b :: As) wc sz) (Qc sz) rm.cells rm.slots (free sz)) (hG : GoodIn Ts cw) (hw : cw = Cond.code y bytes maxL none :: cw') (h0 : Cond.methodLinkNest own ix y host ∈ N) (h1 : Cond.initialized y.cls ∈ Ts) (h2 : Cond.instanceMethod y ∈ Ts) (hy : y.name = "<init>") (hd : y.cls ≠ "java/lang/invoke/MethodHandle" ∧ y.cls ≠ "java/lang/invoke/VarHandle" ∧ (parseMethodDescriptor y.desc).map (fun d => d.parameters.length) = some As.length) (hR : rm.frames + 1 ≤ R.frames ∧ 8 + (maxL + 11) + rm.locals ≤ R.locals) (hk : k + rm.cells ≤ R.cells ∧ n + rm.slots ≤ R.slots) (isC : List Nat) (hC : isC.map (fun i => w[i]?) = wc.map some) (hn : va_nd isC = true) (hst : (rest.map fun v => v.category).sum ≤ 8) (hdg : decode cc pc = .ok (.invokespecial ix, 3)) : ek_Run p l e R s m args below meth c nL D B k n w pc lv (As.reverse ++ .ref b :: rest) rest rm.cells rm.slots (fun sz => Qc sz (Value.ref b :: As).toArray) free := by
  intro H locs ls hP hD hl
  obtain ⟨hPc, hDc, hs⟩ := ek_sat (av := .ref b :: As) X hP hD isC hC hn
  exact va_runIN X.1 (M H.size) ⟨va_cnB As.length X.1.2.2.2.2 hG hw rfl rfl (X.2.2.2.2.1.2 _ h0) (X.1.2.2.2.2 _ h1) hd hR, hy, X.1.2.2.2.2 _ h2⟩ ⟨ek_P.blind, hs⟩ rfl rfl hl.1 rfl (lv_room hst) hdg hk
end EKR
/-- behind a call that leaves the world as it is -/
theorem ek_doR {post : Option Value → Prop} {mc ms : Nat} {a : Array Value} {st0 : List Value} (hr : ek_Run p l e R s m args below meth c nL D B k n w pc lv st0 rest mc ms (fun _ => ek_Qr post a) (fun _ _ => False))
    (kk : ∀ r : Option Value, post r → ek_G p l e R s m args below meth c nL D A B (k + mc) (n + ms) Q w (pc + 3) lv (r.toList ++ rest)) : ek_G p l e R s m args below meth c nL D A B k n Q w pc lv st0 := by
  intro H locs ls hP hD hS hl T hT Xs
  obtain ⟨v, st₀, t, T', L, h0, X', hL, e1, e2, ⟨⟨r, hv, hp⟩, hz, hk⟩, st⟩ := hr H locs ls hP hD hl T hT Xs
  cases hv
  rw [h0] at hz hk
  have hk1 : ∀ q : Nat, q < H.size → T'.heap[q]? = H[q]? := fun q h => by rw [e1]; exact hk q h (fun h => h)
  have hL0 : L = [] := List.eq_nil_iff_forall_not_mem.mpr (fun q h => hL q h)
  subst hL0
  obtain ⟨t2, a1, b1⟩ := kk v hp T'.heap (locs ++ []) ls (hP.kept (fun i q hi => hk1 q.1 ((hP i q hi).lt))) hD ⟨Nat.le_trans hS.1 (by rw [e1]; exact hz), fun q h1 h2 => (hk1 q (Nat.lt_of_lt_of_le h1 hS.1)).trans (hS.2.1 q h1 h2), fun q hq => hS.2.2 q (by simpa using hq)⟩ hl T' rfl X'
  exact ⟨t2, st t2 a1, b1⟩
theorem ek_doRi {post : Int32 → Prop} {a : Array Value} {st0 : List Value} (hr : ek_Run p l e R s m args below meth c nL D B k n w pc lv st0 rest 0 0 (fun _ => ek_Qr (fun r => ∃ v : Int32, r = some (.int v) ∧ post v) a) (fun _ _ => False))
    (kk : ∀ v : Int32, post v → ek_G p l e R s m args below meth c nL D A B k n Q w (pc + 3) lv (.int v :: rest)) : ek_G p l e R s m args below meth c nL D A B k n Q w pc lv st0 := ek_doR hr (fun r h => by obtain ⟨v, rfl, hp⟩ := h; exact kk v hp)
/-- behind a call that changes its part wc of the world; the rest is wr; both lie where they lay -/
theorem ek_doW {S : Type} {post : Option Value → S → Prop} {W' : S → va_W} {wc wr0 : va_W} {mc ms : Nat} {a : Array Value} {st0 : List Value} (X : ek_X p s m args meth c own cc nL ret Ts N D tys A B True) (hr : ek_Run p l e R s m args below meth c nL D B k n w pc lv st0 rest mc ms (fun sz => ek_Q D (va_A wc sz) post W' a) (fun sz => va_A wc sz))
    (isC isR : List Nat) (hC : isC.map (fun i => w[i]?) = wc.map some) (hR : isR.map (fun i => w[i]?) = wr0.map some) (hn : va_nd isR = true) (hdis : ∀ i ∈ isR, i ∉ isC) (w2 : S → va_W) (is2 : List Nat) (hn2 : va_nd is2 = true) (h2 : ∀ u : S, is2.map (fun i => (wr0 ++ W' u)[i]?) = (w2 u).map some)
    (kk : ∀ (r : Option Value) (u : S), post r u → ek_G p l e R s m args below meth c nL D A B (k + mc) (n + ms) Q (w2 u) (pc + 3) lv (r.toList ++ rest)) : ek_G p l e R s m args below meth c nL D A B k n Q w pc lv st0 := by
  intro H locs ls hP hD hS hl T hT Xs
  have hBA := (X.2.2.2.2.2 trivial).1
  have hDA : va_D A w := hD.weaken (fun _ x _ h => (hBA x.1).mp h)
  have hF := va_free (wc := wc) hDA hS (X.2.2.2.2.2 trivial).2 isC hC
  obtain ⟨v, st₀, t, T', L, h0, X', hL, e1, e2, ⟨⟨r, u, hv, hp, hP1, hD1⟩, hz, hk⟩, st⟩ := hr H locs ls hP hD hl T hT Xs
  cases hv
  rw [h0] at hz hk
  rw [← e1] at hz hP1
  have hk1 : ∀ q : Nat, q < H.size → ¬ va_A wc H.size q → T'.heap[q]? = H[q]? := fun q h1 h2 => by rw [e1]; exact hk q h1 h2
  obtain ⟨hPj, hDj⟩ := va_join hP hDA isC isR hC hR hn hdis hk1 hF hP1 hD1
  have hf2 : is2.filterMap (fun i => (wr0 ++ W' u)[i]?) = w2 u := by
    have h1 : (is2.map (fun i => (wr0 ++ W' u)[i]?)).filterMap id = w2 u := by rw [h2 u, List.filterMap_map]; simp
    rw [List.filterMap_map] at h1
    exact h1
  obtain ⟨t2, a1, b1⟩ := kk v u hp T'.heap (locs ++ L) ls (hPj.sub is2 hf2) ((hDj.sub is2 hn2 (h2 u)).weaken (fun _ x _ h => (hBA x.1).mpr h)) ⟨Nat.le_trans hS.1 hz, fun q h1 h2 => (hk1 q (Nat.lt_of_lt_of_le h1 hS.1) (fun z => h2 (hF q z))).trans (hS.2.1 q h1 h2), fun q hq => by
    rcases List.mem_append.mp hq with h | h
    · exact hS.2.2 q h
    · exact hF _ (hL q h)⟩ hl T' rfl X'
  exact ⟨t2, st t2 a1, b1⟩
theorem ek_doWi {S : Type} {post : Int32 → S → Prop} {W' : S → va_W} {wc wr0 : va_W} {a : Array Value} {st0 : List Value} (X : ek_X p s m args meth c own cc nL ret Ts N D tys A B True) (hr : ek_Run p l e R s m args below meth c nL D B k n w pc lv st0 rest 0 0 (fun sz => ek_Q D (va_A wc sz) (fun r u => ∃ v : Int32, r = some (.int v) ∧ post v u) W' a) (fun sz => va_A wc sz))
    (isC isR : List Nat) (hC : isC.map (fun i => w[i]?) = wc.map some) (hR : isR.map (fun i => w[i]?) = wr0.map some) (hn : va_nd isR = true) (hdis : ∀ i ∈ isR, i ∉ isC) (w2 : S → va_W) (is2 : List Nat) (hn2 : va_nd is2 = true) (h2 : ∀ u : S, is2.map (fun i => (wr0 ++ W' u)[i]?) = (w2 u).map some)
    (kk : ∀ (v : Int32) (u : S), post v u → ek_G p l e R s m args below meth c nL D A B k n Q (w2 u) (pc + 3) lv (.int v :: rest)) : ek_G p l e R s m args below meth c nL D A B k n Q w pc lv st0 := ek_doW X hr isC isR hC hR hn hdis w2 is2 hn2 h2 (fun r u h => by obtain ⟨v, rfl, hp⟩ := h; exact kk v u hp)
theorem ek_doWv {S : Type} {post : S → Prop} {W' : S → va_W} {wc wr0 : va_W} {a : Array Value} {st0 : List Value} (X : ek_X p s m args meth c own cc nL ret Ts N D tys A B True) (hr : ek_Run p l e R s m args below meth c nL D B k n w pc lv st0 rest 0 0 (fun sz => ek_Q D (va_A wc sz) (fun r u => r = none ∧ post u) W' a) (fun sz => va_A wc sz))
    (isC isR : List Nat) (hC : isC.map (fun i => w[i]?) = wc.map some) (hR : isR.map (fun i => w[i]?) = wr0.map some) (hn : va_nd isR = true) (hdis : ∀ i ∈ isR, i ∉ isC) (w2 : S → va_W) (is2 : List Nat) (hn2 : va_nd is2 = true) (h2 : ∀ u : S, is2.map (fun i => (wr0 ++ W' u)[i]?) = (w2 u).map some)
    (kk : ∀ u : S, post u → ek_G p l e R s m args below meth c nL D A B k n Q (w2 u) (pc + 3) lv rest) : ek_G p l e R s m args below meth c nL D A B k n Q w pc lv st0 := ek_doW X hr isC isR hC hR hn hdis w2 is2 hn2 h2 (fun r u h => by obtain ⟨rfl, hp⟩ := h; exact kk u hp)
end EKG
end
