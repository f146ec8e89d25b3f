/-! ===== pure facts: a reference's word keeps its places and its number ===== -/
abbrev tKp (t t' : MsnT) : Prop := tPl t' = tPl t ∧ tWo t' = tWo t
theorem tKp.trans {a b c : MsnT} (h : tKp a b) (h2 : tKp b c) : tKp a c := ⟨h2.1.trans h.1, h2.2.trans h.2⟩
theorem tCome_keep (x c r b z : Nat) (t : MsnT) : tKp t (tCome x c r b z t) := by
  unfold tCome
  split <;> exact ⟨rfl, rfl⟩
theorem tGo_keep (m : MdlT) (x c r p z : Nat) (t : MsnT) : tKp t (tGo m x c r p z t) := by
  unfold tGo
  split
  · split
    · exact ⟨rfl, rfl⟩
    · exact tCome_keep _ _ _ _ _ (tThS t r (tTh t r ||| 2 ^ p))
  · split
    · exact ⟨rfl, rfl⟩
    · exact tCome_keep _ _ _ _ _ (tBaS t r (tBa t r ||| 2 ^ p))
theorem tMay_keep (m : MdlT) (n z : Nat) (t : MsnT) : tKp t (tMay m n z t) := by
  unfold tMay
  split
  · unfold tHear
    split
    · exact ⟨rfl, rfl⟩
    · split <;> exact ⟨rfl, rfl⟩
  · exact ⟨rfl, rfl⟩
theorem tStart_keep (x c p y z : Nat) (t : MsnT) : tKp t (tStart x c p y z t) := by
  rw [show tStart x c p y z t = tCome x c (tRu t) 0 z (tMore (tNew p y t)) from tMore_come _ _ _ _ _ _]
  exact tCome_keep _ _ _ _ _ (tMore (tNew p y t))
theorem tClap_keep (m : MdlT) (x c r : Nat) (t : MsnT) : tKp t (tClap m x c r t) := by
  unfold tClap
  split
  · split
    · exact ⟨rfl, rfl⟩
    · exact tStart_keep _ _ _ _ _ (tSet t c)
  · exact ⟨rfl, rfl⟩
theorem tGos_keep (m : MdlT) (c r b x z : Nat) (t : MsnT) : ∀ p, tKp t (tGos m c r b x z t p)
  | 0 => ⟨rfl, rfl⟩
  | p + 1 => by
    show tKp t (tGosS m c r b x z p (tGos m c r b x z t p))
    unfold tGosS
    split
    · exact (tGos_keep m c r b x z t p).trans (tGo_keep _ _ _ _ _ _ _)
    · exact tGos_keep m c r b x z t p
theorem tRest_keep (m : MdlT) (n z : Nat) (t : MsnT) : tKp t (tRest m n z t) := by
  unfold tRest
  split
  · exact tGo_keep _ _ _ _ _ _ _
  · exact ⟨rfl, rfl⟩
theorem tArr_keep (m : MdlT) (n z : Nat) (t : MsnT) : tKp t (tArr m n z t) := by
  unfold tArr
  split
  · exact tMay_keep m n z t
  · exact (((tMay_keep m n z t).trans (tClap_keep _ _ _ _ _)).trans (tGos_keep _ _ _ _ _ _ _ _)).trans (tRest_keep _ _ _ _)
theorem tLoop_keep (m : MdlT) : ∀ (f : Nat) (t : MsnT), tKp t (tLoop m f t)
  | 0, _ => ⟨rfl, rfl⟩
  | f + 1, t => by
    unfold tLoop
    split
    · exact ⟨rfl, rfl⟩
    · exact (show tKp t (tArr m (tOd t (tWa t - 1)) (tPw t (tWa t - 1)) (tDec t)) from tArr_keep m _ _ (tDec t)).trans (tLoop_keep m f _)
theorem tSay_keep (n k b : Nat) (t : MsnT) : ∀ i, tKp t (tSay n k b t i)
  | 0 => ⟨rfl, rfl⟩
  | i + 1 => (tSay_keep n k b t i).trans (tStart_keep _ _ _ _ _ _)
theorem tThrough_keep (m : MdlT) (n b : Nat) (t : MsnT) : tPl (tThrough m n b t) = dgs 6 n ∧ tWo (tThrough m n b t) = n := (tSay_keep n (dgs 6 n) b (tZero n t) (dgs 6 n)).trans (tLoop_keep m 629 _)
