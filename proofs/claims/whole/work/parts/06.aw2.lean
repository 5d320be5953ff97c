section AWP
variable {σ : Type} {p : Program} {l : Launch} {e : Env} {R : Room} {s : State} {m : MethodId} {args : Array Value} {below : List Frame} {meth : Method} {c : Code} {sk : (Nat → Nat) × (Nat → Nat)} {D : va_G} {cy : Nat → ClassId} {A0 : Nat → Prop} {own : String} {cc : ByteArray} {nL cells slots : Nat} {Q : State → Prop} {pc : Nat} {lo : List (Option Value)} {st : List Value} {wd : σ → va_W} {M : σ}

def c1 : Option Value → Bool
  | some v => v.category == 1
  | none => true
theorem hs_pos (pre r : List (Option Value)) (old : Option Value) (v : Value) (hc : ∀ u, pre.getLast? = some u → c1 u = true) : ∀ (i : Nat) (u : Value), (pre ++ some v :: r)[i]? = some (some u) → (i = pre.length ∧ u = v) ∨ (i ≠ pre.length ∧ (pre ++ old :: r)[i]? = some (some u) ∧ (i + 1 = pre.length → u.category = 1)) := by
  intro i u h
  by_cases hi : i < pre.length
  · rw [List.getElem?_append_left hi] at h
    refine Or.inr ⟨by omega, by rw [List.getElem?_append_left hi]; exact h, fun e1 => ?_⟩
    have h2 : pre.getLast? = some (some u) := by
      rw [List.getLast?_eq_getElem?, ← e1]
      exact h
    have := hc _ h2
    simpa [c1] using this
  · rw [List.getElem?_append_right (by omega)] at h
    by_cases hz : i - pre.length = 0
    · rw [hz, List.getElem?_cons_zero] at h
      cases h
      exact Or.inl ⟨by omega, rfl⟩
    · obtain ⟨k, hk⟩ : ∃ k, i - pre.length = k + 1 := ⟨i - pre.length - 1, by omega⟩
      rw [hk, List.getElem?_cons_succ] at h
      refine Or.inr ⟨by omega, ?_, fun e1 => by omega⟩
      rw [List.getElem?_append_right (by omega), hk, List.getElem?_cons_succ]
      exact h
theorem hs_posL (pre r : List (Option Value)) (o1 o2 : Option Value) (v : Value) (hc : ∀ u, pre.getLast? = some u → c1 u = true) : ∀ (i : Nat) (u : Value), (pre ++ some v :: none :: r)[i]? = some (some u) → (i = pre.length ∧ u = v) ∨ (i ≠ pre.length ∧ i ≠ pre.length + 1 ∧ (pre ++ o1 :: o2 :: r)[i]? = some (some u) ∧ (i + 1 = pre.length → u.category = 1)) := by
  intro i u h
  by_cases hi : i < pre.length
  · rw [List.getElem?_append_left hi] at h
    refine Or.inr ⟨by omega, by omega, by rw [List.getElem?_append_left hi]; exact h, fun e1 => ?_⟩
    have h2 : pre.getLast? = some (some u) := by
      rw [List.getLast?_eq_getElem?, ← e1]
      exact h
    have := hc _ h2
    simpa [c1] using this
  · rw [List.getElem?_append_right (by omega)] at h
    by_cases hz : i - pre.length = 0
    · rw [hz, List.getElem?_cons_zero] at h
      cases h
      exact Or.inl ⟨by omega, rfl⟩
    · by_cases hz1 : i - pre.length = 1
      · rw [hz1] at h
        simp at h
      · obtain ⟨k, hk⟩ : ∃ k, i - pre.length = k + 2 := ⟨i - pre.length - 2, by omega⟩
        rw [hk] at h
        refine Or.inr ⟨by omega, by omega, ?_, fun e1 => by omega⟩
        rw [List.getElem?_append_right (by omega), hk]
        simpa using h

theorem p_istore0  {o : Option Value} {r : List (Option Value)} {v : Int32} (B : BS sk D cy wd A0 p s m args c own cc nL) (hdg : decode cc pc = .ok (.istore_n 0, 1)) (hn : 0 < nL)  (k : AW p l e R s m args below meth c D wd A0 nL cells slots Q (pc + 1) (some (.int v) :: r) (st) (M)) : AW p l e R s m args below meth c D wd A0 nL cells slots Q (pc) (o :: r) (.int v :: st) (M) :=
  s_istore_n B hdg hn (hs_pos [] r o (.int v) (fun u h => by cases h)) k
theorem p_astore0  {o : Option Value} {r : List (Option Value)} {v : Nat} (B : BS sk D cy wd A0 p s m args c own cc nL) (hdg : decode cc pc = .ok (.astore_n 0, 1)) (hn : 0 < nL)  (k : AW p l e R s m args below meth c D wd A0 nL cells slots Q (pc + 1) (some (.ref v) :: r) (st) (M)) : AW p l e R s m args below meth c D wd A0 nL cells slots Q (pc) (o :: r) (.ref v :: st) (M) :=
  s_astore_n B hdg hn (hs_pos [] r o (.ref v) (fun u h => by cases h)) k
theorem p_astoreN0  {o : Option Value} {r : List (Option Value)}  (B : BS sk D cy wd A0 p s m args c own cc nL) (hdg : decode cc pc = .ok (.astore_n 0, 1)) (hn : 0 < nL)  (k : AW p l e R s m args below meth c D wd A0 nL cells slots Q (pc + 1) (some (.null) :: r) (st) (M)) : AW p l e R s m args below meth c D wd A0 nL cells slots Q (pc) (o :: r) (.null :: st) (M) :=
  s_astore_nN B hdg hn (hs_pos [] r o (.null) (fun u h => by cases h)) k
theorem p_lstore0  {o o2 : Option Value} {r : List (Option Value)} {v : Int64} (B : BS sk D cy wd A0 p s m args c own cc nL) (hdg : decode cc pc = .ok (.lstore_n 0, 1)) (hn : 0 + 1 < nL)  (k : AW p l e R s m args below meth c D wd A0 nL cells slots Q (pc + 1) (some (.long v) :: none :: r) (st) (M)) : AW p l e R s m args below meth c D wd A0 nL cells slots Q (pc) (o :: o2 :: r) (.long v :: st) (M) :=
  s_lstore_n B hdg hn (hs_posL [] r o o2 (.long v) (fun u h => by cases h)) k
theorem p_iinc0  {r : List (Option Value)} {x : Int32} {n : Int} (v : Int32) (B : BS sk D cy wd A0 p s m args c own cc nL) (hdg : decode cc pc = .ok (.iinc 0 n, 3)) (hn : 0 < nL) (hv : Int32.ofInt n = v)  (k : AW p l e R s m args below meth c D wd A0 nL cells slots Q (pc + 3) (some (.int (x + v)) :: r) (st) (M)) : AW p l e R s m args below meth c D wd A0 nL cells slots Q (pc) (some (.int x) :: r) (st) (M) :=
  s_iinc B hdg (by rfl) (by rw [hv]) hn (hs_pos [] r (some (.int x)) (.int (x + v)) (fun u h => by cases h)) k
theorem p_istore1 {x0 : Option Value} {o : Option Value} {r : List (Option Value)} {v : Int32} (B : BS sk D cy wd A0 p s m args c own cc nL) (hdg : decode cc pc = .ok (.istore_n 1, 1)) (hn : 1 < nL) (hc : c1 x0 = true := by rfl) (k : AW p l e R s m args below meth c D wd A0 nL cells slots Q (pc + 1) (x0 :: some (.int v) :: r) (st) (M)) : AW p l e R s m args below meth c D wd A0 nL cells slots Q (pc) (x0 :: o :: r) (.int v :: st) (M) :=
  s_istore_n B hdg hn (hs_pos [x0] r o (.int v) (fun u h => by cases h; exact hc)) k
theorem p_astore1 {x0 : Option Value} {o : Option Value} {r : List (Option Value)} {v : Nat} (B : BS sk D cy wd A0 p s m args c own cc nL) (hdg : decode cc pc = .ok (.astore_n 1, 1)) (hn : 1 < nL) (hc : c1 x0 = true := by rfl) (k : AW p l e R s m args below meth c D wd A0 nL cells slots Q (pc + 1) (x0 :: some (.ref v) :: r) (st) (M)) : AW p l e R s m args below meth c D wd A0 nL cells slots Q (pc) (x0 :: o :: r) (.ref v :: st) (M) :=
  s_astore_n B hdg hn (hs_pos [x0] r o (.ref v) (fun u h => by cases h; exact hc)) k
theorem p_astoreN1 {x0 : Option Value} {o : Option Value} {r : List (Option Value)}  (B : BS sk D cy wd A0 p s m args c own cc nL) (hdg : decode cc pc = .ok (.astore_n 1, 1)) (hn : 1 < nL) (hc : c1 x0 = true := by rfl) (k : AW p l e R s m args below meth c D wd A0 nL cells slots Q (pc + 1) (x0 :: some (.null) :: r) (st) (M)) : AW p l e R s m args below meth c D wd A0 nL cells slots Q (pc) (x0 :: o :: r) (.null :: st) (M) :=
  s_astore_nN B hdg hn (hs_pos [x0] r o (.null) (fun u h => by cases h; exact hc)) k
theorem p_lstore1 {x0 : Option Value} {o o2 : Option Value} {r : List (Option Value)} {v : Int64} (B : BS sk D cy wd A0 p s m args c own cc nL) (hdg : decode cc pc = .ok (.lstore_n 1, 1)) (hn : 1 + 1 < nL) (hc : c1 x0 = true := by rfl) (k : AW p l e R s m args below meth c D wd A0 nL cells slots Q (pc + 1) (x0 :: some (.long v) :: none :: r) (st) (M)) : AW p l e R s m args below meth c D wd A0 nL cells slots Q (pc) (x0 :: o :: o2 :: r) (.long v :: st) (M) :=
  s_lstore_n B hdg hn (hs_posL [x0] r o o2 (.long v) (fun u h => by cases h; exact hc)) k
theorem p_iinc1 {x0 : Option Value} {r : List (Option Value)} {x : Int32} {n : Int} (v : Int32) (B : BS sk D cy wd A0 p s m args c own cc nL) (hdg : decode cc pc = .ok (.iinc 1 n, 3)) (hn : 1 < nL) (hv : Int32.ofInt n = v) (hc : c1 x0 = true := by rfl) (k : AW p l e R s m args below meth c D wd A0 nL cells slots Q (pc + 3) (x0 :: some (.int (x + v)) :: r) (st) (M)) : AW p l e R s m args below meth c D wd A0 nL cells slots Q (pc) (x0 :: some (.int x) :: r) (st) (M) :=
  s_iinc B hdg (by rfl) (by rw [hv]) hn (hs_pos [x0] r (some (.int x)) (.int (x + v)) (fun u h => by cases h; exact hc)) k
theorem p_istore2 {x0 : Option Value} {x1 : Option Value} {o : Option Value} {r : List (Option Value)} {v : Int32} (B : BS sk D cy wd A0 p s m args c own cc nL) (hdg : decode cc pc = .ok (.istore_n 2, 1)) (hn : 2 < nL) (hc : c1 x1 = true := by rfl) (k : AW p l e R s m args below meth c D wd A0 nL cells slots Q (pc + 1) (x0 :: x1 :: some (.int v) :: r) (st) (M)) : AW p l e R s m args below meth c D wd A0 nL cells slots Q (pc) (x0 :: x1 :: o :: r) (.int v :: st) (M) :=
  s_istore_n B hdg hn (hs_pos [x0, x1] r o (.int v) (fun u h => by cases h; exact hc)) k
theorem p_astore2 {x0 : Option Value} {x1 : Option Value} {o : Option Value} {r : List (Option Value)} {v : Nat} (B : BS sk D cy wd A0 p s m args c own cc nL) (hdg : decode cc pc = .ok (.astore_n 2, 1)) (hn : 2 < nL) (hc : c1 x1 = true := by rfl) (k : AW p l e R s m args below meth c D wd A0 nL cells slots Q (pc + 1) (x0 :: x1 :: some (.ref v) :: r) (st) (M)) : AW p l e R s m args below meth c D wd A0 nL cells slots Q (pc) (x0 :: x1 :: o :: r) (.ref v :: st) (M) :=
  s_astore_n B hdg hn (hs_pos [x0, x1] r o (.ref v) (fun u h => by cases h; exact hc)) k
theorem p_astoreN2 {x0 : Option Value} {x1 : Option Value} {o : Option Value} {r : List (Option Value)}  (B : BS sk D cy wd A0 p s m args c own cc nL) (hdg : decode cc pc = .ok (.astore_n 2, 1)) (hn : 2 < nL) (hc : c1 x1 = true := by rfl) (k : AW p l e R s m args below meth c D wd A0 nL cells slots Q (pc + 1) (x0 :: x1 :: some (.null) :: r) (st) (M)) : AW p l e R s m args below meth c D wd A0 nL cells slots Q (pc) (x0 :: x1 :: o :: r) (.null :: st) (M) :=
  s_astore_nN B hdg hn (hs_pos [x0, x1] r o (.null) (fun u h => by cases h; exact hc)) k
theorem p_lstore2 {x0 : Option Value} {x1 : Option Value} {o o2 : Option Value} {r : List (Option Value)} {v : Int64} (B : BS sk D cy wd A0 p s m args c own cc nL) (hdg : decode cc pc = .ok (.lstore_n 2, 1)) (hn : 2 + 1 < nL) (hc : c1 x1 = true := by rfl) (k : AW p l e R s m args below meth c D wd A0 nL cells slots Q (pc + 1) (x0 :: x1 :: some (.long v) :: none :: r) (st) (M)) : AW p l e R s m args below meth c D wd A0 nL cells slots Q (pc) (x0 :: x1 :: o :: o2 :: r) (.long v :: st) (M) :=
  s_lstore_n B hdg hn (hs_posL [x0, x1] r o o2 (.long v) (fun u h => by cases h; exact hc)) k
theorem p_iinc2 {x0 : Option Value} {x1 : Option Value} {r : List (Option Value)} {x : Int32} {n : Int} (v : Int32) (B : BS sk D cy wd A0 p s m args c own cc nL) (hdg : decode cc pc = .ok (.iinc 2 n, 3)) (hn : 2 < nL) (hv : Int32.ofInt n = v) (hc : c1 x1 = true := by rfl) (k : AW p l e R s m args below meth c D wd A0 nL cells slots Q (pc + 3) (x0 :: x1 :: some (.int (x + v)) :: r) (st) (M)) : AW p l e R s m args below meth c D wd A0 nL cells slots Q (pc) (x0 :: x1 :: some (.int x) :: r) (st) (M) :=
  s_iinc B hdg (by rfl) (by rw [hv]) hn (hs_pos [x0, x1] r (some (.int x)) (.int (x + v)) (fun u h => by cases h; exact hc)) k
theorem p_istore3 {x0 : Option Value} {x1 : Option Value} {x2 : Option Value} {o : Option Value} {r : List (Option Value)} {v : Int32} (B : BS sk D cy wd A0 p s m args c own cc nL) (hdg : decode cc pc = .ok (.istore_n 3, 1)) (hn : 3 < nL) (hc : c1 x2 = true := by rfl) (k : AW p l e R s m args below meth c D wd A0 nL cells slots Q (pc + 1) (x0 :: x1 :: x2 :: some (.int v) :: r) (st) (M)) : AW p l e R s m args below meth c D wd A0 nL cells slots Q (pc) (x0 :: x1 :: x2 :: o :: r) (.int v :: st) (M) :=
  s_istore_n B hdg hn (hs_pos [x0, x1, x2] r o (.int v) (fun u h => by cases h; exact hc)) k
theorem p_astore3 {x0 : Option Value} {x1 : Option Value} {x2 : Option Value} {o : Option Value} {r : List (Option Value)} {v : Nat} (B : BS sk D cy wd A0 p s m args c own cc nL) (hdg : decode cc pc = .ok (.astore_n 3, 1)) (hn : 3 < nL) (hc : c1 x2 = true := by rfl) (k : AW p l e R s m args below meth c D wd A0 nL cells slots Q (pc + 1) (x0 :: x1 :: x2 :: some (.ref v) :: r) (st) (M)) : AW p l e R s m args below meth c D wd A0 nL cells slots Q (pc) (x0 :: x1 :: x2 :: o :: r) (.ref v :: st) (M) :=
  s_astore_n B hdg hn (hs_pos [x0, x1, x2] r o (.ref v) (fun u h => by cases h; exact hc)) k
theorem p_astoreN3 {x0 : Option Value} {x1 : Option Value} {x2 : Option Value} {o : Option Value} {r : List (Option Value)}  (B : BS sk D cy wd A0 p s m args c own cc nL) (hdg : decode cc pc = .ok (.astore_n 3, 1)) (hn : 3 < nL) (hc : c1 x2 = true := by rfl) (k : AW p l e R s m args below meth c D wd A0 nL cells slots Q (pc + 1) (x0 :: x1 :: x2 :: some (.null) :: r) (st) (M)) : AW p l e R s m args below meth c D wd A0 nL cells slots Q (pc) (x0 :: x1 :: x2 :: o :: r) (.null :: st) (M) :=
  s_astore_nN B hdg hn (hs_pos [x0, x1, x2] r o (.null) (fun u h => by cases h; exact hc)) k
theorem p_lstore3 {x0 : Option Value} {x1 : Option Value} {x2 : Option Value} {o o2 : Option Value} {r : List (Option Value)} {v : Int64} (B : BS sk D cy wd A0 p s m args c own cc nL) (hdg : decode cc pc = .ok (.lstore_n 3, 1)) (hn : 3 + 1 < nL) (hc : c1 x2 = true := by rfl) (k : AW p l e R s m args below meth c D wd A0 nL cells slots Q (pc + 1) (x0 :: x1 :: x2 :: some (.long v) :: none :: r) (st) (M)) : AW p l e R s m args below meth c D wd A0 nL cells slots Q (pc) (x0 :: x1 :: x2 :: o :: o2 :: r) (.long v :: st) (M) :=
  s_lstore_n B hdg hn (hs_posL [x0, x1, x2] r o o2 (.long v) (fun u h => by cases h; exact hc)) k
theorem p_iinc3 {x0 : Option Value} {x1 : Option Value} {x2 : Option Value} {r : List (Option Value)} {x : Int32} {n : Int} (v : Int32) (B : BS sk D cy wd A0 p s m args c own cc nL) (hdg : decode cc pc = .ok (.iinc 3 n, 3)) (hn : 3 < nL) (hv : Int32.ofInt n = v) (hc : c1 x2 = true := by rfl) (k : AW p l e R s m args below meth c D wd A0 nL cells slots Q (pc + 3) (x0 :: x1 :: x2 :: some (.int (x + v)) :: r) (st) (M)) : AW p l e R s m args below meth c D wd A0 nL cells slots Q (pc) (x0 :: x1 :: x2 :: some (.int x) :: r) (st) (M) :=
  s_iinc B hdg (by rfl) (by rw [hv]) hn (hs_pos [x0, x1, x2] r (some (.int x)) (.int (x + v)) (fun u h => by cases h; exact hc)) k
theorem p_istore4 {x0 : Option Value} {x1 : Option Value} {x2 : Option Value} {x3 : Option Value} {o : Option Value} {r : List (Option Value)} {v : Int32} (B : BS sk D cy wd A0 p s m args c own cc nL) (hdg : decode cc pc = .ok (.istore 4, 2)) (hn : 4 < nL) (hc : c1 x3 = true := by rfl) (k : AW p l e R s m args below meth c D wd A0 nL cells slots Q (pc + 2) (x0 :: x1 :: x2 :: x3 :: some (.int v) :: r) (st) (M)) : AW p l e R s m args below meth c D wd A0 nL cells slots Q (pc) (x0 :: x1 :: x2 :: x3 :: o :: r) (.int v :: st) (M) :=
  s_istore B hdg hn (hs_pos [x0, x1, x2, x3] r o (.int v) (fun u h => by cases h; exact hc)) k
theorem p_astore4 {x0 : Option Value} {x1 : Option Value} {x2 : Option Value} {x3 : Option Value} {o : Option Value} {r : List (Option Value)} {v : Nat} (B : BS sk D cy wd A0 p s m args c own cc nL) (hdg : decode cc pc = .ok (.astore 4, 2)) (hn : 4 < nL) (hc : c1 x3 = true := by rfl) (k : AW p l e R s m args below meth c D wd A0 nL cells slots Q (pc + 2) (x0 :: x1 :: x2 :: x3 :: some (.ref v) :: r) (st) (M)) : AW p l e R s m args below meth c D wd A0 nL cells slots Q (pc) (x0 :: x1 :: x2 :: x3 :: o :: r) (.ref v :: st) (M) :=
  s_astore B hdg hn (hs_pos [x0, x1, x2, x3] r o (.ref v) (fun u h => by cases h; exact hc)) k
theorem p_astoreN4 {x0 : Option Value} {x1 : Option Value} {x2 : Option Value} {x3 : Option Value} {o : Option Value} {r : List (Option Value)}  (B : BS sk D cy wd A0 p s m args c own cc nL) (hdg : decode cc pc = .ok (.astore 4, 2)) (hn : 4 < nL) (hc : c1 x3 = true := by rfl) (k : AW p l e R s m args below meth c D wd A0 nL cells slots Q (pc + 2) (x0 :: x1 :: x2 :: x3 :: some (.null) :: r) (st) (M)) : AW p l e R s m args below meth c D wd A0 nL cells slots Q (pc) (x0 :: x1 :: x2 :: x3 :: o :: r) (.null :: st) (M) :=
  s_astoreN B hdg hn (hs_pos [x0, x1, x2, x3] r o (.null) (fun u h => by cases h; exact hc)) k
theorem p_lstore4 {x0 : Option Value} {x1 : Option Value} {x2 : Option Value} {x3 : Option Value} {o o2 : Option Value} {r : List (Option Value)} {v : Int64} (B : BS sk D cy wd A0 p s m args c own cc nL) (hdg : decode cc pc = .ok (.lstore 4, 2)) (hn : 4 + 1 < nL) (hc : c1 x3 = true := by rfl) (k : AW p l e R s m args below meth c D wd A0 nL cells slots Q (pc + 2) (x0 :: x1 :: x2 :: x3 :: some (.long v) :: none :: r) (st) (M)) : AW p l e R s m args below meth c D wd A0 nL cells slots Q (pc) (x0 :: x1 :: x2 :: x3 :: o :: o2 :: r) (.long v :: st) (M) :=
  s_lstore B hdg hn (hs_posL [x0, x1, x2, x3] r o o2 (.long v) (fun u h => by cases h; exact hc)) k
theorem p_iinc4 {x0 : Option Value} {x1 : Option Value} {x2 : Option Value} {x3 : Option Value} {r : List (Option Value)} {x : Int32} {n : Int} (v : Int32) (B : BS sk D cy wd A0 p s m args c own cc nL) (hdg : decode cc pc = .ok (.iinc 4 n, 3)) (hn : 4 < nL) (hv : Int32.ofInt n = v) (hc : c1 x3 = true := by rfl) (k : AW p l e R s m args below meth c D wd A0 nL cells slots Q (pc + 3) (x0 :: x1 :: x2 :: x3 :: some (.int (x + v)) :: r) (st) (M)) : AW p l e R s m args below meth c D wd A0 nL cells slots Q (pc) (x0 :: x1 :: x2 :: x3 :: some (.int x) :: r) (st) (M) :=
  s_iinc B hdg (by rfl) (by rw [hv]) hn (hs_pos [x0, x1, x2, x3] r (some (.int x)) (.int (x + v)) (fun u h => by cases h; exact hc)) k
theorem p_istore5 {x0 : Option Value} {x1 : Option Value} {x2 : Option Value} {x3 : Option Value} {x4 : Option Value} {o : Option Value} {r : List (Option Value)} {v : Int32} (B : BS sk D cy wd A0 p s m args c own cc nL) (hdg : decode cc pc = .ok (.istore 5, 2)) (hn : 5 < nL) (hc : c1 x4 = true := by rfl) (k : AW p l e R s m args below meth c D wd A0 nL cells slots Q (pc + 2) (x0 :: x1 :: x2 :: x3 :: x4 :: some (.int v) :: r) (st) (M)) : AW p l e R s m args below meth c D wd A0 nL cells slots Q (pc) (x0 :: x1 :: x2 :: x3 :: x4 :: o :: r) (.int v :: st) (M) :=
  s_istore B hdg hn (hs_pos [x0, x1, x2, x3, x4] r o (.int v) (fun u h => by cases h; exact hc)) k
theorem p_astore5 {x0 : Option Value} {x1 : Option Value} {x2 : Option Value} {x3 : Option Value} {x4 : Option Value} {o : Option Value} {r : List (Option Value)} {v : Nat} (B : BS sk D cy wd A0 p s m args c own cc nL) (hdg : decode cc pc = .ok (.astore 5, 2)) (hn : 5 < nL) (hc : c1 x4 = true := by rfl) (k : AW p l e R s m args below meth c D wd A0 nL cells slots Q (pc + 2) (x0 :: x1 :: x2 :: x3 :: x4 :: some (.ref v) :: r) (st) (M)) : AW p l e R s m args below meth c D wd A0 nL cells slots Q (pc) (x0 :: x1 :: x2 :: x3 :: x4 :: o :: r) (.ref v :: st) (M) :=
  s_astore B hdg hn (hs_pos [x0, x1, x2, x3, x4] r o (.ref v) (fun u h => by cases h; exact hc)) k
theorem p_astoreN5 {x0 : Option Value} {x1 : Option Value} {x2 : Option Value} {x3 : Option Value} {x4 : Option Value} {o : Option Value} {r : List (Option Value)}  (B : BS sk D cy wd A0 p s m args c own cc nL) (hdg : decode cc pc = .ok (.astore 5, 2)) (hn : 5 < nL) (hc : c1 x4 = true := by rfl) (k : AW p l e R s m args below meth c D wd A0 nL cells slots Q (pc + 2) (x0 :: x1 :: x2 :: x3 :: x4 :: some (.null) :: r) (st) (M)) : AW p l e R s m args below meth c D wd A0 nL cells slots Q (pc) (x0 :: x1 :: x2 :: x3 :: x4 :: o :: r) (.null :: st) (M) :=
  s_astoreN B hdg hn (hs_pos [x0, x1, x2, x3, x4] r o (.null) (fun u h => by cases h; exact hc)) k
theorem p_lstore5 {x0 : Option Value} {x1 : Option Value} {x2 : Option Value} {x3 : Option Value} {x4 : Option Value} {o o2 : Option Value} {r : List (Option Value)} {v : Int64} (B : BS sk D cy wd A0 p s m args c own cc nL) (hdg : decode cc pc = .ok (.lstore 5, 2)) (hn : 5 + 1 < nL) (hc : c1 x4 = true := by rfl) (k : AW p l e R s m args below meth c D wd A0 nL cells slots Q (pc + 2) (x0 :: x1 :: x2 :: x3 :: x4 :: some (.long v) :: none :: r) (st) (M)) : AW p l e R s m args below meth c D wd A0 nL cells slots Q (pc) (x0 :: x1 :: x2 :: x3 :: x4 :: o :: o2 :: r) (.long v :: st) (M) :=
  s_lstore B hdg hn (hs_posL [x0, x1, x2, x3, x4] r o o2 (.long v) (fun u h => by cases h; exact hc)) k
theorem p_iinc5 {x0 : Option Value} {x1 : Option Value} {x2 : Option Value} {x3 : Option Value} {x4 : Option Value} {r : List (Option Value)} {x : Int32} {n : Int} (v : Int32) (B : BS sk D cy wd A0 p s m args c own cc nL) (hdg : decode cc pc = .ok (.iinc 5 n, 3)) (hn : 5 < nL) (hv : Int32.ofInt n = v) (hc : c1 x4 = true := by rfl) (k : AW p l e R s m args below meth c D wd A0 nL cells slots Q (pc + 3) (x0 :: x1 :: x2 :: x3 :: x4 :: some (.int (x + v)) :: r) (st) (M)) : AW p l e R s m args below meth c D wd A0 nL cells slots Q (pc) (x0 :: x1 :: x2 :: x3 :: x4 :: some (.int x) :: r) (st) (M) :=
  s_iinc B hdg (by rfl) (by rw [hv]) hn (hs_pos [x0, x1, x2, x3, x4] r (some (.int x)) (.int (x + v)) (fun u h => by cases h; exact hc)) k
theorem p_istore6 {x0 : Option Value} {x1 : Option Value} {x2 : Option Value} {x3 : Option Value} {x4 : Option Value} {x5 : Option Value} {o : Option Value} {r : List (Option Value)} {v : Int32} (B : BS sk D cy wd A0 p s m args c own cc nL) (hdg : decode cc pc = .ok (.istore 6, 2)) (hn : 6 < nL) (hc : c1 x5 = true := by rfl) (k : AW p l e R s m args below meth c D wd A0 nL cells slots Q (pc + 2) (x0 :: x1 :: x2 :: x3 :: x4 :: x5 :: some (.int v) :: r) (st) (M)) : AW p l e R s m args below meth c D wd A0 nL cells slots Q (pc) (x0 :: x1 :: x2 :: x3 :: x4 :: x5 :: o :: r) (.int v :: st) (M) :=
  s_istore B hdg hn (hs_pos [x0, x1, x2, x3, x4, x5] r o (.int v) (fun u h => by cases h; exact hc)) k
theorem p_astore6 {x0 : Option Value} {x1 : Option Value} {x2 : Option Value} {x3 : Option Value} {x4 : Option Value} {x5 : Option Value} {o : Option Value} {r : List (Option Value)} {v : Nat} (B : BS sk D cy wd A0 p s m args c own cc nL) (hdg : decode cc pc = .ok (.astore 6, 2)) (hn : 6 < nL) (hc : c1 x5 = true := by rfl) (k : AW p l e R s m args below meth c D wd A0 nL cells slots Q (pc + 2) (x0 :: x1 :: x2 :: x3 :: x4 :: x5 :: some (.ref v) :: r) (st) (M)) : AW p l e R s m args below meth c D wd A0 nL cells slots Q (pc) (x0 :: x1 :: x2 :: x3 :: x4 :: x5 :: o :: r) (.ref v :: st) (M) :=
  s_astore B hdg hn (hs_pos [x0, x1, x2, x3, x4, x5] r o (.ref v) (fun u h => by cases h; exact hc)) k
theorem p_astoreN6 {x0 : Option Value} {x1 : Option Value} {x2 : Option Value} {x3 : Option Value} {x4 : Option Value} {x5 : Option Value} {o : Option Value} {r : List (Option Value)}  (B : BS sk D cy wd A0 p s m args c own cc nL) (hdg : decode cc pc = .ok (.astore 6, 2)) (hn : 6 < nL) (hc : c1 x5 = true := by rfl) (k : AW p l e R s m args below meth c D wd A0 nL cells slots Q (pc + 2) (x0 :: x1 :: x2 :: x3 :: x4 :: x5 :: some (.null) :: r) (st) (M)) : AW p l e R s m args below meth c D wd A0 nL cells slots Q (pc) (x0 :: x1 :: x2 :: x3 :: x4 :: x5 :: o :: r) (.null :: st) (M) :=
  s_astoreN B hdg hn (hs_pos [x0, x1, x2, x3, x4, x5] r o (.null) (fun u h => by cases h; exact hc)) k
theorem p_lstore6 {x0 : Option Value} {x1 : Option Value} {x2 : Option Value} {x3 : Option Value} {x4 : Option Value} {x5 : Option Value} {o o2 : Option Value} {r : List (Option Value)} {v : Int64} (B : BS sk D cy wd A0 p s m args c own cc nL) (hdg : decode cc pc = .ok (.lstore 6, 2)) (hn : 6 + 1 < nL) (hc : c1 x5 = true := by rfl) (k : AW p l e R s m args below meth c D wd A0 nL cells slots Q (pc + 2) (x0 :: x1 :: x2 :: x3 :: x4 :: x5 :: some (.long v) :: none :: r) (st) (M)) : AW p l e R s m args below meth c D wd A0 nL cells slots Q (pc) (x0 :: x1 :: x2 :: x3 :: x4 :: x5 :: o :: o2 :: r) (.long v :: st) (M) :=
  s_lstore B hdg hn (hs_posL [x0, x1, x2, x3, x4, x5] r o o2 (.long v) (fun u h => by cases h; exact hc)) k
theorem p_iinc6 {x0 : Option Value} {x1 : Option Value} {x2 : Option Value} {x3 : Option Value} {x4 : Option Value} {x5 : Option Value} {r : List (Option Value)} {x : Int32} {n : Int} (v : Int32) (B : BS sk D cy wd A0 p s m args c own cc nL) (hdg : decode cc pc = .ok (.iinc 6 n, 3)) (hn : 6 < nL) (hv : Int32.ofInt n = v) (hc : c1 x5 = true := by rfl) (k : AW p l e R s m args below meth c D wd A0 nL cells slots Q (pc + 3) (x0 :: x1 :: x2 :: x3 :: x4 :: x5 :: some (.int (x + v)) :: r) (st) (M)) : AW p l e R s m args below meth c D wd A0 nL cells slots Q (pc) (x0 :: x1 :: x2 :: x3 :: x4 :: x5 :: some (.int x) :: r) (st) (M) :=
  s_iinc B hdg (by rfl) (by rw [hv]) hn (hs_pos [x0, x1, x2, x3, x4, x5] r (some (.int x)) (.int (x + v)) (fun u h => by cases h; exact hc)) k
theorem p_istore7 {x0 : Option Value} {x1 : Option Value} {x2 : Option Value} {x3 : Option Value} {x4 : Option Value} {x5 : Option Value} {x6 : Option Value} {o : Option Value} {r : List (Option Value)} {v : Int32} (B : BS sk D cy wd A0 p s m args c own cc nL) (hdg : decode cc pc = .ok (.istore 7, 2)) (hn : 7 < nL) (hc : c1 x6 = true := by rfl) (k : AW p l e R s m args below meth c D wd A0 nL cells slots Q (pc + 2) (x0 :: x1 :: x2 :: x3 :: x4 :: x5 :: x6 :: some (.int v) :: r) (st) (M)) : AW p l e R s m args below meth c D wd A0 nL cells slots Q (pc) (x0 :: x1 :: x2 :: x3 :: x4 :: x5 :: x6 :: o :: r) (.int v :: st) (M) :=
  s_istore B hdg hn (hs_pos [x0, x1, x2, x3, x4, x5, x6] r o (.int v) (fun u h => by cases h; exact hc)) k
theorem p_astore7 {x0 : Option Value} {x1 : Option Value} {x2 : Option Value} {x3 : Option Value} {x4 : Option Value} {x5 : Option Value} {x6 : Option Value} {o : Option Value} {r : List (Option Value)} {v : Nat} (B : BS sk D cy wd A0 p s m args c own cc nL) (hdg : decode cc pc = .ok (.astore 7, 2)) (hn : 7 < nL) (hc : c1 x6 = true := by rfl) (k : AW p l e R s m args below meth c D wd A0 nL cells slots Q (pc + 2) (x0 :: x1 :: x2 :: x3 :: x4 :: x5 :: x6 :: some (.ref v) :: r) (st) (M)) : AW p l e R s m args below meth c D wd A0 nL cells slots Q (pc) (x0 :: x1 :: x2 :: x3 :: x4 :: x5 :: x6 :: o :: r) (.ref v :: st) (M) :=
  s_astore B hdg hn (hs_pos [x0, x1, x2, x3, x4, x5, x6] r o (.ref v) (fun u h => by cases h; exact hc)) k
theorem p_astoreN7 {x0 : Option Value} {x1 : Option Value} {x2 : Option Value} {x3 : Option Value} {x4 : Option Value} {x5 : Option Value} {x6 : Option Value} {o : Option Value} {r : List (Option Value)}  (B : BS sk D cy wd A0 p s m args c own cc nL) (hdg : decode cc pc = .ok (.astore 7, 2)) (hn : 7 < nL) (hc : c1 x6 = true := by rfl) (k : AW p l e R s m args below meth c D wd A0 nL cells slots Q (pc + 2) (x0 :: x1 :: x2 :: x3 :: x4 :: x5 :: x6 :: some (.null) :: r) (st) (M)) : AW p l e R s m args below meth c D wd A0 nL cells slots Q (pc) (x0 :: x1 :: x2 :: x3 :: x4 :: x5 :: x6 :: o :: r) (.null :: st) (M) :=
  s_astoreN B hdg hn (hs_pos [x0, x1, x2, x3, x4, x5, x6] r o (.null) (fun u h => by cases h; exact hc)) k
theorem p_lstore7 {x0 : Option Value} {x1 : Option Value} {x2 : Option Value} {x3 : Option Value} {x4 : Option Value} {x5 : Option Value} {x6 : Option Value} {o o2 : Option Value} {r : List (Option Value)} {v : Int64} (B : BS sk D cy wd A0 p s m args c own cc nL) (hdg : decode cc pc = .ok (.lstore 7, 2)) (hn : 7 + 1 < nL) (hc : c1 x6 = true := by rfl) (k : AW p l e R s m args below meth c D wd A0 nL cells slots Q (pc + 2) (x0 :: x1 :: x2 :: x3 :: x4 :: x5 :: x6 :: some (.long v) :: none :: r) (st) (M)) : AW p l e R s m args below meth c D wd A0 nL cells slots Q (pc) (x0 :: x1 :: x2 :: x3 :: x4 :: x5 :: x6 :: o :: o2 :: r) (.long v :: st) (M) :=
  s_lstore B hdg hn (hs_posL [x0, x1, x2, x3, x4, x5, x6] r o o2 (.long v) (fun u h => by cases h; exact hc)) k
theorem p_iinc7 {x0 : Option Value} {x1 : Option Value} {x2 : Option Value} {x3 : Option Value} {x4 : Option Value} {x5 : Option Value} {x6 : Option Value} {r : List (Option Value)} {x : Int32} {n : Int} (v : Int32) (B : BS sk D cy wd A0 p s m args c own cc nL) (hdg : decode cc pc = .ok (.iinc 7 n, 3)) (hn : 7 < nL) (hv : Int32.ofInt n = v) (hc : c1 x6 = true := by rfl) (k : AW p l e R s m args below meth c D wd A0 nL cells slots Q (pc + 3) (x0 :: x1 :: x2 :: x3 :: x4 :: x5 :: x6 :: some (.int (x + v)) :: r) (st) (M)) : AW p l e R s m args below meth c D wd A0 nL cells slots Q (pc) (x0 :: x1 :: x2 :: x3 :: x4 :: x5 :: x6 :: some (.int x) :: r) (st) (M) :=
  s_iinc B hdg (by rfl) (by rw [hv]) hn (hs_pos [x0, x1, x2, x3, x4, x5, x6] r (some (.int x)) (.int (x + v)) (fun u h => by cases h; exact hc)) k
theorem p_istore8 {x0 : Option Value} {x1 : Option Value} {x2 : Option Value} {x3 : Option Value} {x4 : Option Value} {x5 : Option Value} {x6 : Option Value} {x7 : Option Value} {o : Option Value} {r : List (Option Value)} {v : Int32} (B : BS sk D cy wd A0 p s m args c own cc nL) (hdg : decode cc pc = .ok (.istore 8, 2)) (hn : 8 < nL) (hc : c1 x7 = true := by rfl) (k : AW p l e R s m args below meth c D wd A0 nL cells slots Q (pc + 2) (x0 :: x1 :: x2 :: x3 :: x4 :: x5 :: x6 :: x7 :: some (.int v) :: r) (st) (M)) : AW p l e R s m args below meth c D wd A0 nL cells slots Q (pc) (x0 :: x1 :: x2 :: x3 :: x4 :: x5 :: x6 :: x7 :: o :: r) (.int v :: st) (M) :=
  s_istore B hdg hn (hs_pos [x0, x1, x2, x3, x4, x5, x6, x7] r o (.int v) (fun u h => by cases h; exact hc)) k
theorem p_astore8 {x0 : Option Value} {x1 : Option Value} {x2 : Option Value} {x3 : Option Value} {x4 : Option Value} {x5 : Option Value} {x6 : Option Value} {x7 : Option Value} {o : Option Value} {r : List (Option Value)} {v : Nat} (B : BS sk D cy wd A0 p s m args c own cc nL) (hdg : decode cc pc = .ok (.astore 8, 2)) (hn : 8 < nL) (hc : c1 x7 = true := by rfl) (k : AW p l e R s m args below meth c D wd A0 nL cells slots Q (pc + 2) (x0 :: x1 :: x2 :: x3 :: x4 :: x5 :: x6 :: x7 :: some (.ref v) :: r) (st) (M)) : AW p l e R s m args below meth c D wd A0 nL cells slots Q (pc) (x0 :: x1 :: x2 :: x3 :: x4 :: x5 :: x6 :: x7 :: o :: r) (.ref v :: st) (M) :=
  s_astore B hdg hn (hs_pos [x0, x1, x2, x3, x4, x5, x6, x7] r o (.ref v) (fun u h => by cases h; exact hc)) k
theorem p_astoreN8 {x0 : Option Value} {x1 : Option Value} {x2 : Option Value} {x3 : Option Value} {x4 : Option Value} {x5 : Option Value} {x6 : Option Value} {x7 : Option Value} {o : Option Value} {r : List (Option Value)}  (B : BS sk D cy wd A0 p s m args c own cc nL) (hdg : decode cc pc = .ok (.astore 8, 2)) (hn : 8 < nL) (hc : c1 x7 = true := by rfl) (k : AW p l e R s m args below meth c D wd A0 nL cells slots Q (pc + 2) (x0 :: x1 :: x2 :: x3 :: x4 :: x5 :: x6 :: x7 :: some (.null) :: r) (st) (M)) : AW p l e R s m args below meth c D wd A0 nL cells slots Q (pc) (x0 :: x1 :: x2 :: x3 :: x4 :: x5 :: x6 :: x7 :: o :: r) (.null :: st) (M) :=
  s_astoreN B hdg hn (hs_pos [x0, x1, x2, x3, x4, x5, x6, x7] r o (.null) (fun u h => by cases h; exact hc)) k
theorem p_lstore8 {x0 : Option Value} {x1 : Option Value} {x2 : Option Value} {x3 : Option Value} {x4 : Option Value} {x5 : Option Value} {x6 : Option Value} {x7 : Option Value} {o o2 : Option Value} {r : List (Option Value)} {v : Int64} (B : BS sk D cy wd A0 p s m args c own cc nL) (hdg : decode cc pc = .ok (.lstore 8, 2)) (hn : 8 + 1 < nL) (hc : c1 x7 = true := by rfl) (k : AW p l e R s m args below meth c D wd A0 nL cells slots Q (pc + 2) (x0 :: x1 :: x2 :: x3 :: x4 :: x5 :: x6 :: x7 :: some (.long v) :: none :: r) (st) (M)) : AW p l e R s m args below meth c D wd A0 nL cells slots Q (pc) (x0 :: x1 :: x2 :: x3 :: x4 :: x5 :: x6 :: x7 :: o :: o2 :: r) (.long v :: st) (M) :=
  s_lstore B hdg hn (hs_posL [x0, x1, x2, x3, x4, x5, x6, x7] r o o2 (.long v) (fun u h => by cases h; exact hc)) k
theorem p_iinc8 {x0 : Option Value} {x1 : Option Value} {x2 : Option Value} {x3 : Option Value} {x4 : Option Value} {x5 : Option Value} {x6 : Option Value} {x7 : Option Value} {r : List (Option Value)} {x : Int32} {n : Int} (v : Int32) (B : BS sk D cy wd A0 p s m args c own cc nL) (hdg : decode cc pc = .ok (.iinc 8 n, 3)) (hn : 8 < nL) (hv : Int32.ofInt n = v) (hc : c1 x7 = true := by rfl) (k : AW p l e R s m args below meth c D wd A0 nL cells slots Q (pc + 3) (x0 :: x1 :: x2 :: x3 :: x4 :: x5 :: x6 :: x7 :: some (.int (x + v)) :: r) (st) (M)) : AW p l e R s m args below meth c D wd A0 nL cells slots Q (pc) (x0 :: x1 :: x2 :: x3 :: x4 :: x5 :: x6 :: x7 :: some (.int x) :: r) (st) (M) :=
  s_iinc B hdg (by rfl) (by rw [hv]) hn (hs_pos [x0, x1, x2, x3, x4, x5, x6, x7] r (some (.int x)) (.int (x + v)) (fun u h => by cases h; exact hc)) k
theorem a_zret {Post : Option Value → σ → Prop} {v : Int32} {ty : FieldType} (B : BS sk D cy wd A0 p s m args c own cc nL) (hr : meth.sig.returnType = some ty) (hk : meth.locks = false) (hn : narrow ty (.int v) = .int v) (hdg : decode cc pc = .ok (.ireturn, 1)) (hp : Post (some (.int v)) M) : AW p l e R s m args below meth c D wd A0 nL 0 0 (MQ below (QG D wd A0 Post) args s 0 0 A0) (pc) (lo) ([.int v]) (M) := by
  intro H locs ls hP hS hL
  exact W.zret B.1.1 B.1.2.1 hr hn (fun t ht hW => ⟨⟨_, M, rfl, hp, by rw [ht]; exact hP⟩, hS.F ht⟩) hS.2.2 hdg hk
theorem a_iret {Post : Option Value → σ → Prop} {v : Int32} (B : BS sk D cy wd A0 p s m args c own cc nL) (hr : meth.sig.returnType = some .int) (hk : meth.locks = false) (hdg : decode cc pc = .ok (.ireturn, 1)) (hp : Post (some (.int v)) M) : AW p l e R s m args below meth c D wd A0 nL 0 0 (MQ below (QG D wd A0 Post) args s 0 0 A0) (pc) (lo) ([.int v]) (M) :=
  a_zret B hr hk rfl hdg hp
theorem a_lret {Post : Option Value → σ → Prop} {v : Int64} (B : BS sk D cy wd A0 p s m args c own cc nL) (hr : meth.sig.returnType = some .long) (hk : meth.locks = false) (hdg : decode cc pc = .ok (.lreturn, 1)) (hp : Post (some (.long v)) M) : AW p l e R s m args below meth c D wd A0 nL 0 0 (MQ below (QG D wd A0 Post) args s 0 0 A0) (pc) (lo) ([.long v]) (M) := by
  intro H locs ls hP hS hL
  exact W.lret B.1.1 B.1.2.1 hr (fun t ht hW => ⟨⟨_, M, rfl, hp, by rw [ht]; exact hP⟩, hS.F ht⟩) hS.2.2 hdg hk
theorem a_vret {Post : Option Value → σ → Prop} (B : BS sk D cy wd A0 p s m args c own cc nL) (hr : meth.sig.returnType = none) (hk : meth.locks = false) (hdg : decode cc pc = .ok (.return_, 1)) (hp : Post none M) : AW p l e R s m args below meth c D wd A0 nL 0 0 (MQ below (QG D wd A0 Post) args s 0 0 A0) (pc) (lo) ([]) (M) := by
  intro H locs ls hP hS hL
  exact W.vret B.1.1 B.1.2.1 hr (fun t ht hW => ⟨⟨_, M, rfl, hp, by rw [ht]; exact hP⟩, hS.F ht⟩) hS.2.2 hdg hk
theorem a_aret {Post : Option Value → σ → Prop} {v : Value} {ty : FieldType} (B : BS sk D cy wd A0 p s m args c own cc nL) (hr : meth.sig.returnType = some ty) (hk : meth.locks = false) (ht : (∃ n, ty = .object n) ∨ ∃ t, ty = .array t) (hv : v = .null ∨ ∃ a, v = .ref a) (hdg : decode cc pc = .ok (.areturn, 1)) (hp : Post (some v) M) : AW p l e R s m args below meth c D wd A0 nL 0 0 (MQ below (QG D wd A0 Post) args s 0 0 A0) (pc) (lo) ([v]) (M) := by
  intro H locs ls hP hS hL
  exact W.aret B.1.1 B.1.2.1 hr ht hv (fun t ht hW => ⟨⟨_, M, rfl, hp, by rw [ht]; exact hP⟩, hS.F ht⟩) hS.2.2 hdg hk

/-- the object at b is of that class, in every state of the world -/
def RC {σ : Type} (wd : σ → va_W) (b : Nat) (C : String) : Prop := ∀ M : σ, ∃ (q0 ci : Nat) (fs : List Value) (q : vw_C), (wd M)[q0]? = some (b, .inr (ci, fs)) ∧ vwCl[ci]? = some q ∧ q.1 = C
theorem preK_blind {σ : Type} {sk : (Nat → Nat) × (Nat → Nat)} {D : va_G} {cy : Nat → ClassId} {wd : σ → va_W} {M : σ} {sz : Nat} {av : List Value} : FrameBlind (va_Pc av (preK sk D cy wd M sz)) := by
  intro a U g mk q
  obtain ⟨q0, q1, qP, qK, qD, qN, qH⟩ := q
  exact ⟨q0, q1, qP, va_K.moved (u := U) (U := U.calling g mk a) (Vm.Alike.refl U.vm) qK, qD, fun w hw => va_Nw.same (nl_onT hw) (u := U) (U := U.calling g mk a) rfl (qN w hw), qH.calling⟩
theorem preK_at {H : Heap} {locs : List Loc} (B : BS sk D cy wd A0 p s m args c own cc nL) (hP : va_P D vwCl (wd M) H) (hS : va_S A0 s.heap H locs) (U : State) (hU : U.heap = H) (hW : s.WarmedH U.vm) : preK sk D cy wd M H.size U := by
  refine ⟨by rw [hU], by rw [hU]; exact hP, va_K.moved hW.alike B.2.1, (B.2.2.2.1 M).weaken (fun _ _ _ _ => trivial), fun w hw => nl_warm hw hW (B.2.2.1 w hw), ?_⟩
  refine B.2.2.2.2.1.move hW (fun a h1 h2 => by rw [hU]; exact hS.2.1 a h1 h2) (fun q hq => ?_)
  rcases hq with ⟨k, e1, hk⟩ | hq
  · exact (B.2.2.2.1 M).2 k (q, e1) hk
  · exact B.2.2.2.2.2.1 q (Nat.le_trans hS.1 hq)
theorem a_run {PostC : Option Value → σ → Prop} {H : Heap} {locs : List Loc} {ls : Array Slot} {st0 rest : List Value} {a : Array Value} (B : BS sk D cy wd A0 p s m args c own cc nL) (hP : va_P D vwCl (wd M) H) (hS : va_S A0 s.heap H locs) (hL : lv_has ls nL (lo2 0 lo))
    (hr : va_Run p l e R s m args below meth c H locs cells slots 0 0 (F0 m pc ls st0) rest (QG D wd (va_A (wd M) H.size) PostC a) (va_A (wd M) H.size))
    (kk : ∀ (v : Option Value) (M' : σ), PostC v M' → AW p l e R s m args below meth c D wd A0 nL cells slots Q (pc + 3) (lo) (v.toList ++ rest) (M')) : W p l e R s m args below meth c H locs cells slots Q (F0 m pc ls st0) := by
  have hA : ∀ q, va_A (wd M) H.size q → A0 q := by
    intro q hq
    rcases hq with ⟨k, e1, hk⟩ | hq
    · exact (B.2.2.2.1 M).2 k (q, e1) hk
    · exact B.2.2.2.2.2.1 q (Nat.le_trans hS.1 hq)
  intro T hT X
  obtain ⟨v, st₀, t, T', L, h0, X', hLf, e1, e2, ⟨⟨v', M', hv, hp, hPP⟩, hz, hk⟩, stp⟩ := hr T hT X
  cases hv
  rw [h0] at hz hk
  obtain ⟨t2, a1, b1⟩ := kk v M' hp T'.heap (locs ++ L) ls (by rw [e1]; exact hPP)
    ⟨Nat.le_trans hS.1 (by rw [e1]; exact hz), fun q h1 h2 => by rw [e1, hk q (Nat.lt_of_lt_of_le h1 hS.1) (fun z => h2 (hA q z))]; exact hS.2.1 q h1 h2, fun q hq => by
      rcases List.mem_append.mp hq with h | h
      · exact hS.2.2 q h
      · exact hA _ (hLf q h)⟩ hL T' rfl X'
  exact ⟨t2, stp t2 a1, b1⟩


theorem cw_of {y : MD} {n fr lc index : Nat} (B : BS sk D cy wd A0 p s m args c own cc nL) (hF : CF y n) (hl : Cond.methodLink own index y.1 ∈ GW) (hR : fr + 1 ≤ R.frames ∧ 8 + (y.2.2.1 + 11) + lc ≤ R.locals) : CallB R s args own index y.1 y.2.1 y.2.2.1 y.2.2.2 (cdW y :: GW) (rmK fr lc) 0 0 n := by
  have hg : ∀ w ∈ cdW y :: GW, w ∈ GW := fun w hw => (List.mem_cons.mp hw).elim (fun e => e ▸ hF.1) id
  exact callB_of n B.1.2.2.2.2 (gw_good hg) rfl rfl rfl (B.1.2.2.2.2 _ hF.2.1) (B.1.2.2.2.2 _ hl) hF.2.2.1 hR


theorem a_callV {y : MD} {n fr lc index b : Nat} {As : List Value} {st0 : List Value} {PostC : Option Value → σ → Prop} (B : BS sk D cy wd A0 p s m args c own cc nL) (hF : CF y n) (hl : Cond.methodLink own index y.1 ∈ GW) (hi : Cond.instanceMethod y.1 ∈ GW) (hse : Cond.selects y.1.cls y.1 y.1 ∈ GW) (hRC : RC wd b y.1.cls) (hC : Con l sk D cy wd y fr lc (.ref b :: As) M PostC)
    (hdg : decode cc pc = .ok (.invokevirtual index, 3)) (hst : st0 = As.reverse ++ .ref b :: st) (hn : As.length = n) (hw : (st.map fun v => v.category).sum ≤ 8) (hR : fr + 1 ≤ R.frames ∧ 8 + (y.2.2.1 + 11) + lc ≤ R.locals) (hcs : cells ≤ R.cells ∧ slots ≤ R.slots)
    (kk : ∀ (v : Option Value) (M' : σ), PostC v M' → AW p l e R s m args below meth c D wd A0 nL cells slots Q (pc + 3) (lo) (v.toList ++ st) (M')) : AW p l e R s m args below meth c D wd A0 nL cells slots Q (pc) (lo) (st0) (M) := by
  intro H locs ls hP hS hL
  obtain ⟨q0, ci, fs, q, h1, h2, h3⟩ := hRC M
  have hrec := va_recv B.2.1 hP h2 h1
  rw [h3] at hrec
  exact a_run B hP hS hL (va_runV (As := As) (rest := st) B.1 (hC H.size) ⟨cw_of B hF hl hR, B.1.2.2.2.2 _ hi, B.1.2.2.2.2 _ hse⟩ ⟨preK_blind, hrec, fun U hU hW => ⟨rfl, preK_at B hP hS U hU hW⟩⟩ rfl hn hL.1 hst (lv_room hw) hdg hcs) kk
theorem a_callS {y : MD} {n fr lc index : Nat} {As : List Value} {st0 : List Value} {PostC : Option Value → σ → Prop} (B : BS sk D cy wd A0 p s m args c own cc nL) (hF : CF y n) (hl : Cond.methodLink own index y.1 ∈ GW) (hi : Cond.static y.1 ∈ GW) (hC : Con l sk D cy wd y fr lc As M PostC)
    (hdg : decode cc pc = .ok (.invokestatic index, 3)) (hst : st0 = As.reverse ++ st) (hn : As.length = n) (hw : (st.map fun v => v.category).sum ≤ 8) (hR : fr + 1 ≤ R.frames ∧ 8 + (y.2.2.1 + 11) + lc ≤ R.locals) (hcs : cells ≤ R.cells ∧ slots ≤ R.slots)
    (kk : ∀ (v : Option Value) (M' : σ), PostC v M' → AW p l e R s m args below meth c D wd A0 nL cells slots Q (pc + 3) (lo) (v.toList ++ st) (M')) : AW p l e R s m args below meth c D wd A0 nL cells slots Q (pc) (lo) (st0) (M) := by
  intro H locs ls hP hS hL
  exact a_run B hP hS hL (va_runS (As := As) (rest := st) B.1 (hC H.size) ⟨cw_of B hF hl hR, B.1.2.2.2.2 _ hi⟩ ⟨preK_blind, fun U hU hW => ⟨rfl, preK_at B hP hS U hU hW⟩⟩ rfl hn hL.1 hst (lv_room hw) hdg hcs) kk
theorem a_callSN {y : MD} {host : String} {n fr lc index : Nat} {As : List Value} {st0 : List Value} {PostC : Option Value → σ → Prop} (B : BS sk D cy wd A0 p s m args c own cc nL) (hF : CF y n) (hl : Cond.methodLinkNest own index y.1 host ∈ NL) (hi : Cond.static y.1 ∈ GW) (hC : Con l sk D cy wd y fr lc As M PostC)
    (hdg : decode cc pc = .ok (.invokestatic index, 3)) (hst : st0 = As.reverse ++ st) (hn : As.length = n) (hw : (st.map fun v => v.category).sum ≤ 8) (hR : fr + 1 ≤ R.frames ∧ 8 + (y.2.2.1 + 11) + lc ≤ R.locals) (hcs : cells ≤ R.cells ∧ slots ≤ R.slots)
    (kk : ∀ (v : Option Value) (M' : σ), PostC v M' → AW p l e R s m args below meth c D wd A0 nL cells slots Q (pc + 3) (lo) (v.toList ++ st) (M')) : AW p l e R s m args below meth c D wd A0 nL cells slots Q (pc) (lo) (st0) (M) := by
  intro H locs ls hP hS hL
  have hg : ∀ w ∈ cdW y :: GW, w ∈ GW := fun w hw => (List.mem_cons.mp hw).elim (fun e => e ▸ hF.1) id
  exact a_run B hP hS hL (va_runSN (As := As) (rest := st) B.1 (hC H.size) ⟨va_cnB n B.1.2.2.2.2 (gw_good hg) rfl rfl rfl (B.2.2.1 _ hl) (B.1.2.2.2.2 _ hF.2.1) hF.2.2.1 hR, B.1.2.2.2.2 _ hi, trivial⟩ ⟨preK_blind, fun U hU hW => ⟨rfl, preK_at B hP hS U hU hW⟩⟩ rfl hn hL.1 hst (lv_room hw) hdg hcs) kk

end AWP
section AWM
variable {p : Program} {l : Launch} {e : Env} {R : Room} {s : State} {m : MethodId} {args : Array Value} {below : List Frame} {meth : Method} {c : Code} {sk : (Nat → Nat) × (Nat → Nat)} {D : va_G} {cy : Nat → ClassId} {A0 : Nat → Prop} {own : String} {cc : ByteArray} {nL cells slots : Nat} {Q : State → Prop} {pc : Nat} {lo : List (Option Value)} {st : List Value} {A : Nat → Nat} {nP : Nat} {T : Nat → CS} {X : va_W} {M : Mem}

/-- a field's link, with all that the tables say of its class -/
def FLK (own : String) (idx ci k : Nat) : Prop := ∃ (C : String) (Tb : u_T) (N : Nat) (ty : Nat → FieldType), vwCl[ci]? = some (C, Tb, N) ∧ k < N ∧ (∀ w ∈ u_ws C Tb N, w ∈ GW) ∧ (Tb k).1 = C ∧ (∀ a, a < N → ∀ b, b < N → a ≠ b → (Tb a).2.1 ≠ (Tb b).2.1) ∧ (∀ k, k < N → parseFieldDescriptor (Tb k).2.2.1 = some (ty k)) ∧ (Cond.fieldLink own idx C (Tb k).2.1 (Tb k).2.2.1 ∈ GW ∨ ∃ host, Cond.fieldLinkNest own idx C (Tb k).2.1 (Tb k).2.2.1 host ∈ NL)
def FPK (ci k : Nat) (ty : FieldType) : Prop := ∀ q : vw_C, vwCl[ci]? = some q → (q.2.1 k).2.2.2 = false ∧ parseFieldDescriptor (q.2.1 k).2.2.1 = some ty
/-- the cells of a template read apart -/
def TW (nP : Nat) (T : Nat → CS) : Prop := ∀ p, p < nP → (rdC (T p)).Nodup ∧ ∀ r ∈ rdC (T p), ∀ q, q < nP → q ≠ p → r ∉ rdC (T q)
theorem fs_set {A : Nat → Nat} {M M' : Mem} : ∀ (fs : List FS) (k : Nat) (f : FS), (fs.flatMap rdF).Nodup → fs[k]? = some f → (∀ r : Nat × Nat, r ∉ rdF f → M' r.1 r.2 = M r.1 r.2) → (fs.map (fvC A M)).set k (fvC A M' f) = fs.map (fvC A M')
  | [], k, f, _, h, _ => by simp at h
  | g :: r, 0, f, hn, h, ho => by
    rw [List.getElem?_cons_zero] at h
    cases h
    rw [List.flatMap_cons, List.nodup_append] at hn
    have key : r.map (fvC A M') = r.map (fvC A M) := by
      have h0 : ∀ q ∈ r.flatMap rdF, M' q.1 q.2 = M q.1 q.2 := fun q hq => ho q (fun hf => hn.2.2 q hf q hq rfl)
      have h1 := cvC_congr (A := A) (cy := fun _ => (0 : Nat)) (M := M) (M' := M') (.inl (0, r)) h0
      injection h1 with h2
      injection h2
    show fvC A M' g :: r.map (fvC A M) = fvC A M' g :: r.map (fvC A M')
    rw [key]
  | g :: r, k + 1, f, hn, h, ho => by
    rw [List.getElem?_cons_succ] at h
    rw [List.flatMap_cons, List.nodup_append] at hn
    have key : fvC A M' g = fvC A M g := by
      have h0 : ∀ q ∈ rdF g, M' q.1 q.2 = M q.1 q.2 := fun q hq => ho q (fun hf => hn.2.2 q hq q (List.mem_flatMap.mpr ⟨f, List.mem_of_getElem? h, hf⟩) rfl)
      have h1 := cvC_congr (A := A) (cy := fun _ => (0 : Nat)) (M := M) (M' := M') (.inl (0, [g])) (fun q hq => h0 q (by simpa [rdC] using hq))
      injection h1 with h2
      injection h2 with h3 h4
      exact (List.cons.inj h4).1
    show fvC A M g :: (r.map (fvC A M)).set k (fvC A M' f) = fvC A M' g :: r.map (fvC A M')
    rw [fs_set r k f hn.2.1 h ho, key]
theorem wl_rc {p0 ci : Nat} {fs : List FS} {q : vw_C} {C : String} (hp : p0 < nP) (hT : T p0 = .inl (ci, fs)) (hq : vwCl[ci]? = some q) (hC : q.1 = C) : RC (wl A cy nP T X) (A p0) C :=
  fun M => ⟨p0, ci, fs.map (fvC A M), q, by rw [wl_at hp, hT]; rfl, hq, hC⟩
theorem upB_off {M : Mem} {b n : Nat} {v : Int32} {r : Nat × Nat} (h : r ≠ (b, n)) : upB M b n v r.1 r.2 = M r.1 r.2 := by
  unfold upB
  rw [if_neg (fun q => h (Prod.ext q.1 q.2))]
theorem upB_on {M : Mem} {b n : Nat} {v : Int32} : upB M b n v b n = v := by unfold upB; rw [if_pos ⟨rfl, rfl⟩]


theorem a_getv {idx q0 ci k : Nat} {fs : List FS} {f : FS} (B : BS sk D cy (wl A cy nP T X) A0 p s m args c own cc nL) (F : FLK own idx ci k) (hp : q0 < nP) (hT : T q0 = .inl (ci, fs)) (hf : fs[k]? = some f) (hdg : decode cc pc = .ok (.getfield idx, 3)) (kk : AW p l e R s m args below meth c D (wl A cy nP T X) A0 nL cells slots Q (pc + 3) (lo) (fvC A M f :: st) (M)) : AW p l e R s m args below meth c D (wl A cy nP T X) A0 nL cells slots Q (pc) (lo) (.ref (A q0) :: st) (M) := by
  intro H locs ls hP hS hL
  obtain ⟨C, Tb, N, ty, h1, h2, h3, h4, h5, h6, h7⟩ := F
  have he : (wl A cy nP T X M)[q0]? = some (A q0, .inr (ci, fs.map (fvC A M))) := by rw [wl_at hp, hT]; rfl
  have hv : (fs.map (fvC A M))[k]? = some (fvC A M f) := by rw [List.getElem?_map, hf]; rfl
  rcases h7 with h7 | ⟨host, h7⟩
  · exact va_get B.1.1 B.1.2.1 B.1.2.2.2.2 h3 B.1.2.2.2.1 B.2.1 hP q0 he h1 k h2 (B.1.2.2.2.2 _ h7) (fun x hx => by rw [h4] at hx; exact hx) hv hdg (kk H locs ls hP hS hL)
  · exact va_getN B.1.1 B.1.2.1 B.1.2.2.2.2 h3 B.1.2.2.2.1 B.2.1 hP q0 he h1 k h2 (va_Nw.use rfl (B.2.2.1 _ h7)) (fun x hx => by rw [h4] at hx; exact hx) hv hdg (kk H locs ls hP hS hL)
theorem a_getI {idx q0 ci k b n : Nat} {fs : List FS} (B : BS sk D cy (wl A cy nP T X) A0 p s m args c own cc nL) (F : FLK own idx ci k) (hp : q0 < nP) (hT : T q0 = .inl (ci, fs)) (hf : fs[k]? = some (.inl (b, n))) (hdg : decode cc pc = .ok (.getfield idx, 3)) (kk : AW p l e R s m args below meth c D (wl A cy nP T X) A0 nL cells slots Q (pc + 3) (lo) (.int (M b n) :: st) (M)) : AW p l e R s m args below meth c D (wl A cy nP T X) A0 nL cells slots Q (pc) (lo) (.ref (A q0) :: st) (M) := a_getv B F hp hT hf hdg kk
theorem a_getR {idx q0 ci k q1 : Nat} {fs : List FS} (B : BS sk D cy (wl A cy nP T X) A0 p s m args c own cc nL) (F : FLK own idx ci k) (hp : q0 < nP) (hT : T q0 = .inl (ci, fs)) (hf : fs[k]? = some (.inr (.inl q1))) (hdg : decode cc pc = .ok (.getfield idx, 3)) (kk : AW p l e R s m args below meth c D (wl A cy nP T X) A0 nL cells slots Q (pc + 3) (lo) (.ref (A q1) :: st) (M)) : AW p l e R s m args below meth c D (wl A cy nP T X) A0 nL cells slots Q (pc) (lo) (.ref (A q0) :: st) (M) := a_getv B F hp hT hf hdg kk
theorem a_getL {idx q0 ci k b n : Nat} {fs : List FS} (B : BS sk D cy (wl A cy nP T X) A0 p s m args c own cc nL) (F : FLK own idx ci k) (hp : q0 < nP) (hT : T q0 = .inl (ci, fs)) (hf : fs[k]? = some (.inr (.inr (b, n)))) (hdg : decode cc pc = .ok (.getfield idx, 3)) (kk : AW p l e R s m args below meth c D (wl A cy nP T X) A0 nL cells slots Q (pc + 3) (lo) (.long (ljn (M b n) (M b (n + 1))) :: st) (M)) : AW p l e R s m args below meth c D (wl A cy nP T X) A0 nL cells slots Q (pc) (lo) (.ref (A q0) :: st) (M) := a_getv B F hp hT hf hdg kk
theorem a_putv {idx q0 ci k : Nat} {fs : List FS} {f : FS} {M' : Mem} {v : Value} {ty : FieldType} (B : BS sk D cy (wl A cy nP T X) A0 p s m args c own cc nL) (hW : TW nP T) (F : FLK own idx ci k) (G : FPK ci k ty) (hp : q0 < nP) (hT : T q0 = .inl (ci, fs)) (hf : fs[k]? = some f) (hn : narrow ty v = v) (hfit : fits ty v = true) (hv : fvC A M' f = v) (ho : ∀ r : Nat × Nat, r ∉ rdF f → M' r.1 r.2 = M r.1 r.2) (hdg : decode cc pc = .ok (.putfield idx, 3)) (kk : AW p l e R s m args below meth c D (wl A cy nP T X) A0 nL cells slots Q (pc + 3) (lo) (st) (M')) : AW p l e R s m args below meth c D (wl A cy nP T X) A0 nL cells slots Q (pc) (lo) (v :: .ref (A q0) :: st) (M) := by
  intro H locs ls hP hS hL
  obtain ⟨C, Tb, N, ty0, h1, h2, h3, h4, h5, h6, h7⟩ := F
  obtain ⟨g1, g2⟩ := G _ h1
  have he : (wl A cy nP T X M)[q0]? = some (A q0, .inr (ci, fs.map (fvC A M))) := by rw [wl_at hp, hT]; rfl
  have hkl : k < (fs.map (fvC A M)).length := by rw [List.length_map]; exact (List.getElem?_eq_some_iff.mp hf).1
  obtain ⟨w1, w2⟩ := hW q0 hp
  rw [hT] at w1 w2
  have hset : (wl A cy nP T X M).set q0 (A q0, .inr (ci, (fs.map (fvC A M)).set k v)) = wl A cy nP T X M' := by
    refine wl_set hp ?_ (fun q hq hne => ?_)
    · rw [hT, ← hv, fs_set fs k f w1 hf ho]
      rfl
    · refine cvC_congr _ (fun r hr => ho r (fun hrf => w2 r (List.mem_flatMap.mpr ⟨f, List.mem_of_getElem? hf, hrf⟩) q hq hne hr))
  rcases h7 with h7 | ⟨host, h7⟩
  · exact va_put B.1.1 B.1.2.1 B.1.2.2.2.2 h3 ty0 h6 h5 B.1.2.2.2.1 B.2.1 hP (B.2.2.2.1 M) hS q0 he h1 k h2 (B.1.2.2.2.2 _ h7) (fun x hx => by rw [h4] at hx; exact hx) g1 g2 hn hfit hkl hdg (fun H1 locs1 hP1 _ hS1 => kk H1 locs1 ls (by rw [← hset]; exact hP1) hS1 hL)
  · exact va_putN B.1.1 B.1.2.1 B.1.2.2.2.2 h3 ty0 h6 h5 B.1.2.2.2.1 B.2.1 hP (B.2.2.2.1 M) hS q0 he h1 k h2 (va_Nw.use rfl (B.2.2.1 _ h7)) (fun x hx => by rw [h4] at hx; exact hx) g1 g2 hn hfit hkl hdg (fun H1 locs1 hP1 _ hS1 => kk H1 locs1 ls (by rw [← hset]; exact hP1) hS1 hL)
theorem a_putI {idx q0 ci k b n : Nat} {fs : List FS} {x : Int32} (B : BS sk D cy (wl A cy nP T X) A0 p s m args c own cc nL) (hW : TW nP T) (F : FLK own idx ci k) (G : FPK ci k .int) (hp : q0 < nP) (hT : T q0 = .inl (ci, fs)) (hf : fs[k]? = some (.inl (b, n))) (hdg : decode cc pc = .ok (.putfield idx, 3)) (kk : AW p l e R s m args below meth c D (wl A cy nP T X) A0 nL cells slots Q (pc + 3) (lo) (st) (upB M b n x)) : AW p l e R s m args below meth c D (wl A cy nP T X) A0 nL cells slots Q (pc) (lo) (.int x :: .ref (A q0) :: st) (M) :=
  a_putv B hW F G hp hT hf rfl rfl (congrArg Value.int upB_on) (fun r hr => upB_off (fun e1 => hr (by rw [e1]; exact List.mem_singleton.mpr rfl))) hdg kk
theorem a_putZ {idx q0 ci k b n : Nat} {fs : List FS} {x : Int32} (B : BS sk D cy (wl A cy nP T X) A0 p s m args c own cc nL) (hW : TW nP T) (F : FLK own idx ci k) (G : FPK ci k .boolean) (hp : q0 < nP) (hT : T q0 = .inl (ci, fs)) (hf : fs[k]? = some (.inl (b, n))) (hn : narrow .boolean (.int x) = .int x) (hfit : fits .boolean (.int x) = true) (hdg : decode cc pc = .ok (.putfield idx, 3)) (kk : AW p l e R s m args below meth c D (wl A cy nP T X) A0 nL cells slots Q (pc + 3) (lo) (st) (upB M b n x)) : AW p l e R s m args below meth c D (wl A cy nP T X) A0 nL cells slots Q (pc) (lo) (.int x :: .ref (A q0) :: st) (M) :=
  a_putv B hW F G hp hT hf hn hfit (congrArg Value.int upB_on) (fun r hr => upB_off (fun e1 => hr (by rw [e1]; exact List.mem_singleton.mpr rfl))) hdg kk
theorem a_putL {idx q0 ci k b n : Nat} {fs : List FS} {x : Int64} (B : BS sk D cy (wl A cy nP T X) A0 p s m args c own cc nL) (hW : TW nP T) (F : FLK own idx ci k) (G : FPK ci k .long) (hp : q0 < nP) (hT : T q0 = .inl (ci, fs)) (hf : fs[k]? = some (.inr (.inr (b, n)))) (hdg : decode cc pc = .ok (.putfield idx, 3)) (kk : AW p l e R s m args below meth c D (wl A cy nP T X) A0 nL cells slots Q (pc + 3) (lo) (st) (upB (upB M b n (lhi x)) b (n + 1) (llo x))) : AW p l e R s m args below meth c D (wl A cy nP T X) A0 nL cells slots Q (pc) (lo) (.long x :: .ref (A q0) :: st) (M) := by
  refine a_putv B hW F G hp hT hf rfl rfl ?_ (fun r hr => ?_) hdg kk
  · show Value.long (ljn (upB (upB M b n (lhi x)) b (n + 1) (llo x) b n) (upB (upB M b n (lhi x)) b (n + 1) (llo x) b (n + 1))) = Value.long x
    rw [upB_on, show upB (upB M b n (lhi x)) b (n + 1) (llo x) b n = lhi x by unfold upB; simp, ljn_s]
  · rw [upB_off (fun e1 => hr (by rw [e1]; exact List.mem_cons_of_mem _ (List.mem_singleton.mpr rfl))), upB_off (fun e1 => hr (by rw [e1]; exact List.mem_cons_self))]
theorem a_iald {q0 b o len : Nat} {x : Int32} (n : Nat) (B : BS sk D cy (wl A cy nP T X) A0 p s m args c own cc nL) (hp : q0 < nP) (hT : T q0 = .inr (.inl (0, b, o, len))) (hx : x = nI n) (hn : n < len) (hlen : len < 2 ^ 31) (hdg : decode cc pc = .ok (.iaload, 1)) (kk : AW p l e R s m args below meth c D (wl A cy nP T X) A0 nL cells slots Q (pc + 1) (lo) (.int (M b (o + n)) :: st) (M)) : AW p l e R s m args below meth c D (wl A cy nP T X) A0 nL cells slots Q (pc) (lo) (.int x :: .ref (A q0) :: st) (M) := by
  intro H locs ls hP hS hL
  have he : (wl A cy nP T X M)[q0]? = some (A q0, .inl (cy 0, len, .inl (fun j => if j < len then M b (o + j) else 0))) := by rw [wl_at hp, hT]; rfl
  subst hx
  refine va_iald B.1.1 B.1.2.1 B.2.1 hP q0 0 he rfl (vp_in_nI hn hlen) hdg ?_
  rw [nI_clamp (by omega)]
  show W p l e R s m args below meth c H locs cells slots Q (F0 m (pc + 1) ls (.int (if n < len then M b (o + n) else 0) :: st))
  rw [if_pos hn]
  exact kk H locs ls hP hS hL
theorem a_bald {q0 b o len : Nat} {x : Int32} (n : Nat) (B : BS sk D cy (wl A cy nP T X) A0 p s m args c own cc nL) (hp : q0 < nP) (hT : T q0 = .inr (.inl (1, b, o, len))) (hx : x = nI n) (hn : n < len) (hlen : len < 2 ^ 31) (hdg : decode cc pc = .ok (.baload, 1)) (kk : AW p l e R s m args below meth c D (wl A cy nP T X) A0 nL cells slots Q (pc + 1) (lo) (.int (M b (o + n)) :: st) (M)) : AW p l e R s m args below meth c D (wl A cy nP T X) A0 nL cells slots Q (pc) (lo) (.int x :: .ref (A q0) :: st) (M) := by
  intro H locs ls hP hS hL
  have he : (wl A cy nP T X M)[q0]? = some (A q0, .inl (cy 1, len, .inl (fun j => if j < len then M b (o + j) else 0))) := by rw [wl_at hp, hT]; rfl
  subst hx
  refine va_bald B.1.1 B.1.2.1 B.2.1 hP q0 1 he rfl (vp_in_nI hn hlen) hdg ?_
  rw [nI_clamp (by omega)]
  show W p l e R s m args below meth c H locs cells slots Q (F0 m (pc + 1) ls (.int (if n < len then M b (o + n) else 0) :: st))
  rw [if_pos hn]
  exact kk H locs ls hP hS hL
theorem arrW_set {q0 ty b o len n : Nat} {x : Int32} (hW : TW nP T) (hp : q0 < nP) (hT : T q0 = .inr (.inl (ty, b, o, len))) (hn : n < len) : (wl A cy nP T X M).set q0 (A q0, .inl (cy ty, len, .inl (upd (fun j => if j < len then M b (o + j) else 0) n x))) = wl A cy nP T X (upB M b (o + n) x) := by
  obtain ⟨w1, w2⟩ := hW q0 hp
  rw [hT] at w1 w2
  have hin : (b, o + n) ∈ rdC (.inr (.inl (ty, b, o, len))) := List.mem_map.mpr ⟨n, List.mem_range.mpr hn, rfl⟩
  refine wl_set hp ?_ (fun q hq hne => cvC_congr _ (fun r hr => upB_off (fun e1 => w2 _ hin q hq hne (by rw [← e1]; exact hr))))
  rw [hT]
  show Sum.inl (cy ty, len, Sum.inl _) = Sum.inl (cy ty, len, Sum.inl _)
  congr 3
  congr 1
  funext j
  by_cases hj : j = n
  · subst hj
    rw [pk_us, if_pos hn, upB_on]
  · rw [pk_un hj]
    by_cases hl : j < len
    · rw [if_pos hl, if_pos hl]
      exact (upB_off (r := (b, o + j)) (fun e1 => hj (by have := congrArg Prod.snd e1; simp at this; omega))).symm
    · rw [if_neg hl, if_neg hl]
theorem a_iast {q0 b o len : Nat} {x v : Int32} (n : Nat) (B : BS sk D cy (wl A cy nP T X) A0 p s m args c own cc nL) (hW : TW nP T) (hp : q0 < nP) (hT : T q0 = .inr (.inl (0, b, o, len))) (hx : x = nI n) (hn : n < len) (hlen : len < 2 ^ 31) (hdg : decode cc pc = .ok (.iastore, 1)) (kk : AW p l e R s m args below meth c D (wl A cy nP T X) A0 nL cells slots Q (pc + 1) (lo) (st) (upB M b (o + n) v)) : AW p l e R s m args below meth c D (wl A cy nP T X) A0 nL cells slots Q (pc) (lo) (.int v :: .int x :: .ref (A q0) :: st) (M) := by
  intro H locs ls hP hS hL
  have he : (wl A cy nP T X M)[q0]? = some (A q0, .inl (cy 0, len, .inl (fun j => if j < len then M b (o + j) else 0))) := by rw [wl_at hp, hT]; rfl
  subst hx
  refine va_iast B.1.1 B.1.2.1 B.2.1 hP (B.2.2.2.1 M) hS q0 0 he rfl (vp_in_nI hn hlen) hdg (fun H1 locs1 hP1 _ hS1 => kk H1 locs1 ls ?_ hS1 hL)
  rw [nI_clamp (by omega), arrW_set hW hp hT hn] at hP1
  exact hP1
theorem a_bast {q0 b o len : Nat} {x v : Int32} (n : Nat) (B : BS sk D cy (wl A cy nP T X) A0 p s m args c own cc nL) (hW : TW nP T) (hp : q0 < nP) (hT : T q0 = .inr (.inl (1, b, o, len))) (hx : x = nI n) (hn : n < len) (hlen : len < 2 ^ 31) (hdg : decode cc pc = .ok (.bastore, 1)) (kk : AW p l e R s m args below meth c D (wl A cy nP T X) A0 nL cells slots Q (pc + 1) (lo) (st) (upB M b (o + n) v.toInt8.toInt32)) : AW p l e R s m args below meth c D (wl A cy nP T X) A0 nL cells slots Q (pc) (lo) (.int v :: .int x :: .ref (A q0) :: st) (M) := by
  intro H locs ls hP hS hL
  have he : (wl A cy nP T X M)[q0]? = some (A q0, .inl (cy 1, len, .inl (fun j => if j < len then M b (o + j) else 0))) := by rw [wl_at hp, hT]; rfl
  subst hx
  refine va_bast B.1.1 B.1.2.1 B.2.1 hP (B.2.2.2.1 M) hS q0 1 he rfl (vp_in_nI hn hlen) hdg (fun H1 locs1 hP1 _ hS1 => kk H1 locs1 ls ?_ hS1 hL)
  rw [nI_clamp (by omega), vp_nar_byte, arrW_set hW hp hT hn] at hP1
  exact hP1
theorem a_aald {q0 ct q1 : Nat} {ps : List Nat} {x : Int32} {C : String} (n t0 : Nat) (B : BS sk D cy (wl A cy nP T X) A0 p s m args c own cc nL) (hp : q0 < nP) (hT : T q0 = .inr (.inr (ct, ps))) (ht : (tysC cy)[t0]? = some (cy ct, .object C)) (hx : x = nI n) (hn : ps[n]? = some q1) (hlen : ps.length < 2 ^ 31) (hdg : decode cc pc = .ok (.aaload, 1)) (kk : AW p l e R s m args below meth c D (wl A cy nP T X) A0 nL cells slots Q (pc + 1) (lo) (.ref (A q1) :: st) (M)) : AW p l e R s m args below meth c D (wl A cy nP T X) A0 nL cells slots Q (pc) (lo) (.int x :: .ref (A q0) :: st) (M) := by
  intro H locs ls hP hS hL
  have he : (wl A cy nP T X M)[q0]? = some (A q0, .inl (cy ct, ps.length, .inr (.inr (.inr (.inr (fun j => (ps[j]?).map A)))))) := by rw [wl_at hp, hT]; rfl
  have hn1 := (List.getElem?_eq_some_iff.mp hn).1
  subst hx
  refine va_aldq B.1.1 B.1.2.1 B.2.1 hP q0 t0 he ht (vp_in_nI hn1 hlen) hdg ?_
  rw [nI_clamp (by omega), hn]
  exact kk H locs ls hP hS hL
/-- a stretch of one bank comes to a stretch of another -/
def cpB (M : Mem) (b0 s0 b1 d0 n : Nat) : Mem := fun b' n' => if b' = b1 ∧ d0 ≤ n' ∧ n' < d0 + n then M b0 (s0 + (n' - d0)) else M b' n'
theorem a_acopy {q0 q1 b0 o0 l0 b1 o1 l1 : Nat} {x0 x1 xn : Int32} (s0 d0 n : Nat) {index : Nat} (B : BS sk D cy (wl A cy nP T X) A0 p s m args c own cc nL) (hW : TW nP T) (hp0 : q0 < nP) (hT0 : T q0 = .inr (.inl (0, b0, o0, l0))) (hp1 : q1 < nP) (hT1 : T q1 = .inr (.inl (0, b1, o1, l1))) (h0 : x0 = nI s0) (h1 : x1 = nI d0) (hn : xn = nI n) (hs : s0 + n ≤ l0) (hd : d0 + n ≤ l1) (hl0 : l0 < 2 ^ 31) (hl1 : l1 < 2 ^ 31)
    (hl : Cond.methodLink own index arraycopyName ∈ GW) (hnat : Cond.native arraycopyName ∈ GW) (hstat : Cond.static arraycopyName ∈ GW) (hini : Cond.initialized "java/lang/System" ∈ GW) (hw : (st.map fun v => v.category).sum + (nativeFrameWords "java/lang/System" "arraycopy" 5 + 11) ≤ R.locals) (hfr : 1 ≤ R.frames) (hdg : decode cc pc = .ok (.invokestatic index, 3))
    (kk : AW p l e R s m args below meth c D (wl A cy nP T X) A0 nL cells slots Q (pc + 3) (lo) (st) (cpB M b0 (o0 + s0) b1 (o1 + d0) n)) : AW p l e R s m args below meth c D (wl A cy nP T X) A0 nL cells slots Q (pc) (lo) (.int xn :: .int x1 :: .ref (A q1) :: .int x0 :: .ref (A q0) :: st) (M) := by
  intro H locs ls hP hS hL
  have he0 : (wl A cy nP T X M)[q0]? = some (A q0, .inl (cy 0, l0, .inl (fun j => if j < l0 then M b0 (o0 + j) else 0))) := by rw [wl_at hp0, hT0]; rfl
  have he1 : (wl A cy nP T X M)[q1]? = some (A q1, .inl (cy 0, l1, .inl (fun j => if j < l1 then M b1 (o1 + j) else 0))) := by rw [wl_at hp1, hT1]; rfl
  subst h0; subst h1; subst hn
  have k0 : (nI s0).toNatClampNeg = s0 := nI_clamp (by omega)
  have k1 : (nI d0).toNatClampNeg = d0 := nI_clamp (by omega)
  have k2 : (nI n).toNatClampNeg = n := nI_clamp (by omega)
  obtain ⟨w1, w2⟩ := hW q1 hp1
  rw [hT1] at w1 w2
  refine va_copyi B.1.1 B.1.2.1 (B.1.2.2.1.trans hL.1.symm) B.1.2.2.2.1 (B.1.2.2.2.2 _ hl) (B.1.2.2.2.2 _ hnat) (B.1.2.2.2.2 _ hstat) (B.1.2.2.2.2 _ hini) B.2.1 hP (B.2.2.2.1 M) hS q0 q1 0 0 he0 he1 rfl rfl rfl (nI_pos (by omega)) (nI_pos (by omega)) (nI_pos (by omega)) (by rw [k0, k2]; exact hs) (by rw [k1, k2]; exact hd) (fun _ _ => rfl) hfr hw hdg (fun H1 locs1 hP1 _ hS1 => kk H1 locs1 ls ?_ hS1 hL)
  rw [k0, k1, k2] at hP1
  have hin : ∀ j, j < n → (b1, o1 + (d0 + j)) ∈ rdC (.inr (.inl (0, b1, o1, l1))) := fun j hj => List.mem_map.mpr ⟨d0 + j, List.mem_range.mpr (show d0 + j < l1 by omega), rfl⟩
  have hset : (wl A cy nP T X M).set q1 (A q1, .inl (cy 0, l1, .inl (va_cpy (fun j => if j < l0 then M b0 (o0 + j) else 0) (fun j => if j < l1 then M b1 (o1 + j) else 0) s0 d0 n))) = wl A cy nP T X (cpB M b0 (o0 + s0) b1 (o1 + d0) n) := by
    refine wl_set hp1 ?_ (fun q hq hne => cvC_congr _ (fun r hr => ?_))
    · rw [hT1]
      show Sum.inl (cy 0, l1, Sum.inl _) = Sum.inl (cy 0, l1, Sum.inl _)
      congr 3
      congr 1
      funext j
      unfold cpB va_cpy
      dsimp only
      by_cases hj : d0 ≤ j ∧ j < d0 + n
      · rw [if_pos hj, if_pos (show s0 + (j - d0) < l0 by omega), if_pos (show j < l1 by omega), if_pos ⟨rfl, by omega, by omega⟩]
        congr 1
        omega
      · rw [if_neg hj]
        by_cases hjl : j < l1
        · rw [if_pos hjl, if_pos hjl, if_neg (fun q => hj ⟨by omega, by omega⟩)]
        · rw [if_neg hjl, if_neg hjl]
    · unfold cpB
      rw [if_neg]
      intro q2
      refine w2 _ (hin (r.2 - (o1 + d0)) (by omega)) q hq hne ?_
      have : r = (b1, o1 + (d0 + (r.2 - (o1 + d0)))) := Prod.ext q2.1 (by simp; omega)
      rw [← this]
      exact hr
  rw [← hset]
  exact hP1

end AWM
