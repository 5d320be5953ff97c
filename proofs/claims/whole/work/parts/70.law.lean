section LW1
theorem va_P_swap {D : va_G} {cl : List vw_C} {w1 w2 : va_W} {H : Heap} (h : va_P D cl (w1 ++ w2) H) : va_P D cl (w2 ++ w1) H := by
  intro k q hq
  have hm : q ∈ w1 ++ w2 := by
    rcases List.mem_append.mp (List.mem_of_getElem? hq) with hm | hm
    · exact List.mem_append_right _ hm
    · exact List.mem_append_left _ hm
  obtain ⟨j, hj⟩ := List.getElem?_of_mem hm
  exact h j q hj
theorem va_D_swap {A : Nat → Prop} {w1 w2 : va_W} (h : va_D A (w1 ++ w2)) : va_D A (w2 ++ w1) := by
  have tr : ∀ (i : Nat) (p : Nat × va_E), (w2 ++ w1)[i]? = some p → ∃ i', (w1 ++ w2)[i']? = some p ∧ i' = (if i < w2.length then w1.length + i else i - w2.length) ∧ i < w2.length + w1.length := by
    intro i p hi
    have hlt := (List.getElem?_eq_some_iff.mp hi).1
    rw [List.length_append] at hlt
    by_cases hq : i < w2.length
    · rw [List.getElem?_append_left hq] at hi
      exact ⟨w1.length + i, by rw [List.getElem?_append_right (by omega), Nat.add_sub_cancel_left]; exact hi, by rw [if_pos hq], hlt⟩
    · rw [List.getElem?_append_right (by omega)] at hi
      exact ⟨i - w2.length, by rw [List.getElem?_append_left (by omega)]; exact hi, by rw [if_neg hq], hlt⟩
  refine ⟨fun i j p q hi hj e => ?_, fun k q hk => ?_⟩
  · obtain ⟨i', a1, a2, a3⟩ := tr i p hi
    obtain ⟨j', b1, b2, b3⟩ := tr j q hj
    have := h.1 i' j' p q a1 b1 e
    split at a2 <;> split at b2 <;> omega
  · obtain ⟨k', a1, a2, a3⟩ := tr k q hk
    exact h.2 k' q a1
def lwd (cy : Nat → ClassId) (Ac Ar : Nat → Nat) : Mem × Mem → va_W := fun M => wl Ac cy 51 TC (wl Ar cy 11 TM [] M.2) M.1
theorem lwd_P {D : va_G} {cl : List vw_C} {cy : Nat → ClassId} {Ac Ar : Nat → Nat} {Mc Mr : Mem} {H : Heap} : va_P D cl (lwd cy Ac Ar (Mc, Mr)) H ↔ va_P D cl (wl Ar cy 11 TM (wl Ac cy 51 TC [] Mc) Mr) H := by
  unfold lwd wl
  rw [List.append_nil, List.append_nil]
  exact ⟨va_P_swap, va_P_swap⟩
theorem lwd_D {A : Nat → Prop} {cy : Nat → ClassId} {Ac Ar : Nat → Nat} {Mc Mr : Mem} (h : va_D A (lwd cy Ac Ar (Mc, Mr))) : va_D A (wl Ar cy 11 TM (wl Ac cy 51 TC [] Mc) Mr) := by
  unfold lwd wl at h
  unfold wl
  rw [List.append_nil] at h ⊢
  exact va_D_swap h
/-- one call on either side: contracts, whole numbers as answers, the same answer, and the relation kept -/
def DUO {α : Type} (Rel : Mem → Mem → Prop) (l : Launch) (sk : (Nat → Nat) × (Nat → Nat)) (D : va_G) (cy : Nat → ClassId) (Ac Ar : Nat → Nat) (y y' : MD) (as : List Value) (mk : α → Value) (Mc Mr : Mem) : Prop := ∃ (h h' : Nat) (P P' : Option Value → Mem → Prop), h ≤ 12 ∧ h' ≤ 12 ∧ (∀ X, CC l sk D cy Ac X y h (.ref (Ac 0) :: as) Mc P) ∧ (∀ X, CR l sk D cy Ar X y' h' (.ref (Ar 0) :: as) Mr P') ∧ (∀ v M', P v M' → ∃ x, v = some (mk x)) ∧ (∀ v M', P' v M' → ∃ x, v = some (mk x)) ∧ ∀ x x' Mc' Mr', P (some (mk x)) Mc' → P' (some (mk x')) Mr' → x = x' ∧ Rel Mc' Mr'
variable {p : Program} {l : Launch} {e : Env} {s : State} {m : MethodId} {args : Array Value} {below : List Frame} {meth : Method} {c : Code} {sk : (Nat → Nat) × (Nat → Nat)} {D : va_G} {cy : Nat → ClassId} {A0 : Nat → Prop} {own : String} {cc : ByteArray} {nL cells slots : Nat} {Q : State → Prop} {pc : Nat} {lo : List (Option Value)} {st : List Value} {Ac Ar : Nat → Nat} {Mc Mr : Mem}
theorem l_callC {y : MD} {n fr lc index : Nat} {As st0 : List Value} {PostC : Option Value → Mem → Prop} (B : BS sk D cy (lwd cy Ac Ar) A0 p s m args c own cc nL) (hF : CF y n) (hl : Cond.methodLink own index y.1 ∈ GW) (hi : Cond.instanceMethod y.1 ∈ GW) (hse : Cond.selects y.1.cls y.1 y.1 ∈ GW) (hcls : RX6 = y.1.cls) (hC : ∀ X, Con l sk D cy (wl Ac cy 51 TC X) y fr lc (.ref (Ac 0) :: As) Mc PostC) (hdg : decode cc pc = .ok (.invokevirtual index, 3)) (hst : st0 = As.reverse ++ .ref (Ac 0) :: st) (hn : As.length = n) (hw : (st.map fun v => v.category).sum ≤ 8) (hR : fr + 1 ≤ 13 ∧ 8 + (y.2.2.1 + 11) + lc ≤ 478) (hcs : cells ≤ 600000 ∧ slots ≤ 7302250)
    (kk : ∀ (v : Option Value) (M' : Mem), PostC v M' → AW p l e room_1 s m args below meth c D (lwd cy Ac Ar) A0 nL cells slots Q (pc + 3) lo (v.toList ++ st) (M', Mr)) : AW p l e room_1 s m args below meth c D (lwd cy Ac Ar) A0 nL cells slots Q pc lo st0 (Mc, Mr) := by
  have B1 : BS sk D cy (wl Ac cy 51 TC (wl Ar cy 11 TM [] Mr)) A0 p s m args c own cc nL := ⟨B.1, B.2.1, B.2.2.1, fun M => B.2.2.2.1 (M, Mr), B.2.2.2.2.1, B.2.2.2.2.2.1, fun M M' => B.2.2.2.2.2.2 (M, Mr) (M', Mr)⟩
  exact fun H locs ls hP hS hL => a_callV (R := room_1) B1 hF hl hi hse (hcls ▸ wl_rc (p0 := 0) (by decide) rfl rfl rfl) (hC _) hdg hst hn hw hR hcs (fun v M' hp H locs ls hP hS hL => kk v M' hp H locs ls hP hS hL) H locs ls hP hS hL
theorem l_callR {y : MD} {n fr lc index : Nat} {As st0 : List Value} {PostC : Option Value → Mem → Prop} (B : BS sk D cy (lwd cy Ac Ar) A0 p s m args c own cc nL) (hF : CF y n) (hl : Cond.methodLink own index y.1 ∈ GW) (hi : Cond.instanceMethod y.1 ∈ GW) (hse : Cond.selects y.1.cls y.1 y.1 ∈ GW) (hcls : RX7 = y.1.cls) (hC : ∀ X, Con l sk D cy (wl Ar cy 11 TM X) y fr lc (.ref (Ar 0) :: As) Mr PostC) (hdg : decode cc pc = .ok (.invokevirtual index, 3)) (hst : st0 = As.reverse ++ .ref (Ar 0) :: st) (hn : As.length = n) (hw : (st.map fun v => v.category).sum ≤ 8) (hR : fr + 1 ≤ 13 ∧ 8 + (y.2.2.1 + 11) + lc ≤ 478) (hcs : cells ≤ 600000 ∧ slots ≤ 7302250)
    (kk : ∀ (v : Option Value) (M' : Mem), PostC v M' → AW p l e room_1 s m args below meth c D (lwd cy Ac Ar) A0 nL cells slots Q (pc + 3) lo (v.toList ++ st) (Mc, M')) : AW p l e room_1 s m args below meth c D (lwd cy Ac Ar) A0 nL cells slots Q pc lo st0 (Mc, Mr) := by
  have B1 : BS sk D cy (wl Ar cy 11 TM (wl Ac cy 51 TC [] Mc)) A0 p s m args c own cc nL := ⟨B.1, B.2.1, B.2.2.1, fun M => lwd_D (B.2.2.2.1 (Mc, M)), B.2.2.2.2.1, B.2.2.2.2.2.1, fun M M' => wl_fst⟩
  exact fun H locs ls hP hS hL => a_callV (R := room_1) B1 hF hl hi hse (hcls ▸ wl_rc (p0 := 0) (by decide) rfl rfl rfl) (hC _) hdg hst hn hw hR hcs (fun v M' hp H locs ls hP hS hL => kk v M' hp H locs ls (lwd_P.mpr hP) hS hL) H locs ls (lwd_P.mp hP) hS hL
section LWS
variable {σ : Type} {wd : σ → va_W} {M : σ} {R : Room}
theorem l_sld {b L : Nat} {xs : Nat → Int32} {x : Int32} (j : Nat) (B : BS sk D cy wd A0 p s m args c own cc nL) (hX : va_X b L xs s s.heap) (hbl : b < s.heap.size) (hbA : ¬ A0 b) (hx : x = nI j) (hj : j < L) (hL : L ≤ 3072) (hdg : decode cc pc = .ok (.iaload, 1)) (kk : AW p l e R s m args below meth c D wd A0 nL cells slots Q (pc + 1) lo (.int (xs j) :: st) M) : AW p l e R s m args below meth c D wd A0 nL cells slots Q pc lo (.int x :: .ref b :: st) M := by
  intro H locs ls hP hS hLs
  subst hx
  refine va_sld B.1.1 B.1.2.1 hX hbl hbA hS (vp_in_nI hj (by omega)) hdg ?_
  rw [nI_clamp (by omega)]
  exact kk H locs ls hP hS hLs
theorem l_slen {b L : Nat} {xs : Nat → Int32} (B : BS sk D cy wd A0 p s m args c own cc nL) (hX : va_X b L xs s s.heap) (hbl : b < s.heap.size) (hbA : ¬ A0 b) (hdg : decode cc pc = .ok (.arraylength, 1)) (kk : AW p l e R s m args below meth c D wd A0 nL cells slots Q (pc + 1) lo (.int (nI L) :: st) M) : AW p l e R s m args below meth c D wd A0 nL cells slots Q pc lo (.ref b :: st) M := by
  intro H locs ls hP hS hLs
  exact va_slen B.1.1 B.1.2.1 hX hbl hbA hS hdg (kk H locs ls hP hS hLs)
end LWS

end LW1
