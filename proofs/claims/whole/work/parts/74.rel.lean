section PE1
def spR (a b : Dm) : Prop := ∀ j, j < 10 → ∃ n, n ≤ 8 ∧ n ≤ nOf b ∧ b (60 + j) = nI n ∧ a (60 + j) = nI n - 1
def MR (a b : Dm) : Prop := Sim a b ∧ Inv a ∧ Inv b ∧ spR a b
def shR (Mc Mr : Mem) (t : Nat) : Prop := Mc (7 + t) 0 = Mr 6 t ∧ Mc (7 + t) 1 = Mr 7 t ∧ (∃ n, n ≤ 40 ∧ Mr 7 t = nI n) ∧ ∀ j, j < 40 → Mc (7 + t) (2 + j) = Mr 8 (40 * t + j)
def tpR (Mc Mr : Mem) : Prop := tpOk Mr ∧ Mc 4 5 = Mr 10 1 ∧ ∀ k, k < tapR Mr → Mc 5 k = Mr 5 k
def imR (Mc Mr : Mem) : Prop := Inv (Mc 1) ∧ Inv (Mr 3) ∧ Mc 3 0 = Mr 10 0 ∧ (Mr 10 0 ≠ 0 → MR (Mc 1) (Mr 3))
def Rel (Mc Mr : Mem) : Prop := MR (Mc 0) (Mr 0) ∧ Inv (Mc 2) ∧ imR Mc Mr ∧ tpR Mc Mr ∧ (∀ t, t < 4 → shR Mc Mr t) ∧ ∀ k, k < 7 → Mc 6 k = Mr 4 k
theorem Rel.ci {Mc Mr : Mem} (h : Rel Mc Mr) : CI Mc := by
  obtain ⟨h1, h2, h3, h4, h5, h6⟩ := h
  refine ⟨h1.2.1, h3.1, h2, ⟨tapR Mr, h4.1.1, h4.2.1.trans h4.1.2.1⟩, fun t ht => ?_⟩
  obtain ⟨a, b, ⟨n, hn, en⟩, c⟩ := h5 t ht
  exact ⟨n, hn, b.trans en⟩
theorem Rel.iv {Mc Mr : Mem} (h : Rel Mc Mr) : Inv (Mr 0) := h.1.2.2.1
theorem Rel.sz {Mc Mr : Mem} (h : Rel Mc Mr) : ∀ t, t < 4 → szOkR Mr t := fun t ht => (h.2.2.2.2.1 t ht).2.2.1
theorem tapR_e {M M' : Mem} (h : M' 10 1 = M 10 1) : tapR M' = tapR M := by unfold tapR; rw [h]
theorem Rel.fin {Mc Mr Mr' : Mem} {d : Dm} (h : Rel Mc Mr) (hd : Inv d) (he : eqM Mr Mr') : Rel (stB Mc 2 d) Mr' := by
  obtain ⟨h1, h2, h3, h4, h5, h6⟩ := h
  obtain ⟨e1, e2, e3⟩ := he
  have et := tapR_e e3
  refine ⟨?_, ?_, ?_, ?_, fun t ht => ?_, fun k hk => ?_⟩
  · rw [stB_ne (by decide), e1 0 (Or.inl rfl)]; exact h1
  · rw [stB_at]; exact hd
  · unfold imR
    rw [stB_ne (show (1 : Nat) ≠ 2 by decide), stB_ne (show (3 : Nat) ≠ 2 by decide), e1 3 (Or.inr (by omega)), e2]
    exact h3
  · unfold tpR tpOk
    rw [et, e3, e1 5 (Or.inr (by omega)), stB_ne (show (4 : Nat) ≠ 2 by decide), stB_ne (show (5 : Nat) ≠ 2 by decide)]
    exact h4
  · unfold shR
    rw [stB_ne (show 7 + t ≠ 2 by omega), e1 6 (Or.inr (by omega)), e1 7 (Or.inr (by omega)), e1 8 (Or.inr (by omega))]
    exact h5 t ht
  · rw [stB_ne (show (6 : Nat) ≠ 2 by decide), e1 4 (Or.inr (by omega))]; exact h6 k hk
theorem Rel.tell {Mc Mr : Mem} (h : Rel Mc Mr) (k : Nat) : Rel (tellB Mc k) (fnM Mr k) := by
  obtain ⟨h1, h2, h3, h4, h5, h6⟩ := h
  unfold tellB fnM
  have et : tapR (stB Mr 4 (upd (Mr 4) k (Mr 4 k + 1))) = tapR Mr := tapR_e (by rw [stB_ne (by decide)])
  refine ⟨?_, ?_, ?_, ?_, fun t ht => ?_, fun j hj => ?_⟩
  · rw [stB_ne (by decide), stB_ne (by decide)]; exact h1
  · rw [stB_ne (by decide)]; exact h2
  · unfold imR
    rw [stB_ne (show (1 : Nat) ≠ 6 by decide), stB_ne (show (3 : Nat) ≠ 6 by decide), stB_ne (show (3 : Nat) ≠ 4 by decide), stB_ne (show (10 : Nat) ≠ 4 by decide)]
    exact h3
  · unfold tpR tpOk
    rw [et, stB_ne (show (10 : Nat) ≠ 4 by decide), stB_ne (show (5 : Nat) ≠ 4 by decide), stB_ne (show (4 : Nat) ≠ 6 by decide), stB_ne (show (5 : Nat) ≠ 6 by decide)]
    exact h4
  · unfold shR
    rw [stB_ne (show 7 + t ≠ 6 by omega), stB_ne (show (6 : Nat) ≠ 4 by decide), stB_ne (show (7 : Nat) ≠ 4 by decide), stB_ne (show (8 : Nat) ≠ 4 by decide)]
    exact h5 t ht
  · rw [stB_at, stB_at]
    by_cases e : j = k
    · subst e; rw [pk_us, pk_us, h6 j hj]
    · rw [pk_un e, pk_un e]; exact h6 j hj
/-- the missions of both sides are replaced -/
theorem Rel.mis {Mc Mr : Mem} {a b : Dm} (h : Rel Mc Mr) (hm : MR a b) : Rel (stB Mc 0 a) (stB Mr 0 b) := by
  obtain ⟨h1, h2, h3, h4, h5, h6⟩ := h
  have et : tapR (stB Mr 0 b) = tapR Mr := tapR_e (by rw [stB_ne (by decide)])
  refine ⟨?_, ?_, ?_, ?_, fun t ht => ?_, fun k hk => ?_⟩
  · rw [stB_at, stB_at]; exact hm
  · rw [stB_ne (by decide)]; exact h2
  · unfold imR
    rw [stB_ne (show (1 : Nat) ≠ 0 by decide), stB_ne (show (3 : Nat) ≠ 0 by decide), stB_ne (show (3 : Nat) ≠ 0 by decide), stB_ne (show (10 : Nat) ≠ 0 by decide)]
    exact h3
  · unfold tpR tpOk
    rw [et, stB_ne (show (10 : Nat) ≠ 0 by decide), stB_ne (show (5 : Nat) ≠ 0 by decide), stB_ne (show (4 : Nat) ≠ 0 by decide), stB_ne (show (5 : Nat) ≠ 0 by decide)]
    exact h4
  · unfold shR
    rw [stB_ne (show 7 + t ≠ 0 by omega), stB_ne (show (6 : Nat) ≠ 0 by decide), stB_ne (show (7 : Nat) ≠ 0 by decide), stB_ne (show (8 : Nat) ≠ 0 by decide)]
    exact h5 t ht
  · rw [stB_ne (show (6 : Nat) ≠ 0 by decide), stB_ne (show (4 : Nat) ≠ 0 by decide)]; exact h6 k hk
section
variable {l : Launch} {sk : (Nat → Nat) × (Nat → Nat)} {D : va_G} {cy : Nat → ClassId} {Ac Ar : Nat → Nat} {Mc Mr M1 M2 : Mem} {y y' : MD} {as : List Value} {h h' : Nat}
theorem duo_of {x x' : Oc} (hRel : Rel Mc Mr) (hh : h ≤ 12) (hh' : h' ≤ 12) (hC : ∀ X, CC l sk D cy Ac X y h (.ref (Ac 0) :: as) Mc (rQ x M1 Mc)) (hR : ∀ X, CR l sk D cy Ar X y' h' (.ref (Ar 0) :: as) Mr (rR x' M2 Mr)) (hx : x = x') (hr : ∀ r, x = .inl r → Rel M1 M2) : DUO Rel l sk D cy Ac Ar y y' as Value.int Mc Mr := by
  refine ⟨h, h', _, _, hh, hh', hC, hR, ?_, ?_, ?_⟩
  · intro v M' hp
    cases x with
    | inl r => exact ⟨_, hp.1⟩
    | inr k => exact ⟨_, hp.1⟩
  · intro v M' hp
    cases x' with
    | inl r => exact ⟨_, hp.1⟩
    | inr k => exact ⟨_, hp.1⟩
  · intro z z' Mc' Mr' hp hp'
    subst hx
    cases x with
    | inl r =>
      obtain ⟨a1, d', a2, a3⟩ := hp
      obtain ⟨b1, b2⟩ := hp'
      refine ⟨?_, ?_⟩
      · have e := a1.trans b1.symm
        injection e with e; injection e
      · rw [a3]; exact (hr r rfl).fin a2 b2
    | inr k =>
      obtain ⟨a1, d', a2, a3⟩ := hp
      obtain ⟨b1, b2⟩ := hp'
      refine ⟨?_, ?_⟩
      · have e := a1.trans b1.symm
        injection e with e; injection e
      · rw [a3]; exact (hRel.tell k).fin a2 b2
theorem duo_L {x x' : Int64 ⊕ Nat} (hRel : Rel Mc Mr) (hh : h ≤ 12) (hh' : h' ≤ 12) (hC : ∀ X, CC l sk D cy Ac X y h (.ref (Ac 0) :: as) Mc (rQL x M1 Mc)) (hR : ∀ X, CR l sk D cy Ar X y' h' (.ref (Ar 0) :: as) Mr (rRL x' M2 Mr)) (hx : x = x') (hr : ∀ r, x = .inl r → Rel M1 M2) : DUO Rel l sk D cy Ac Ar y y' as Value.long Mc Mr := by
  refine ⟨h, h', _, _, hh, hh', hC, hR, ?_, ?_, ?_⟩
  · intro v M' hp
    cases x with
    | inl r => exact ⟨_, hp.1⟩
    | inr k => exact ⟨_, hp.1⟩
  · intro v M' hp
    cases x' with
    | inl r => exact ⟨_, hp.1⟩
    | inr k => exact ⟨_, hp.1⟩
  · intro z z' Mc' Mr' hp hp'
    subst hx
    cases x with
    | inl r =>
      obtain ⟨a1, d', a2, a3⟩ := hp
      obtain ⟨b1, b2⟩ := hp'
      refine ⟨?_, ?_⟩
      · have e := a1.trans b1.symm
        injection e with e; injection e
      · rw [a3]; exact (hr r rfl).fin a2 b2
    | inr k =>
      obtain ⟨a1, d', a2, a3⟩ := hp
      obtain ⟨b1, b2⟩ := hp'
      refine ⟨?_, ?_⟩
      · have e := a1.trans b1.symm
        injection e with e; injection e
      · rw [a3]; exact (hRel.tell k).fin a2 b2
/-- a call that only asks -/
theorem duo_q {x x' : Oc} (hRel : Rel Mc Mr) (hh : h ≤ 12) (hh' : h' ≤ 12) (hC : ∀ X, CC l sk D cy Ac X y h (.ref (Ac 0) :: as) Mc (rQ x Mc Mc)) (hR : ∀ X, CR l sk D cy Ar X y' h' (.ref (Ar 0) :: as) Mr (rR x' Mr Mr)) (hx : x = x') : DUO Rel l sk D cy Ac Ar y y' as Value.int Mc Mr := duo_of hRel hh hh' hC hR hx (fun _ _ => hRel)
/-- a call that changes the mission -/
theorem duo_m {x x' : Oc × Dm} (hRel : Rel Mc Mr) (hh : h ≤ 12) (hh' : h' ≤ 12) (hC : ∀ X, CC l sk D cy Ac X y h (.ref (Ac 0) :: as) Mc (rQ x.1 (stB Mc 0 x.2) Mc)) (hR : ∀ X, CR l sk D cy Ar X y' h' (.ref (Ar 0) :: as) Mr (rR x'.1 (stB Mr 0 x'.2) Mr)) (hx : x.1 = x'.1) (hm : MR x.2 x'.2) : DUO Rel l sk D cy Ac Ar y y' as Value.int Mc Mr := duo_of hRel hh hh' hC hR hx (fun _ _ => hRel.mis hm)
end

end PE1
