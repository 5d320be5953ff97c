section PE7
theorem tap_eq {Mc Mr : Mem} (h : tpR Mc Mr) : tapB Mc = gM Mr := by
  have eL : tapeL Mc = tapR Mr := by unfold tapeL tapR; rw [h.2.1]
  funext k
  unfold tapB gM
  rw [eL]
  by_cases c : k < tapR Mr
  · rw [if_pos c, if_pos c, h.2.2 k c]
  · rw [if_neg c, if_neg c]
def PQ (x y : PR) : Prop := match x, y with
  | .inl u, .inl v => u.1 = v.1 ∧ MR u.2 v.2
  | .inr s, .inr t => s = t
  | _, _ => False
theorem may_n {what x : Int32} {m : Nat} (hw : what = 1 ∧ m = 999 ∨ (what = 2 ∨ what = 3) ∧ m = 255) (hx : ∃ a, a ≤ m ∧ x = nI a) : mayV what x = true := by
  obtain ⟨a, ha, rfl⟩ := hx
  rcases hw with ⟨rfl, rfl⟩ | ⟨rfl | rfl, rfl⟩
  · exact wi_in (t := 999) ha (by decide)
  · exact wi_in (t := 255) ha (by decide)
  · exact wi_in (t := 255) ha (by decide)
variable {g : Nat → Int32} {a b : Dm}
theorem per_q (h : MR a b) {e i p : Nat} {what : Int32} (hp : p < 8) (hw : what = 1 ∨ what = 2 ∨ what = 3) : PQ (perS g e a i p what) (perS g e b i p what) := by
  have hm : ∃ m, m ≤ 9999 ∧ (what = 1 ∧ m = 999 ∨ (what = 2 ∨ what = 3) ∧ m = 255) ∧ (if what = 1 then (999 : Int32) else 255) = nI m := by
    rcases hw with rfl | rfl | rfl
    · exact ⟨999, by omega, Or.inl ⟨rfl, rfl⟩, rfl⟩
    · exact ⟨255, by omega, Or.inr ⟨Or.inl rfl, rfl⟩, rfl⟩
    · exact ⟨255, by omega, Or.inr ⟨Or.inr rfl, rfl⟩, rfl⟩
  obtain ⟨m, m1, m2, m3⟩ := hm
  unfold perS
  rw [m3]
  cases isWq g e i with
  | false => exact ⟨rfl, h⟩
  | true =>
    simp only [if_true]
    cases hx : rnumS g (tokE g e) (nI m) with
    | none => exact rfl
    | some x => exact ⟨rfl, h.put hp (may_n m2 (rnum_nn m1 hx))⟩
theorem wat_q (h : MR a b) {e : Nat} : PQ (watS g e a) (watS g e b) := by
  unfold watS
  cases hx : rnumS g (tokE g e) 9 with
  | none => exact rfl
  | some x =>
    obtain ⟨k, k1, k2⟩ := rnum_nn (m := 9) (by omega) hx
    exact ⟨rfl, h.up (by omega) (by omega) (h.2.1.up (Or.inl (by omega)) k2 (fun _ _ => k1)) (h.2.2.1.up (Or.inl (by omega)) k2 (fun _ _ => k1))⟩
theorem out_q (h : MR a b) {e : Nat} : PQ (outS g e a) (outS g e b) := by
  unfold outS
  cases hx : rnumS g (tokE g e) 255 with
  | none => exact rfl
  | some x =>
    obtain ⟨k, k1, k2⟩ := rnum_nn (m := 255) (by omega) hx
    exact ⟨rfl, h.up (by omega) (by omega) (h.2.1.up (Or.inl (by omega)) k2 (fun _ _ => k1)) (h.2.2.1.up (Or.inl (by omega)) k2 (fun _ _ => k1))⟩
theorem tol_q (h : MR a b) {e : Nat} : PQ (tolS g e a) (tolS g e b) := by
  unfold tolS
  cases hx : rnumS g (tokE g e) 5 with
  | none => exact rfl
  | some x =>
    obtain ⟨i, i1, rfl⟩ := rnum_nn (m := 5) (by omega) hx
    simp only
    cases hy : rnumS g (tokE g (tokE g e)) 7 with
    | none => exact rfl
    | some y =>
      obtain ⟨j, j1, rfl⟩ := rnum_nn (m := 7) (by omega) hy
      simp only
      cases hz : rnumS g (tokE g (tokE g (tokE g e))) 40 with
      | none => exact rfl
      | some z =>
        obtain ⟨k, k1, rfl⟩ := rnum_nn (m := 40) (by omega) hz
        have en : nn (nI i) = i := nn_nI (by omega)
        refine ⟨rfl, ?_⟩
        show MR (upd a (6 + nn (nI i)) (100 * nI j + nI k)) (upd b (6 + nn (nI i)) (100 * nI j + nI k))
        rw [en]
        have ev : (100 : Int32) * nI j + nI k = nI (100 * j + k) := by rw [show (100 : Int32) = nI 100 from rfl, pk_mul, nI_add]
        exact h.up (by omega) (by omega) (h.2.1.upl (by omega) ev (by omega) (by omega)) (h.2.2.1.upl (by omega) ev (by omega) (by omega))
theorem pr2_q {x y : PR} {f f' : Nat → Dm → PR} (h : PQ x y) (hf : ∀ e a b, MR a b → PQ (f e a) (f' e b)) : PQ (pr2 x f) (pr2 y f') := by
  cases x with
  | inl u =>
    cases y with
    | inl v =>
      obtain ⟨e, u2⟩ := u
      obtain ⟨e', v2⟩ := v
      obtain ⟨h1, h2⟩ := h
      have h1 : e = e' := h1
      subst h1
      exact hf e u2 v2 h2
    | inr t => exact h.elim
  | inr s =>
    cases y with
    | inl v => exact h.elim
    | inr t => exact h
theorem pri_q (h : MR a b) {e : Nat} : PQ (priS g e a) (priS g e b) := by
  unfold priS
  cases hk : kinS g e with
  | none => exact rfl
  | some k =>
    simp only
    have hk7 := (kin_wq hk).1
    rw [h.1.1 0 (by omega), h.1.n]
    by_cases c : b 0 < 8
    · rw [if_pos c, if_pos c]
      have c' : a 0 < 8 := by rw [h.1.1 0 (by omega)]; exact c
      have hN : nOf b < 8 := (wel_inv h.2.2.1 c (kind := nI k) (sins := 255) ⟨k, by omega, rfl⟩ ⟨255, by omega, rfl⟩).1
      have hw := h.wel c' (kind := nI k) (sins := 255) ⟨k, by omega, rfl⟩ ⟨255, by omega, rfl⟩
      exact pr2_q (per_q hw hN (Or.inr (Or.inl rfl))) (fun e2 a2 b2 h2 => pr2_q (per_q h2 hN (Or.inr (Or.inr rfl))) (fun e3 a3 b3 h3 => per_q h3 hN (Or.inl rfl)))
    · rw [if_neg c, if_neg c]; exact rfl
theorem ite_q (h : MR a b) {e : Nat} : PQ (iteS g e a) (iteS g e b) := by
  unfold iteS
  cases isWq g e 0 with
  | true => exact tol_q h
  | false =>
    cases isWq g e 1 with
    | true => exact wat_q h
    | false =>
      cases isWq g e 2 with
      | true => exact out_q h
      | false => exact pri_q h
def TQ (x y : Int32 × Option Dm) : Prop := x.1 = y.1 ∧ ((x.2 = none ∧ y.2 = none) ∨ ∃ a' b', x.2 = some a' ∧ y.2 = some b' ∧ MR a' b')
theorem its_q : ∀ f e n (a b : Dm), MR a b → TQ (itsS g f e a n) (itsS g f e b n) := by
  intro f
  induction f with
  | zero => intro e n a b h; exact ⟨rfl, Or.inl ⟨rfl, rfl⟩⟩
  | succ f ih =>
    intro e n a b h
    have hq := ite_q (g := g) h (e := e)
    rw [itsS, itsS]
    cases hx : iteS g e a with
    | inr s =>
      cases hy : iteS g e b with
      | inr t =>
        rw [hx, hy] at hq
        have hq : s = t := hq
        subst hq
        exact ⟨rfl, Or.inl ⟨rfl, rfl⟩⟩
      | inl v => rw [hx, hy] at hq; exact hq.elim
    | inl u =>
      cases hy : iteS g e b with
      | inr t => rw [hx, hy] at hq; exact hq.elim
      | inl v =>
        rw [hx, hy] at hq
        obtain ⟨e1, u2⟩ := u
        obtain ⟨e2, v2⟩ := v
        obtain ⟨h1, h2⟩ := hq
        have h1 : e1 = e2 := h1
        subst h1
        simp only
        by_cases c : tokT g e1 = 0
        · rw [if_pos c, if_pos c]; exact ⟨rfl, Or.inr ⟨u2, v2, rfl, rfl, h2⟩⟩
        · rw [if_neg c, if_neg c]
          by_cases c3 : tokT g e1 = 3
          · rw [if_pos c3, if_pos c3]; exact ih _ _ _ _ h2
          · rw [if_neg c3, if_neg c3]; exact ⟨rfl, Or.inl ⟨rfl, rfl⟩⟩
theorem MR.lk {x : Dm} (h : MR a b) (hx : Inv x) : MR (likeF x a) b := by
  refine ⟨(Sim.like h.2.1).tr h.1, Inv.like hx h.2.1 _, h.2.2.1, fun j hj => ?_⟩
  obtain ⟨n, h1, h2, h3, h4⟩ := h.2.2.2 j hj
  refine ⟨n, h1, h2, h3, ?_⟩
  unfold likeF likeK
  rw [if_pos (by omega)]
  exact h4
theorem MR.e70 {b' : Dm} (h : MR a b) (he : ∀ j, j < 70 → b' j = b j) : MR a b' := by
  obtain ⟨N, hN, eN, eNo⟩ := h.2.2.1.n
  have en : nOf b' = nOf b := by unfold nOf; rw [he 0 (by omega)]
  refine ⟨h.1.tr ⟨fun j hj => (he j (by omega)).symm, fun p hp f hf => (he _ (by omega)).symm⟩, h.2.1, ?_, fun j hj => ?_⟩
  · exact ⟨fun j hj hj2 => by rw [he j (by omega)]; exact h.2.2.1.1 j hj hj2, fun j hj => by rw [he _ (by omega)]; exact h.2.2.1.2 j hj⟩
  · obtain ⟨n, h1, h2, h3, h4⟩ := h.2.2.2 j hj
    exact ⟨n, h1, by rw [en]; exact h2, by rw [he _ (by omega)]; exact h3, h4⟩
variable {l : Launch} {sk : (Nat → Nat) × (Nat → Nat)} {D : va_G} {cy : Nat → ClassId} {Ac Ar : Nat → Nat} {Mc Mr : Mem}
theorem d_text (h : Rel Mc Mr) : DUO Rel l sk D cy Ac Ar mX6_text mX7_text [] Value.int Mc Mr := by
  have hq : TQ (texX Mc) (itsS (gM Mr) 120 0 (Mr 0) 1) := by
    unfold texX
    rw [tap_eq h.2.2.2.1]
    exact its_q 120 0 1 _ _ (h.1.lk h.2.1)
  refine ⟨9, 7, _, _, by decide, by decide, fun X => k_X6_text Mc h.ci, fun X => m_text Mr h.2.2.2.1.1 h.iv, fun v M' hp => ⟨_, hp.1⟩, fun v M' hp => ⟨_, hp.1⟩, ?_⟩
  intro x x' Mc' Mr' hp hp'
  obtain ⟨p1, q', d', p2, p3, p4⟩ := hp
  obtain ⟨r1, r2, r3, r4, r5⟩ := hp'
  obtain ⟨t1, t2⟩ := hq
  refine ⟨?_, ?_⟩
  · injection p1 with p1
    injection p1 with p1
    injection r1 with r1
    injection r1 with r1
    rw [p1, r1, t1]
  · have hm : MR (texM Mc) (Mr' 0) := by
      unfold texM
      rcases t2 with ⟨z1, z2⟩ | ⟨a', b', z1, z2, z3⟩
      · rw [z1]
        rcases r5 with ⟨y1, -⟩ | ⟨-, -, y3⟩
        · rw [z2] at y1; cases y1
        · exact h.1.e70 y3
      · rw [z1]
        rcases r5 with ⟨y1, -⟩ | ⟨y1, -⟩
        · rw [z2] at y1
          injection y1 with y1
          subst y1
          exact z3.lk h.1.2.1
        · rw [z2] at y1; cases y1
    subst p4
    obtain ⟨h1, h2, h3, h4, h5, h6⟩ := h
    have et : tapR Mr' = 0 := by unfold tapR; rw [r4]; rfl
    refine ⟨?_, ?_, ?_, ?_, fun t ht => ?_, fun k hk => ?_⟩
    · rw [stB_at]; exact hm
    · rw [stB_ne (by decide), PM_2]; exact p2
    · unfold imR
      rw [stB_ne (show (1 : Nat) ≠ 0 by decide), stB_ne (show (3 : Nat) ≠ 0 by decide), PM_o (by decide) (by decide), PM_o (by decide) (by decide), r2 3 (by omega), r3]
      exact h3
    · unfold tpR tpOk
      rw [et, r4, stB_ne (show (4 : Nat) ≠ 0 by decide), PM_4, p3]
      exact ⟨⟨by omega, rfl, fun k hk => absurd hk (by omega)⟩, rfl, fun k hk => absurd hk (by omega)⟩
    · unfold shR
      rw [stB_ne (show 7 + t ≠ 0 by omega), PM_o (by omega) (by omega), r2 6 (by omega), r2 7 (by omega), r2 8 (by omega)]
      exact h5 t ht
    · rw [stB_ne (show (6 : Nat) ≠ 0 by decide), PM_o (by decide) (by decide), r2 4 (by omega)]; exact h6 k hk

end PE7
