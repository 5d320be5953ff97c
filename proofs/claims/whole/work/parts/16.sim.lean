def Sim (a b : Dm) : Prop := (∀ j, j < 12 → a j = b j) ∧ ∀ p, p < nOf a → ∀ f, f < 6 → a (12 + 8 * f + p) = b (12 + 8 * f + p)
theorem Sim.rf (a : Dm) : Sim a a := ⟨fun _ _ => rfl, fun _ _ _ _ => rfl⟩
theorem Sim.n {a b : Dm} (h : Sim a b) : nOf a = nOf b := by unfold nOf; rw [h.1 0 (by omega)]
theorem Sim.sy {a b : Dm} (h : Sim a b) : Sim b a := ⟨fun j hj => (h.1 j hj).symm, fun p hp f hf => (h.2 p (by rw [h.n]; exact hp) f hf).symm⟩
theorem Sim.tr {a b c : Dm} (h : Sim a b) (h2 : Sim b c) : Sim a c := ⟨fun j hj => (h.1 j hj).trans (h2.1 j hj), fun p hp f hf => (h.2 p hp f hf).trans (h2.2 p (by rw [← h.n]; exact hp) f hf)⟩
theorem Sim.k {a b : Dm} (h : Sim a b) {p : Nat} (hp : p < nOf a) : a (12 + p) = b (12 + p) := h.2 p hp 0 (by omega)
theorem Sim.s {a b : Dm} (h : Sim a b) {p : Nat} (hp : p < nOf a) : a (20 + p) = b (20 + p) := h.2 p hp 1 (by omega)
theorem Sim.t {a b : Dm} (h : Sim a b) {p : Nat} (hp : p < nOf a) : a (28 + p) = b (28 + p) := h.2 p hp 2 (by omega)
theorem Sim.kn {a b : Dm} (h : Sim a b) {p : Nat} (hp : p < nOf a) : a (36 + p) = b (36 + p) := h.2 p hp 3 (by omega)
theorem Sim.he {a b : Dm} (h : Sim a b) {p : Nat} (hp : p < nOf a) : a (44 + p) = b (44 + p) := h.2 p hp 4 (by omega)
theorem Sim.il {a b : Dm} (h : Sim a b) {p : Nat} (hp : p < nOf a) : a (52 + p) = b (52 + p) := h.2 p hp 5 (by omega)
theorem Sim.up {a b : Dm} (h : Sim a b) {j : Nat} (hj : j ≠ 0) {v w : Int32} (hv : v = w) : Sim (upd a j v) (upd b j w) := by
  subst hv
  refine ⟨fun q hq => ?_, fun p hp f hf => ?_⟩
  · by_cases e : q = j
    · subst e; rw [pk_us, pk_us]
    · rw [pk_un e, pk_un e]; exact h.1 q hq
  · rw [nOf_upd hj] at hp
    by_cases e : 12 + 8 * f + p = j
    · rw [e, pk_us, pk_us]
    · rw [pk_un e, pk_un e]; exact h.2 p hp f hf
theorem Sim.hold {a b : Dm} (h : Sim a b) {p : Nat} (hp : p < nOf a) : holdF a p = holdF b p := by unfold holdF; rw [h.k hp, h.kn hp, h.he hp]
theorem Sim.room {a b : Dm} (h : Sim a b) {p : Nat} (hp : p < nOf a) : roomF a p = roomF b p := by unfold roomF; rw [h.hold hp, h.s hp]
theorem Sim.swell {a b : Dm} (h : Sim a b) {p : Nat} (hp : p < nOf a) {s w : Int32} : swellF a p s w = swellF b p s w := by unfold swellF; rw [h.k hp, h.kn hp, h.1 3 (by omega)]
theorem Sim.dig {a b : Dm} (h : Sim a b) {p : Nat} (hp : p < nOf a) : digF a p = digF b p := by unfold digF; rw [h.k hp, h.1 3 (by omega), h.1 1 (by omega)]
theorem Sim.keep {a b : Dm} (h : Sim a b) {p : Nat} (hp : p < nOf a) : keepF a p = keepF b p := by unfold keepF; rw [h.k hp, h.kn hp]
theorem Sim.tak {a b : Dm} (h : Sim a b) {p : Nat} (hp : p < nOf a) {s : Int32} : takB a s p = takB b s p := by unfold takB; rw [h.t hp]
theorem Sim.best {a b : Dm} (h : Sim a b) {P P' : Nat → Bool} : ∀ n, n ≤ nOf a → (∀ p, p < n → P p = P' p) → bestF a P n = bestF b P' n := by
  intro n
  induction n with
  | zero => intro _ _; rfl
  | succ n ih =>
    intro hn hP
    unfold bestF
    rw [ih (by omega) (fun p hp => hP p (by omega)), hP n (by omega)]
    cases hb : bestF b P' n with
    | none => rfl
    | some q =>
      have := best_lt _ _ _ _ hb
      simp only
      rw [h.room (show q < nOf a by omega), h.room (show n < nOf a by omega)]
theorem Sim.eat {a b : Dm} (h : Sim a b) {p : Nat} (hp : p < nOf a) {s w : Int32} : Sim (eatF a p s w) (eatF b p s w) := by
  unfold eatF
  have h1 : Sim (upd a (20 + p) (hld (a (20 + p) + swellF a p s w) 0 999)) (upd b (20 + p) (hld (b (20 + p) + swellF b p s w) 0 999)) := h.up (by omega) (by rw [h.s hp, h.swell hp])
  have n1 : p < nOf (upd a (20 + p) (hld (a (20 + p) + swellF a p s w) 0 999)) := by rw [nOf_upd (by omega)]; exact hp
  have h2 := h1.up (j := 36 + p) (by omega) (v := _ ||| (1 : Int32) <<< (s &&& 31)) (congrArg (fun z => z ||| (1 : Int32) <<< (s &&& 31)) (h1.kn n1))
  refine h2.up (by omega) ?_
  rw [h2.he (by rw [nOf_upd (by omega)]; exact n1)]
theorem Sim.tod {a b : Dm} (h : Sim a b) : todN a = todN b := by unfold todN; rw [h.1 1 (by omega)]
theorem Sim.conf {a b : Dm} (h : Sim a b) (cf : Int32) : Sim (confF a cf) (confF b cf) := by
  unfold confF
  by_cases h0 : rmI cf 100 = 0
  · rw [if_pos h0, if_pos h0]; exact h
  · rw [if_neg h0, if_neg h0, h.best (P' := takB b (cf / 100)) (nOf a) (Nat.le_refl _) (fun p hp => h.tak hp), h.n]
    cases hb : bestF b (takB b (cf / 100)) (nOf b) with
    | none => exact h.up (by omega) (by rw [h.1 5 (by omega)])
    | some q => exact h.eat (by rw [h.n]; exact best_lt _ _ _ _ hb)
theorem Sim.vIll1 {a b : Dm} (h : Sim a b) {p : Nat} (hp : p < nOf a) : Sim (ill1 a p) (ill1 b p) := by
  show Sim (if roomF a p < 0 then fallF (upd a 4 (a 4 ||| (if keepF a p = true then 0 else a (36 + p)))) p else a) (if roomF b p < 0 then fallF (upd b 4 (b 4 ||| (if keepF b p = true then 0 else b (36 + p)))) p else b)
  rw [h.room hp]
  by_cases h0 : roomF b p < 0
  · rw [if_pos h0, if_pos h0]
    have h1 : Sim (upd a 4 (a 4 ||| (if keepF a p = true then 0 else a (36 + p)))) (upd b 4 (b 4 ||| (if keepF b p = true then 0 else b (36 + p)))) := h.up (by omega) (by rw [h.1 4 (by omega), h.keep hp, h.kn hp])
    have h3 := (h1.up (j := 36 + p) (by omega) (v := 0) rfl).up (j := 20 + p) (by omega) (v := 0) rfl
    refine h3.up (by omega) ?_
    rw [h3.il (by rw [nOf_upd (by omega), nOf_upd (by omega), nOf_upd (by omega)]; exact hp)]
  · rw [if_neg h0, if_neg h0]; exact h
theorem ill1_n {d : Dm} {p : Nat} : nOf (ill1 d p) = nOf d := by
  unfold nOf
  rw [ill1_off (by omega) (by omega) (by omega) (by omega)]
theorem illF_n {d : Dm} : ∀ n, nOf (illF d n) = nOf d := by
  intro n
  induction n with
  | zero => rfl
  | succ n ih => exact ill1_n.trans ih
theorem digA_n {d : Dm} : ∀ n, nOf (digA d n) = nOf d := by
  intro n
  induction n with
  | zero => rfl
  | succ n ih => exact (nOf_upd (by omega)).trans ih
theorem Sim.vIll {a b : Dm} (h : Sim a b) : ∀ n, n ≤ nOf a → Sim (illF a n) (illF b n) := by
  intro n
  induction n with
  | zero => intro _; exact h
  | succ n ih => intro hn; exact (ih (by omega)).vIll1 (by rw [illF_n]; omega)
theorem Sim.vDig1 {a b : Dm} (h : Sim a b) {p : Nat} (hp : p < nOf a) : Sim (upd a (20 + p) (hld (a (20 + p) - digF a p) 0 999)) (upd b (20 + p) (hld (b (20 + p) - digF b p) 0 999)) := h.up (by omega) (by rw [h.s hp, h.dig hp])
theorem Sim.vDig {a b : Dm} (h : Sim a b) : ∀ n, n ≤ nOf a → Sim (digA a n) (digA b n) := by
  intro n
  induction n with
  | zero => intro _; exact h
  | succ n ih => intro hn; exact (ih (by omega)).vDig1 (by rw [digA_n]; omega)
theorem Sim.day {a b : Dm} (h : Sim a b) (hI : Inv a) : Sim (dayF a) (dayF b) := by
  obtain ⟨N, hN, eN, eNo⟩ := hI.n
  have e1 : a (6 + todN a) = b (6 + todN b) := by rw [← h.tod]; exact h.1 _ (by have := hI.tod.1; omega)
  have h1 := h.conf (a (6 + todN a))
  have n1 : nOf (confF a (a (6 + todN a))) = nOf a := conf_n (by omega)
  have h2 := h1.vIll (nOf a) (by omega)
  have h3 := h2.vDig (nOf a) (by rw [illF_n]; omega)
  have h4 := h3.up (j := 1) (by omega) (v := hld (_ + 1) 0 99999) (congrArg (fun z => hld (z + 1) 0 99999) (h3.1 1 (by omega)))
  unfold dayF
  rw [← e1, ← h.n]
  exact h4
theorem Sim.days {a b : Dm} (h : Sim a b) (hI : Inv a) : ∀ n, Sim (daysF a n) (daysF b n) := by
  intro n
  induction n with
  | zero => exact h
  | succ n ih => exact ih.day (hI.vDays n)
theorem Sim.like {d e : Dm} (hI : Inv e) : Sim (likeF d e) e := by
  obtain ⟨N, hN, eN, eNo⟩ := hI.n
  refine ⟨fun j hj => by unfold likeF likeK; rw [if_pos (Or.inl hj)], fun p hp f hf => ?_⟩
  rw [likeF_nOf] at hp
  unfold likeF likeK
  rw [if_neg (by omega), if_pos (by omega)]
theorem Sim.tell {a b : Dm} (h : Sim a b) {p : Nat} (hp : p < nOf a) {w : Int32} : tellV a p w = tellV b p w := by
  unfold tellV
  rw [h.k hp, h.s hp, h.t hp, h.kn hp, h.he hp, h.il hp, h.hold hp, h.room hp, h.dig hp, h.keep hp]
theorem Sim.sum {a b : Dm} (h : Sim a b) {w : Int32} : ∀ n, n ≤ nOf a → sumT a w n = sumT b w n := by
  intro n
  induction n with
  | zero => intro _; rfl
  | succ n ih => intro hn; rw [sumT, sumT, ih (by omega), h.tell (show n < nOf a by omega)]
theorem Sim.tog {a b : Dm} (h : Sim a b) {w : Int32} : ∀ n, n ≤ nOf a → togT a w n = togT b w n := by
  intro n
  induction n with
  | zero => intro _; rfl
  | succ n ih => intro hn; rw [togT, togT, ih (by omega), h.tell (show n < nOf a by omega)]
theorem days_n {d : Dm} (hI : Inv d) : ∀ n, nOf (daysF d n) = nOf d := by
  intro n
  induction n with
  | zero => rfl
  | succ n ih => exact (nOf_day (hI.vDays n)).trans ih
