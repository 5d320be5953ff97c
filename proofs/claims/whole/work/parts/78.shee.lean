section PE5
theorem Rel.tab {Mc Mr Mc' Mr' : Mem} (h : Rel Mc Mr) (hc : ∀ b, b < 7 → Mc' b = Mc b) (hr : ∀ b, b ≠ 6 → b ≠ 7 → b ≠ 8 → Mr' b = Mr b) (h5 : ∀ t, t < 4 → shR Mc' Mr' t) : Rel Mc' Mr' := by
  obtain ⟨h1, h2, h3, h4, -, h6⟩ := h
  have e10 := hr 10 (by decide) (by decide) (by decide)
  have et : tapR Mr' = tapR Mr := tapR_e (by rw [e10])
  refine ⟨?_, ?_, ?_, ?_, h5, fun k hk => ?_⟩
  · rw [hc 0 (by omega), hr 0 (by decide) (by decide) (by decide)]; exact h1
  · rw [hc 2 (by omega)]; exact h2
  · unfold imR
    rw [hc 1 (by omega), hc 3 (by omega), hr 3 (by decide) (by decide) (by decide), e10]
    exact h3
  · unfold tpR tpOk
    rw [et, e10, hr 5 (by decide) (by decide) (by decide), hc 4 (by omega), hc 5 (by omega)]
    exact h4
  · rw [hc 6 (by omega), hr 4 (by decide) (by decide) (by decide)]; exact h6 k hk
theorem Rel.szN {Mc Mr : Mem} (h : Rel Mc Mr) {t : Nat} (ht : t < 4) : szN Mc t = szR Mr t ∧ szR Mr t ≤ 40 ∧ Mr 7 t = nI (szR Mr t) ∧ Mc (7 + t) 1 = nI (szR Mr t) := by
  obtain ⟨a, b, ⟨n, n1, n2⟩, c⟩ := h.2.2.2.2.1 t ht
  have e1 : szR Mr t = n := by unfold szR; rw [n2, nn_nI (by omega)]
  refine ⟨?_, by omega, by rw [e1]; exact n2, by rw [e1]; exact b.trans n2⟩
  rw [e1]
  show (Mc (7 + t) 1).toNatClampNeg = n
  rw [b, n2, nI_clamp (by omega)]
theorem Rel.tl {Mc Mr : Mem} (h : Rel Mc Mr) {t j : Nat} (ht : t < 4) (hj : j < 40) : tlS Mc t j = tlR Mr t j := (h.2.2.2.2.1 t ht).2.2.2 j hj
theorem Rel.bits {Mc Mr : Mem} (h : Rel Mc Mr) {t : Nat} (ht : t < 4) : Mc (7 + t) 0 = Mr 6 t := (h.2.2.2.2.1 t ht).1
theorem wi3 {s : Int32} (h : wi s 3 = true) : nn s < 4 := by have := (wi_nn (t := 3) (by omega) h).1; omega
theorem beg_eq {b n : Int32} (h1 : ¬ n < 0) (h2 : ¬ 40 < n) : begN b n = (if b = 0 then 0 else n) ∧ ∃ k, k ≤ 40 ∧ (if b = 0 then 0 else n) = nI k := by
  obtain ⟨k, hk, rfl⟩ := nI_of h1
  have hk4 : k ≤ 40 := Nat.le_of_not_lt (fun q => h2 (nI_lt (a := 40) q hk))
  unfold begN
  by_cases c : b = 0
  · rw [if_pos c, if_pos c]; exact ⟨rfl, 0, by omega, rfl⟩
  · rw [if_neg c, if_neg c]
    refine ⟨?_, k, hk4, rfl⟩
    unfold mnI mxI
    rw [if_neg h1, if_neg h2]
theorem q_she {Mc Mr : Mem} (h : Rel Mc Mr) (s b n : Int32) : (sheX Mc s b n).1 = (sheR Mr s b n).1 ∧ ∀ r, (sheX Mc s b n).1 = .inl r → Rel (sheX Mc s b n).2 (sheR Mr s b n).2 := by
  unfold sheX sheR
  by_cases c : (wi s 3 && bitsOk b) = true
  · rw [if_pos c, if_pos c]
    rw [Bool.and_eq_true] at c
    have ht := wi3 c.1
    by_cases c1 : n < 0
    · rw [if_pos c1, if_pos c1]; exact ⟨rfl, fun r hr => by cases hr⟩
    · rw [if_neg c1, if_neg c1]
      by_cases c2 : 40 < n
      · rw [if_pos c2, if_pos c2]; exact ⟨rfl, fun r hr => by cases hr⟩
      · rw [if_neg c2, if_neg c2]
        obtain ⟨e1, k, k1, k2⟩ := beg_eq (b := b) c1 c2
        refine ⟨by rw [e1], fun r _ => ?_⟩
        show Rel (stB Mc (7 + nn s) (begS (Mc (7 + nn s)) b n 40)) (sheM Mr (nn s) b n)
        have m6 : sheM Mr (nn s) b n 6 = upd (Mr 6) (nn s) b := by unfold sheM; rw [stB_ne (by decide), stB_ne (by decide), stB_at]
        have m7 : sheM Mr (nn s) b n 7 = upd (Mr 7) (nn s) (if b = 0 then 0 else n) := by unfold sheM; rw [stB_ne (by decide), stB_at]
        have m8 : sheM Mr (nn s) b n 8 = shnD (Mr 8) (nn s) 40 := by unfold sheM; rw [stB_at]
        refine h.tab (fun q hq => stB_ne (by omega)) (fun q q6 q7 q8 => by unfold sheM; rw [stB_ne q8, stB_ne q7, stB_ne q6]) (fun t ht4 => ?_)
        unfold shR
        rw [m6, m7, m8]
        by_cases e : t = nn s
        · subst e
          rw [stB_at, pk_us, pk_us, e1.symm]
          refine ⟨rfl, rfl, ⟨k, k1, by rw [e1]; exact k2⟩, fun j hj => ?_⟩
          unfold begS shnD
          rw [if_pos (by omega), if_pos (by omega)]
        · rw [stB_ne (by omega), pk_un e, pk_un e]
          obtain ⟨a1, a2, a3, a4⟩ := h.2.2.2.2.1 t ht4
          refine ⟨a1, a2, a3, fun j hj => ?_⟩
          unfold shnD
          rw [if_neg (by omega)]
          exact a4 j hj
  · rw [if_neg c, if_neg c]; exact ⟨rfl, fun r hr => by cases hr⟩
theorem sz_cond {j : Int32} {S : Nat} (hS : S ≤ 40) : (j < 0 ∨ nI S ≤ j) ↔ ¬ bt j 0 (nI S - 1) = true := by
  unfold bt
  have e : (nI S - 1 : Int32).toInt = (S : Int) - 1 := by
    rcases Nat.eq_zero_or_pos S with q | q
    · subst q; rfl
    · rw [show (1 : Int32) = nI 1 from rfl, pk_sub q, nI_int (by omega)]; omega
  have e0 : (0 : Int32).toInt = 0 := rfl
  rw [Bool.and_eq_true, Bool.not_eq_true', Bool.not_eq_true', decide_eq_false_iff_not, decide_eq_false_iff_not, Int32.lt_iff_toInt_lt, Int32.lt_iff_toInt_lt, Int32.le_iff_toInt_le, e, nI_int (by omega), e0]
  omega
theorem bt_nn {j : Int32} {S : Nat} (hS : S ≤ 40) (h : ¬ (j < 0 ∨ nI S ≤ j)) : nn j < S ∧ j = nI (nn j) := by
  obtain ⟨k, hk, rfl⟩ := nI_of (fun q => h (Or.inl q))
  rw [nn_nI hk]
  exact ⟨Nat.lt_of_not_le (fun q => h (Or.inr ((nI_leI (by omega) hk).mpr q))), rfl⟩
theorem q_wri {Mc Mr : Mem} (h : Rel Mc Mr) (s j v : Int32) : (wriX Mc s j v).1 = (wriR Mr s j v).1 ∧ ∀ r, (wriX Mc s j v).1 = .inl r → Rel (wriX Mc s j v).2 (wriR Mr s j v).2 := by
  unfold wriX wriR whnR
  by_cases c : wi s 3 = true
  · rw [if_pos c, if_pos c]
    have ht := wi3 c
    rw [h.bits ht]
    by_cases c0 : Mr 6 (nn s) = 0
    · rw [if_pos c0, if_pos c0]; exact ⟨rfl, fun r hr => by cases hr⟩
    · rw [if_neg c0, if_neg c0]
      obtain ⟨z1, z2, z3, z4⟩ := h.szN ht
      rw [z4]
      simp only
      by_cases c1 : j < 0 ∨ nI (szR Mr (nn s)) ≤ j
      · rw [if_pos c1, if_neg ((sz_cond z2).mp c1)]; exact ⟨rfl, fun r hr => by cases hr⟩
      · rw [if_neg c1, if_pos (Decidable.not_not.mp (fun q => c1 ((sz_cond z2).mpr q)))]
        refine ⟨rfl, fun r _ => ?_⟩
        obtain ⟨j1, j2⟩ := bt_nn z2 c1
        show Rel (putM Mc (nn s) j v) (stB Mr 8 (upd (Mr 8) (40 * nn s + nn j) (cutR (Mr 6 (nn s)) v)))
        unfold putM
        rw [z4, if_neg c1, h.bits ht]
        refine h.tab (fun q hq => stB_ne (by omega)) (fun q q6 q7 q8 => stB_ne q8) (fun t ht4 => ?_)
        unfold shR
        rw [stB_ne (show (6 : Nat) ≠ 8 by decide), stB_ne (show (7 : Nat) ≠ 8 by decide), stB_at]
        obtain ⟨a1, a2, a3, a4⟩ := h.2.2.2.2.1 t ht4
        by_cases e : t = nn s
        · subst e
          rw [stB_at, pk_un (by omega), pk_un (by omega)]
          refine ⟨a1, a2, a3, fun i hi => ?_⟩
          show upd (Mc (7 + nn s)) (2 + nn j) (cutV (Mr 6 (nn s)) v) (2 + i) = upd (Mr 8) (40 * nn s + nn j) (cutR (Mr 6 (nn s)) v) (40 * nn s + i)
          by_cases ei : i = nn j
          · subst ei; rw [pk_us, pk_us]; rfl
          · rw [pk_un (by omega), pk_un (by omega)]; exact a4 i hi
        · rw [stB_ne (by omega)]
          refine ⟨a1, a2, a3, fun i hi => ?_⟩
          rw [pk_un (by omega)]; exact a4 i hi
  · rw [if_neg c, if_neg c]; exact ⟨rfl, fun r hr => by cases hr⟩
theorem has_c {S : Nat} {fr n : Int32} (hS : S ≤ 40) (hn : ¬ n < 0) (hf : ¬ fr < 0) : hasV (nI S) fr n = !decide (S < nn fr + nn n) := by
  obtain ⟨a, ha, rfl⟩ := nI_of hn
  obtain ⟨f, hf2, rfl⟩ := nI_of hf
  unfold hasV
  rw [decide_eq_false hn, decide_eq_false hf, nn_nI ha, nn_nI hf2]
  by_cases c : S < a
  · rw [decide_eq_true (nI_lt c ha), decide_eq_true (show S < f + a by omega)]; rfl
  · rw [decide_eq_false (nI_nlt (by omega) (by omega)), pk_sub (by omega)]
    by_cases c2 : S - a < f
    · rw [decide_eq_true (nI_lt c2 hf2), decide_eq_true (show S < f + a by omega)]; rfl
    · rw [decide_eq_false (nI_nlt (by omega) (by omega)), decide_eq_false (show ¬ S < f + a by omega)]; rfl
theorem has_cf {S T : Nat} {fr to n : Int32} (hS : S ≤ 40) (hT : T ≤ 40) : (hasV (nI S) fr n && hasV (nI T) to n) = cfit fr to n S T := by
  by_cases hn : n < 0
  · unfold hasV cfit; rw [decide_eq_true hn]; simp
  by_cases hf : fr < 0
  · unfold hasV cfit; rw [decide_eq_true hf]; simp
  by_cases ht : to < 0
  · unfold hasV cfit; rw [decide_eq_true ht]; simp
  rw [has_c hS hn hf, has_c hT hn ht]
  unfold cfit
  rw [decide_eq_false hn, decide_eq_false hf, decide_eq_false ht]
  rfl
theorem q_cop {Mc Mr : Mem} (h : Rel Mc Mr) (s fr t to n : Int32) : (copX Mc s fr t to n).1 = (copR Mr s fr t to n).1 ∧ ∀ r, (copX Mc s fr t to n).1 = .inl r → Rel (copX Mc s fr t to n).2 (copR Mr s fr t to n).2 := by
  unfold copX copR
  by_cases c : (wi s 3 && wi t 3) = true
  · rw [if_pos c, if_pos c]
    rw [Bool.and_eq_true] at c
    have hs := wi3 c.1
    have ht := wi3 c.2
    obtain ⟨z1, z2, z3, z4⟩ := h.szN hs
    obtain ⟨y1, y2, y3, y4⟩ := h.szN ht
    rw [h.bits hs, h.bits ht, z4, y4, has_cf z2 y2]
    by_cases c0 : Mr 6 (nn s) = 0 ∨ Mr 6 (nn t) = 0
    · rw [if_pos c0, if_pos c0]; exact ⟨rfl, fun r hr => by cases hr⟩
    · rw [if_neg c0, if_neg c0]
      by_cases c1 : Mr 6 (nn s) = Mr 6 (nn t)
      · rw [if_pos c1, if_pos c1]
        by_cases c2 : cfit fr to n (szR Mr (nn s)) (szR Mr (nn t)) = true
        · rw [if_pos c2, if_pos c2]
          refine ⟨rfl, fun r _ => ?_⟩
          show Rel (cpB Mc (7 + nn s) (2 + nn fr) (7 + nn t) (2 + nn to) (nn n)) (stB Mr 8 (numD Mr (40 * nn s + nn fr) (40 * nn t + nn to) (nn n)))
          unfold cfit at c2
          simp only [Bool.and_eq_true, Bool.not_eq_true', decide_eq_false_iff_not] at c2
          obtain ⟨⟨⟨⟨f1, f2⟩, f3⟩, f4⟩, f5⟩ := c2
          refine h.tab (fun q hq => by funext j; unfold cpB; rw [if_neg (by omega)]) (fun q q6 q7 q8 => stB_ne q8) (fun u hu => ?_)
          unfold shR
          rw [stB_ne (show (6 : Nat) ≠ 8 by decide), stB_ne (show (7 : Nat) ≠ 8 by decide), stB_at]
          obtain ⟨a1, a2, a3, a4⟩ := h.2.2.2.2.1 u hu
          refine ⟨?_, ?_, a3, fun i hi => ?_⟩
          · unfold cpB; rw [if_neg (by omega)]; exact a1
          · unfold cpB; rw [if_neg (by omega)]; exact a2
          · unfold cpB numD
            by_cases e : u = nn t ∧ nn to ≤ i ∧ i < nn to + nn n
            · rw [if_pos (by omega), if_pos (by omega), show 2 + nn fr + (2 + i - (2 + nn to)) = 2 + (nn fr + (i - nn to)) by omega, show 40 * nn s + nn fr + (40 * u + i - (40 * nn t + nn to)) = 40 * nn s + (nn fr + (i - nn to)) by omega]
              exact (h.2.2.2.2.1 (nn s) hs).2.2.2 _ (by omega)
            · rw [if_neg (by omega), if_neg (by omega)]; exact a4 i hi
        · rw [if_neg c2, if_neg c2]; exact ⟨rfl, fun r hr => by cases hr⟩
      · rw [if_neg c1, if_neg c1]; exact ⟨rfl, fun r hr => by cases hr⟩
  · rw [if_neg c, if_neg c]; exact ⟨rfl, fun r hr => by cases hr⟩
theorem loa_n {Mc Mr : Mem} (h : Rel Mc Mr) {t : Nat} (ht : t < 4) : loaN Mc t = loaNR Mr t := by
  obtain ⟨z1, z2, z3, z4⟩ := h.szN ht
  have e : fstN (loaQ Mc t) 6 = fstN (loaQR Mr t) 6 := fst_cong 6 (fun k hk => by
    unfold loaQ loaQR
    rw [z1, h.tl ht (by omega)])
  unfold loaN loaNR
  rw [e]
  cases fstN (loaQR Mr t) 6 <;> rfl
theorem fst_min {P : Nat → Bool} : ∀ n k, fstN P n = some k → ∀ j, j < k → P j = false := by
  intro n
  induction n with
  | zero => intro k h; cases h
  | succ n ih =>
    intro k h j hj
    rw [fstN] at h
    cases hf : fstN P n with
    | some q =>
      rw [hf] at h
      injection h with h
      subst h
      exact ih _ hf j hj
    | none =>
      rw [hf] at h
      simp only at h
      split at h
      · injection h with h
        subst h
        have key : ∀ m, fstN P m = none → ∀ j, j < m → P j = false := by
          intro m
          induction m with
          | zero => intro _ j hj; omega
          | succ m ihm =>
            intro hm j hj
            rw [fstN] at hm
            cases hg : fstN P m with
            | some q => rw [hg] at hm; cases hm
            | none =>
              rw [hg] at hm
              simp only at hm
              split at hm
              · cases hm
              · next q =>
                rcases Nat.lt_or_ge j m with z | z
                · exact ihm hg j z
                · rw [show j = m by omega]; exact Bool.not_eq_true _ ▸ q
        exact key _ hf j hj
      · cases h
theorem fst_none {P : Nat → Bool} : ∀ n, fstN P n = none → ∀ j, j < n → P j = false := by
  intro n
  induction n with
  | zero => intro _ j hj; omega
  | succ n ih =>
    intro h j hj
    rw [fstN] at h
    cases hf : fstN P n with
    | some q => rw [hf] at h; cases h
    | none =>
      rw [hf] at h
      simp only at h
      split at h
      · cases h
      · next q =>
        rcases Nat.lt_or_ge j n with z | z
        · exact ih hf j z
        · rw [show j = n by omega]; exact Bool.not_eq_true _ ▸ q
theorem loa_ok {M : Mem} {t : Nat} : loaNR M t ≤ 6 ∧ ∀ j, j < loaNR M t → j < szR M t ∧ icB (tlR M t j) = true := by
  unfold loaNR
  have un : ∀ j, loaQR M t j = false → j < szR M t ∧ icB (tlR M t j) = true := by
    intro j hj
    unfold loaQR at hj
    rw [Bool.not_eq_false', Bool.and_eq_true, decide_eq_true_iff] at hj
    exact hj
  cases hf : fstN (loaQR M t) 6 with
  | none => exact ⟨Nat.le_refl _, fun j hj => un j (fst_none 6 hf j hj)⟩
  | some k => exact ⟨Nat.le_of_lt (fst_lt _ _ hf), fun j hj => un j (fst_min 6 k hf j hj)⟩
theorem MR.loa {a b : Dm} (h : MR a b) {f f' : Nat → Int32} : ∀ n, n ≤ 6 → (∀ j, j < n → f j = f' j ∧ icB (f' j) = true) → MR (loaD a f n) (loaD b f' n) := by
  intro n
  induction n with
  | zero => intro _ _; exact h
  | succ n ih =>
    intro hn hf
    have h1 := ih (by omega) (fun j hj => hf j (by omega))
    obtain ⟨e1, e2⟩ := hf n (by omega)
    obtain ⟨k, k1, k2, k3⟩ := ic_parts e2
    rw [loaD, loaD, e1]
    exact h1.up (by omega) (by omega) (h1.2.1.upl (by omega) k3 k1 k2) (h1.2.2.1.upl (by omega) k3 k1 k2)
theorem q_loa {Mc Mr : Mem} (h : Rel Mc Mr) (s : Int32) : (loaX Mc s).1 = (loaR Mr s).1 ∧ ∀ r, (loaX Mc s).1 = .inl r → Rel (loaX Mc s).2 (loaR Mr s).2 := by
  unfold loaX loaR whnR
  by_cases c : wi s 3 = true
  · rw [if_pos c, if_pos c]
    have ht := wi3 c
    rw [h.bits ht]
    by_cases c0 : Mr 6 (nn s) = 0
    · rw [if_pos c0, if_pos c0]; exact ⟨rfl, fun r hr => by cases hr⟩
    · rw [if_neg c0, if_neg c0, loa_n h ht]
      refine ⟨rfl, fun r _ => ?_⟩
      obtain ⟨l1, l2⟩ := loa_ok (M := Mr) (t := nn s)
      obtain ⟨z1, z2, z3, z4⟩ := h.szN ht
      exact h.mis (h.1.loa _ l1 (fun j hj => ⟨h.tl ht (by have := (l2 j hj).1; omega), (l2 j hj).2⟩))
  · rw [if_neg c, if_neg c]; exact ⟨rfl, fun r hr => by cases hr⟩
theorem q_jud {Mc Mr : Mem} (h : Rel Mc Mr) (s : Int32) : judX Mc s = judR Mr s := by
  unfold judX judR whnR
  by_cases c : wi s 3 = true
  · rw [if_pos c, if_pos c]
    have ht := wi3 c
    rw [h.bits ht]
    by_cases c0 : Mr 6 (nn s) = 0
    · rw [if_pos c0, if_pos c0]
    · rw [if_neg c0, if_neg c0]
      obtain ⟨z1, z2, z3, z4⟩ := h.szN ht
      have e : fstN (jud1 Mc (nn s)) (szR Mr (nn s)) = fstN (judR1 Mr (nn s)) (szR Mr (nn s)) := fst_cong _ (fun k hk => by
        unfold jud1 judR1
        rw [h.tl ht (by omega), h.1.1.n]
        by_cases hn : k < nOf (Mr 0)
        · rw [h.1.1.kn (by rw [h.1.1.n]; exact hn)]
        · rw [decide_eq_false hn]; rfl)
      rw [z1, e]
      cases fstN (judR1 Mr (nn s)) (szR Mr (nn s)) <;> rfl
  · rw [if_neg c, if_neg c]
theorem q_why {Mc Mr : Mem} (h : Rel Mc Mr) (s v : Int32) : whyX Mc s v = whyR Mr s v ∧ (whyX Mc s v = none → nn s < 4 ∧ nn v < nOf (Mc 0) ∧ nn v < 8) := by
  unfold whyX whyR whnR
  by_cases c : wi s 3 = true
  · rw [if_pos c, if_pos c]
    have ht := wi3 c
    rw [h.bits ht]
    by_cases c0 : Mr 6 (nn s) = 0
    · rw [if_pos c0, if_pos c0]; exact ⟨rfl, fun q => by cases q⟩
    · rw [if_neg c0, if_neg c0, h.1.1.pr]
      refine ⟨rfl, fun q => ?_⟩
      by_cases cp : isP (Mr 0) v = true
      · rw [← h.1.1.pr] at cp
        obtain ⟨p1, p2, p3⟩ := isP_nn h.1.2.1 cp
        exact ⟨ht, p1, p3⟩
      · rw [if_neg cp] at q; cases q
  · rw [if_neg c, if_neg c]; exact ⟨rfl, fun q => by cases q⟩
theorem asT_tl {d : Dm} {p k : Nat} {f f' : Nat → Int32} (h : f k = f' k) : asT d p f k = asT d p f' k := by unfold asT; rw [h]
theorem knq_c {a b : Dm} (h : MR a b) {p k sz : Nat} {f f' : Nat → Int32} (hp : p < nOf a) (hk : k < 7) (hf : ∀ j, j < sz → f j = f' j) : knQ a p f sz k = knQ b p f' sz k := by
  have hp8 : p < 8 := by obtain ⟨N, hN, eN, eNo⟩ := h.2.1.n; omega
  unfold knQ
  refine all_cong _ (fun j hj => ?_)
  rw [asT_tl (hf j hj)]
  exact (h.1.kin).asT (h.2.1.kin hp8 hk) (by rw [n_kin]; exact hp)
theorem fitq_c {a b : Dm} (h : MR a b) {p k sz : Nat} {f f' : Nat → Int32} (hp : p < nOf a) (hk : k < 41) (hf : ∀ j, j < sz → f j = f' j) : fitQ a p f sz k = fitQ b p f' sz k := by
  unfold fitQ fitD
  rw [← h.1.tod]
  refine all_cong _ (fun j hj => ?_)
  rw [asT_tl (hf j hj)]
  exact (h.1.wor h.2.1.tod.1).asT (h.2.1.wor h.2.1.tod.1 (by omega)) (by rw [n_wor]; exact hp)
theorem mskI_cong {P P' : Nat → Bool} : ∀ n, (∀ k, k < n → P k = P' k) → mskI P n = mskI P' n := by
  intro n
  induction n with
  | zero => intro _; rfl
  | succ n ih => intro h; rw [mskI, mskI, ih (fun k hk => h k (by omega)), h n (by omega)]
theorem q_knd {Mc Mr : Mem} (h : Rel Mc Mr) (s v : Int32) : kndX Mc s v = kndR Mr s v := by
  obtain ⟨e, hw⟩ := q_why h s v
  unfold kndX kndR
  rw [← e]
  cases hy : whyX Mc s v with
  | some k => rfl
  | none =>
    obtain ⟨h1, h2, h3⟩ := hw hy
    obtain ⟨z1, z2, z3, z4⟩ := h.szN h1
    simp only
    rw [z1, mskI_cong 7 (fun k hk => knq_c h.1 h2 hk (fun j hj => h.tl h1 (by omega)))]
variable {l : Launch} {sk : (Nat → Nat) × (Nat → Nat)} {D : va_G} {cy : Nat → ClassId} {Ac Ar : Nat → Nat} {Mc Mr : Mem}
theorem d_sheet (h : Rel Mc Mr) (s b n : Int32) : DUO Rel l sk D cy Ac Ar mX6_sheet mX7_sheet [.int s, .int b, .int n] Value.int Mc Mr := duo_of h (h := 2) (h' := 2) (by decide) (by decide) (fun X => k_X6_sheet s b n Mc h.ci) (fun X => m_sheet s b n Mr) (q_she h s b n).1 (q_she h s b n).2
theorem d_write (h : Rel Mc Mr) (s j v : Int32) : DUO Rel l sk D cy Ac Ar mX6_write mX7_write [.int s, .int j, .int v] Value.int Mc Mr := duo_of h (h := 2) (h' := 3) (by decide) (by decide) (fun X => k_X6_write s j v Mc h.ci) (fun X => m_write s j v Mr h.sz) (q_wri h s j v).1 (q_wri h s j v).2
theorem d_copy (h : Rel Mc Mr) (s fr t to n : Int32) : DUO Rel l sk D cy Ac Ar mX6_copy mX7_copy [.int s, .int fr, .int t, .int to, .int n] Value.int Mc Mr := duo_of h (h := 2) (h' := 2) (by decide) (by decide) (fun X => k_X6_copy s fr t to n Mc h.ci) (fun X => m_copy s fr t to n Mr h.sz) (q_cop h s fr t to n).1 (q_cop h s fr t to n).2
theorem d_load (h : Rel Mc Mr) (s : Int32) : DUO Rel l sk D cy Ac Ar mX6_load mX7_load [.int s] Value.int Mc Mr := duo_of h (h := 2) (h' := 3) (by decide) (by decide) (fun X => k_X6_load s Mc h.ci) (fun X => m_load s Mr h.sz) (q_loa h s).1 (q_loa h s).2
theorem d_judge (h : Rel Mc Mr) (s : Int32) : DUO Rel l sk D cy Ac Ar mX6_judge mX7_judge [.int s] Value.int Mc Mr := duo_q h (h := 2) (h' := 3) (by decide) (by decide) (fun X => k_X6_judge s Mc h.ci) (fun X => m_judge s Mr h.iv h.sz) (q_jud h s)
theorem d_kinds (h : Rel Mc Mr) (s v : Int32) : DUO Rel l sk D cy Ac Ar mX6_kinds mX7_kinds [.int s, .int v] Value.int Mc Mr := duo_q h (h := 6) (h' := 9) (by decide) (by decide) (fun X => k_X6_kinds s v Mc h.ci) (fun X => m_kinds s v Mr h.iv h.sz) (q_knd h s v)

end PE5
