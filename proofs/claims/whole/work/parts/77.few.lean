section PE4
theorem Sim.cp {e d : Dm} (hI : Inv d) : Sim d (cpD e d 70) := by
  obtain ⟨N, hN, eN, eNo⟩ := hI.n
  exact ⟨fun j hj => by unfold cpD; rw [if_pos (by omega)], fun p hp f hf => by unfold cpD; rw [if_pos (by omega)]⟩
theorem cp_n {e d : Dm} : nOf (cpD e d 70) = nOf d := by unfold nOf cpD; rw [if_pos (by omega)]
theorem MR.cp {a b x y : Dm} (h : MR a b) (hx : Inv x) : MR (likeF x a) (cpD y b 70) := by
  refine ⟨((Sim.like h.2.1).tr h.1).tr (Sim.cp h.2.2.1), Inv.like hx h.2.1 _, ?_, ?_⟩
  · exact ⟨fun j hj hj2 => by unfold cpD; rw [if_pos (by omega)]; exact h.2.2.1.1 j hj hj2, fun j hj => by unfold cpD; rw [if_pos (by omega)]; exact h.2.2.1.2 j hj⟩
  · intro j hj
    obtain ⟨n, h1, h2, h3, h4⟩ := h.2.2.2 j hj
    refine ⟨n, h1, by rw [cp_n]; exact h2, by unfold cpD; rw [if_pos (by omega)]; exact h3, ?_⟩
    unfold likeF likeK
    rw [if_pos (by omega)]
    exact h4
theorem Rel.img {Mc Mr : Mem} {a b : Dm} (h : Rel Mc Mr) (hm : MR a b) : Rel (stB Mc 1 a) (stB Mr 3 b) := by
  obtain ⟨h1, h2, h3, h4, h5, h6⟩ := h
  have et : tapR (stB Mr 3 b) = tapR Mr := tapR_e (by rw [stB_ne (by decide)])
  refine ⟨?_, ?_, ?_, ?_, fun t ht => ?_, fun k hk => ?_⟩
  · rw [stB_ne (by decide), stB_ne (by decide)]; exact h1
  · rw [stB_ne (by decide)]; exact h2
  · unfold imR
    rw [stB_at, stB_at, stB_ne (show (3 : Nat) ≠ 1 by decide), stB_ne (show (10 : Nat) ≠ 3 by decide)]
    exact ⟨hm.2.1, hm.2.2.1, h3.2.2.1, fun _ => hm⟩
  · unfold tpR tpOk
    rw [et, stB_ne (show (10 : Nat) ≠ 3 by decide), stB_ne (show (5 : Nat) ≠ 3 by decide), stB_ne (show (4 : Nat) ≠ 1 by decide), stB_ne (show (5 : Nat) ≠ 1 by decide)]
    exact h4
  · unfold shR
    rw [stB_ne (show 7 + t ≠ 1 by omega), stB_ne (show (6 : Nat) ≠ 3 by decide), stB_ne (show (7 : Nat) ≠ 3 by decide), stB_ne (show (8 : Nat) ≠ 3 by decide)]
    exact h5 t ht
  · rw [stB_ne (show (6 : Nat) ≠ 1 by decide), stB_ne (show (4 : Nat) ≠ 3 by decide)]; exact h6 k hk
theorem Rel.fl {Mc Mr : Mem} {v : Int32} (h : Rel Mc Mr) (hm : v ≠ 0 → MR (Mc 1) (Mr 3)) : Rel (stB Mc 3 (upd (Mc 3) 0 v)) (stB Mr 10 (upd (Mr 10) 0 v)) := by
  obtain ⟨h1, h2, h3, h4, h5, h6⟩ := h
  have et : tapR (stB Mr 10 (upd (Mr 10) 0 v)) = tapR Mr := tapR_e (by rw [stB_at, pk_un (by decide)])
  refine ⟨?_, ?_, ?_, ?_, fun t ht => ?_, fun k hk => ?_⟩
  · rw [stB_ne (by decide), stB_ne (by decide)]; exact h1
  · rw [stB_ne (by decide)]; exact h2
  · unfold imR
    rw [stB_at, stB_at, stB_ne (show (1 : Nat) ≠ 3 by decide), stB_ne (show (3 : Nat) ≠ 10 by decide), pk_us, pk_us]
    exact ⟨h3.1, h3.2.1, rfl, hm⟩
  · unfold tpR tpOk
    rw [et, stB_at, pk_un (show (1 : Nat) ≠ 0 by decide), stB_ne (show (5 : Nat) ≠ 10 by decide), stB_ne (show (4 : Nat) ≠ 3 by decide), stB_ne (show (5 : Nat) ≠ 3 by decide)]
    exact h4
  · unfold shR
    rw [stB_ne (show 7 + t ≠ 3 by omega), stB_ne (show (6 : Nat) ≠ 10 by decide), stB_ne (show (7 : Nat) ≠ 10 by decide), stB_ne (show (8 : Nat) ≠ 10 by decide)]
    exact h5 t ht
  · rw [stB_ne (show (6 : Nat) ≠ 3 by decide), stB_ne (show (4 : Nat) ≠ 10 by decide)]; exact h6 k hk
theorem spot_c {a b : Dm} (h : spR a b) : ∀ n, n ≤ 10 → spotC a n = spcR b n := by
  intro n
  induction n with
  | zero => intro _; rfl
  | succ n ih =>
    intro hn
    obtain ⟨k, k1, k2, k3, k4⟩ := h n (by omega)
    have key : ∀ k, k ≤ 8 → (nI k - 1 = -1 ↔ ¬ 0 < nI k) := by decide
    rw [spotC, spcR, ih (by omega), k3, k4]
    by_cases c : 0 < nI k
    · rw [if_neg (fun q => (key k k1).mp q c), if_pos c]
    · rw [if_pos ((key k k1).mpr c), if_neg c, Int32.add_zero]
theorem q_cou {Mc Mr : Mem} (h : Rel Mc Mr) (what : Int32) : couX Mc what = couR Mr what := by
  have hs := h.1.1
  unfold couX couR
  rw [hs.1 1 (by omega), hs.1 0 (by omega), hs.1 4 (by omega), hs.1 5 (by omega), hs.1 2 (by omega), hs.sum (nOf (Mc 0)) (Nat.le_refl _), hs.n, h.2.2.2.1.2.1, spot_c h.1.2.2.2 10 (Nat.le_refl _)]
theorem sum7_c {q q' : Dm} (h : ∀ k, k < 7 → q k = q' k) : ∀ n, n ≤ 7 → sum7 q n = sum7 q' n := by
  intro n
  induction n with
  | zero => intro _; rfl
  | succ n ih => intro hn; rw [sum7, sum7, ih (by omega), h n (by omega)]
theorem q_sta {Mc Mr : Mem} (h : Rel Mc Mr) (which : Int32) : staX Mc which = staR Mr which := by
  have h6 := h.2.2.2.2.2
  unfold staX staR
  by_cases c : which = -1
  · subst c
    rw [if_pos rfl, show bt (-1) (-1) 6 = true from rfl, if_pos rfl, if_pos (by decide), sum7_c h6 7 (Nat.le_refl _)]
  · rw [if_neg c]
    have e : bt which (-1) 6 = wi which 6 := by
      unfold bt wi
      congr 1
      rw [Bool.eq_iff_iff, Bool.not_eq_true', Bool.not_eq_true', decide_eq_false_iff_not, decide_eq_false_iff_not, Int32.lt_iff_toInt_lt, Int32.lt_iff_toInt_lt]
      have h1 : which.toInt ≠ (-1 : Int32).toInt := fun q => c (Int32.toInt_inj.mp q)
      have e1 : (-1 : Int32).toInt = -1 := rfl
      have e0 : (0 : Int32).toInt = 0 := rfl
      rw [e1] at h1 ⊢
      rw [e0]
      omega
    rw [e]
    by_cases c2 : wi which 6 = true
    · rw [if_pos c2, if_pos c2]
      obtain ⟨w1, w2⟩ := wi_nn (t := 6) (by omega) c2
      rw [if_neg (by rw [w2]; exact nI_pos (by omega)), h6 _ (by omega)]
    · rw [if_neg c2, if_neg c2]
theorem sum5_le {d : Dm} (hI : Inv d) : ∀ n, n ≤ 8 → ∃ m, m ≤ 9999 * n ∧ sumT d 5 n = nI m := by
  intro n
  induction n with
  | zero => intro _; exact ⟨0, by omega, rfl⟩
  | succ n ih =>
    intro hn
    obtain ⟨m, h1, h2⟩ := ih (by omega)
    obtain ⟨k, k1, k2⟩ := hI.il (p := n) (by omega)
    refine ⟨m + k, by omega, ?_⟩
    rw [sumT, h2, show tellV d n 5 = d (52 + n) from rfl, k2, nI_add]
theorem q_kin {a b : Dm} (h : Sim a b) (hI : Inv a) (p n : Int32) : kinX a p n = kiX2 b p n := by
  unfold kinX kiX2
  rw [h.pr]
  refine ite_b (fun q => ?_) rfl
  rw [Bool.and_eq_true, ← h.pr] at q
  obtain ⟨h1, h2, h3⟩ := isP_nn hI q.1
  rw [← amin_cong (f := kinV a (nn p) (nn n)) (f' := kinV b (nn p) (nn n)) 7 (fun k hk => kinV_s h hI h3 hk)]
  have hb : kinV a (nn p) (nn n) 0 < 79993 := by
    unfold kinV
    obtain ⟨m, hm, em⟩ := sum5_le ((hI.kin (k := 0) h3 (by omega)).vDays (nn n)) (nOf a) (by obtain ⟨N, hN, eN, eNo⟩ := hI.n; omega)
    have hn8 : nOf a ≤ 8 := by obtain ⟨N, hN, eN, eNo⟩ := hI.n; omega
    rw [em]
    exact nI_lt (b := 79993) (by omega) (by omega)
  rw [am_two (b := 99999999) hb (Int32.lt_trans hb (by decide)) 6]
theorem as_ok : ∀ k, k < 7 → ∀ kd, kd < 7 → (oneR (nI kd) 7 (nI k) = true ↔ (nI kd = 0 ∨ nI kd = nI k ∨ nI kd = aboR (nI k) ∨ nI kd = aboR (aboR (nI k)))) := by decide
theorem q_as {a b : Dm} (h : MR a b) (sp kind : Int32) : asX a sp kind = asR b sp kind := by
  unfold asX asR
  refine ite_b (fun q => ?_) rfl
  rw [Bool.and_eq_true] at q
  have hs := (wi_nn (t := 9) (by omega) q.1).1
  obtain ⟨hk1, hk2⟩ := wi_nn (t := 6) (by omega) q.2
  obtain ⟨n, n1, n2, n3, n4⟩ := h.2.2.2 (nn sp) (by omega)
  obtain ⟨N, hN, eN, eNo⟩ := h.2.2.1.n
  have ea : a 0 = nI N := (h.1.1 0 (by omega)).trans eN
  rw [n3, n4]
  rcases Nat.eq_zero_or_pos n with z | z
  · subst z
    rw [if_neg (show ¬ isP a (nI 0 - 1) = true by unfold isP; rw [decide_eq_true (show nI 0 - 1 < 0 by decide)]; exact Bool.false_ne_true), if_pos (show nI 0 = 0 from rfl)]
  · have e1 : nI n - 1 = nI (n - 1) := by rw [show (1 : Int32) = nI 1 from rfl, pk_sub z]
    rw [e1]
    have hp : isP a (nI (n - 1)) = true := by
      unfold isP
      rw [decide_eq_false (nI_pos (by omega)), ea, decide_eq_false (fun q0 => by have := (nI_leI (by omega) (by omega)).mp q0; omega)]
      rfl
    rw [if_pos hp, if_neg (show ¬ nI n = 0 from fun q0 => by have := nI_inj (a := n) (b := 0) (by omega) (by omega) q0; omega), nn_nI (by omega)]
    have hpa : n - 1 < nOf a := by rw [h.1.n]; omega
    obtain ⟨k, k1, k2⟩ := h.2.1.k (p := n - 1) (by omega)
    rw [← h.1.k hpa, k2]
    have key := as_ok k (by omega) (nn kind) (by omega)
    rw [← hk2] at key
    by_cases c : oneR kind 7 (nI k) = true
    · rw [if_pos c, if_pos (key.mp c)]
    · rw [if_neg c, if_neg (fun z9 => c (key.mpr z9))]
theorem odd_ok : ∀ n, n < 9 → (halS 8 (nI n) 8).1 = (halR 3 (nI n)).1 ∧ (halS 8 (nI n) 8).2 = (halR 3 (nI n)).2 := by decide
theorem q_odd {a b : Dm} (h : MR a b) (p n what : Int32) : oddX a p n what = oddR b p n what := by
  unfold oddX oddR
  rw [h.1.pr]
  refine ite_b (fun q => ?_) rfl
  rw [Bool.and_eq_true, Bool.and_eq_true, ← h.1.pr] at q
  obtain ⟨h1, h2, h3⟩ := isP_nn h.2.1 q.1.1
  obtain ⟨m, hm, em⟩ := ones_le (h.2.1.t h3)
  unfold oddV odvR
  rw [← h.1.t h1, em, (odd_ok m (by omega)).1, (odd_ok m (by omega)).2]
variable {l : Launch} {sk : (Nat → Nat) × (Nat → Nat)} {D : va_G} {cy : Nat → ClassId} {Ac Ar : Nat → Nat} {Mc Mr : Mem}
theorem d_image (h : Rel Mc Mr) : DUO Rel l sk D cy Ac Ar mX6_image mX7_image [] Value.int Mc Mr := by
  refine duo_of h (M1 := imgM Mc) (M2 := imgR Mr) (x := .inl 1) (x' := .inl 1) (h := 2) (h' := 2) (by decide) (by decide) (fun X => k_X6_image Mc h.ci) (fun X => m_image Mr) rfl (fun r _ => ?_)
  have hm := h.1.cp (x := Mc 1) (y := Mr 3) h.2.2.1.1
  have h2 := (h.img hm).fl (v := 1) (fun _ => by rw [stB_at, stB_at]; exact hm)
  rw [stB_ne (show (3 : Nat) ≠ 1 by decide), stB_ne (show (10 : Nat) ≠ 3 by decide)] at h2
  exact h2
theorem d_undo (h : Rel Mc Mr) : DUO Rel l sk D cy Ac Ar mX6_undo mX7_undo [] Value.int Mc Mr := by
  obtain ⟨i1, i2, i3, i4⟩ := h.2.2.1
  refine duo_of h (M1 := (undX Mc).2) (M2 := (undR Mr).2) (x := (undX Mc).1) (x' := (undR Mr).1) (h := 2) (h' := 2) (by decide) (by decide) (fun X => k_X6_undo Mc h.ci) (fun X => m_undo Mr) ?_ (fun r hr => ?_)
  · unfold undX undR
    rw [i3]
    by_cases c : Mr 10 0 = 0
    · rw [if_pos c, if_pos c]
    · rw [if_neg c, if_neg c, (i4 c).1.1 1 (by omega)]
  · unfold undX at hr ⊢
    unfold undR
    rw [i3] at hr ⊢
    by_cases c : Mr 10 0 = 0
    · rw [if_pos c] at hr; cases hr
    · rw [if_neg c, if_neg c]
      exact h.mis ((i4 c).cp h.1.2.1)
theorem d_tear (h : Rel Mc Mr) : DUO Rel l sk D cy Ac Ar mX6_tear mX7_tear [] Value.int Mc Mr := by
  refine duo_of h (M1 := (teaX Mc).2) (M2 := (teaR Mr).2) (x := (teaX Mc).1) (x' := (teaR Mr).1) (h := 0) (h' := 0) (by decide) (by decide) (fun X => k_X6_tear Mc h.ci) (fun X => m_tear Mr) ?_ (fun r hr => ?_)
  · unfold teaX teaR
    rw [h.2.2.1.2.2.1]
  · exact h.fl (v := 0) (fun q => absurd rfl q)
theorem d_count (h : Rel Mc Mr) (what : Int32) : DUO Rel l sk D cy Ac Ar mX6_count mX7_count [.int what] Value.int Mc Mr := duo_q h (h := 4) (h' := 2) (by decide) (by decide) (fun X => k_X6_count what Mc h.ci) (fun X => m_count what Mr h.iv) (q_cou h what)
theorem d_status (h : Rel Mc Mr) (which : Int32) : DUO Rel l sk D cy Ac Ar mX6_status mX7_status [.int which] Value.int Mc Mr := duo_q h (h := 2) (h' := 2) (by decide) (by decide) (fun X => k_X6_status which Mc h.ci) (fun X => m_status which Mr) (q_sta h which)
theorem d_kindFor (h : Rel Mc Mr) (p n : Int32) : DUO Rel l sk D cy Ac Ar mX6_kindFor mX7_kindFor [.int p, .int n] Value.int Mc Mr := duo_q h (h := 6) (h' := 8) (by decide) (by decide) (fun X => k_X6_kindFor p n Mc h.ci) (fun X => m_kindFor p n Mr h.iv) (q_kin h.1.1 h.1.2.1 p n)
theorem spR.ok {a b : Dm} (h : spR a b) : spOk b := fun j hj => by
  obtain ⟨n, n1, -, n3, -⟩ := h j hj
  exact ⟨n, n1, n3⟩
theorem d_as (h : Rel Mc Mr) (sp kind : Int32) : DUO Rel l sk D cy Ac Ar mX6_as mX7_as [.int sp, .int kind] Value.int Mc Mr := duo_q h (h := 3) (h' := 2) (by decide) (by decide) (fun X => k_X6_as sp kind Mc h.ci) (fun X => m_as sp kind Mr h.iv h.1.2.2.2.ok) (q_as h.1 sp kind)
theorem d_odds (h : Rel Mc Mr) (p n what : Int32) : DUO Rel l sk D cy Ac Ar mX6_odds mX7_odds [.int p, .int n, .int what] Value.long Mc Mr := duo_L h (M1 := Mc) (M2 := Mr) (h := 2) (h' := 2) (by decide) (by decide) (fun X => k_X6_odds p n what Mc h.ci) (fun X => m_odds p n what Mr h.iv) (q_odd h.1 p n what) (fun _ _ => h)
theorem d_wipe (h : Rel Mc Mr) : DUO Rel l sk D cy Ac Ar mX6_wipe mX7_wipe [] Value.int Mc Mr := by
  refine duo_of h (M1 := stB Mc 4 (upd (Mc 4) 5 0)) (M2 := stB Mr 10 (upd (Mr 10) 1 0)) (x := .inl (Mc 4 5)) (x' := .inl (Mr 10 1)) (h := 1) (h' := 0) (by decide) (by decide) (fun X => k_X6_wipe Mc h.ci) (fun X => (m_wipe Mr).mono (fun v9 M9 hp => ⟨hp.1, eqM_r hp.2⟩)) (by rw [h.2.2.2.1.2.1]) (fun r _ => ?_)
  obtain ⟨h1, h2, h3, h4, h5, h6⟩ := h
  have et : tapR (stB Mr 10 (upd (Mr 10) 1 0)) = 0 := by unfold tapR; rw [stB_at, pk_us]; rfl
  refine ⟨?_, ?_, ?_, ?_, fun t ht => ?_, fun k hk => ?_⟩
  · rw [stB_ne (by decide), stB_ne (by decide)]; exact h1
  · rw [stB_ne (by decide)]; exact h2
  · unfold imR
    rw [stB_at, stB_ne (show (1 : Nat) ≠ 4 by decide), stB_ne (show (3 : Nat) ≠ 10 by decide), stB_ne (show (3 : Nat) ≠ 4 by decide), pk_un (by decide)]
    exact h3
  · unfold tpR tpOk
    rw [et, stB_at, stB_at, pk_us, pk_us]
    exact ⟨⟨by omega, rfl, fun k hk => absurd hk (by omega)⟩, rfl, fun k hk => absurd hk (by omega)⟩
  · unfold shR
    rw [stB_ne (show 7 + t ≠ 4 by omega), stB_ne (show (6 : Nat) ≠ 10 by decide), stB_ne (show (7 : Nat) ≠ 10 by decide), stB_ne (show (8 : Nat) ≠ 10 by decide)]
    exact h5 t ht
  · rw [stB_ne (show (6 : Nat) ≠ 4 by decide), stB_ne (show (4 : Nat) ≠ 10 by decide)]; exact h6 k hk

end PE4
