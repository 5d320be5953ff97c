section PE3
theorem spR.of {a b a' b' : Dm} (h : spR a b) (ha : ∀ j, 60 ≤ j → a' j = a j) (hb : ∀ j, 60 ≤ j → b' j = b j) (hn : nOf b ≤ nOf b') : spR a' b' := by
  intro j hj
  obtain ⟨n, h1, h2, h3, h4⟩ := h j hj
  exact ⟨n, h1, by omega, by rw [hb _ (by omega)]; exact h3, by rw [ha _ (by omega)]; exact h4⟩
/-- one number of the mission changes on both sides -/
theorem MR.up {a b : Dm} (h : MR a b) {j : Nat} (hj : j ≠ 0) (h60 : j < 60) {v : Int32} (ia : Inv (upd a j v)) (ib : Inv (upd b j v)) : MR (upd a j v) (upd b j v) :=
  ⟨h.1.up hj rfl, ia, ib, h.2.2.2.of (fun q hq => pk_un (by omega)) (fun q hq => pk_un (by omega)) (by rw [nOf_upd hj]; exact Nat.le_refl _)⟩
theorem c_set {a b : Dm} (h : MR a b) (what v : Int32) : (setX a what v).1 = (setX b what v).1 ∧ MR (setX a what v).2 (setX b what v).2 := by
  unfold setX
  by_cases c1 : what = 0 ∧ wi v 9 = true
  · rw [if_pos c1, if_pos c1]
    obtain ⟨h1, h2⟩ := wi_nn (t := 9) (by omega) c1.2
    exact ⟨by rw [h.1.1 3 (by omega)], h.up (by omega) (by omega) (h.2.1.up (Or.inl (by omega)) h2 (fun _ _ => h1)) (h.2.2.1.up (Or.inl (by omega)) h2 (fun _ _ => h1))⟩
  · rw [if_neg c1, if_neg c1]
    by_cases c2 : what = 1 ∧ wi v 255 = true
    · rw [if_pos c2, if_pos c2]
      obtain ⟨h1, h2⟩ := wi_nn (t := 255) (by omega) c2.2
      exact ⟨by rw [h.1.1 4 (by omega)], h.up (by omega) (by omega) (h.2.1.up (Or.inl (by omega)) h2 (fun _ _ => h1)) (h.2.2.1.up (Or.inl (by omega)) h2 (fun _ _ => h1))⟩
    · rw [if_neg c2, if_neg c2]
      exact ⟨rfl, h⟩
theorem c_lis {a b : Dm} (h : MR a b) (i cf : Int32) : (lisX a i cf).1 = (lisX b i cf).1 ∧ MR (lisX a i cf).2 (lisX b i cf).2 := by
  unfold lisX
  by_cases c : (wi i 5 && icB cf) = true
  · rw [if_pos c, if_pos c]
    rw [Bool.and_eq_true] at c
    have hi := (wi_nn (t := 5) (by omega) c.1).1
    obtain ⟨n, h1, h2, h3⟩ := ic_parts c.2
    exact ⟨by rw [h.1.1 _ (show 6 + nn i < 12 by omega)], h.up (by omega) (by omega) (h.2.1.upl (by omega) h3 h1 h2) (h.2.2.1.upl (by omega) h3 h1 h2)⟩
  · rw [if_neg c, if_neg c]
    exact ⟨rfl, h⟩
theorem Sim.wel {a b : Dm} (h : Sim a b) (hI : Inv a) (h8 : a 0 < 8) (kind sins : Int32) : Sim (welF a kind sins) (welF b kind sins) := by
  obtain ⟨N, hN, eN, eNo⟩ := hI.n
  have h8b : b 0 < 8 := by rw [← h.1 0 (by omega)]; exact h8
  have hN8 : N < 8 := by rw [eN] at h8; exact (nI_ltI (b := 8) (by omega) (by omega)).mp h8
  have eb : nOf b = N := by rw [← h.n]; exact eNo
  unfold welF
  rw [if_pos h8, if_pos h8b, eNo, eb]
  have lo : ∀ (q : Dm) j, j < 12 → beginF (upd q 0 (q 0 + 1)) N kind sins j = upd q 0 (q 0 + 1) j := by
    intro q j hj
    unfold beginF
    rw [pk_un (by omega), pk_un (by omega), pk_un (by omega), pk_un (by omega), pk_un (by omega), pk_un (by omega)]
  refine ⟨fun j hj => ?_, fun p hp f hf => ?_⟩
  · rw [lo a j hj, lo b j hj]
    by_cases e : j = 0
    · subst e; rw [pk_us, pk_us, h.1 0 (by omega)]
    · rw [pk_un e, pk_un e]; exact h.1 j hj
  · have hp2 : p ≤ N := by
      have e2 : nOf (beginF (upd a 0 (a 0 + 1)) N kind sins) = N + 1 := by
        unfold nOf
        rw [lo a 0 (by omega), pk_us, eN, nI_1, nI_clamp (by omega)]
      omega
    rcases Nat.lt_or_ge p N with q | q
    · have hq : ∀ (z : Dm), beginF (upd z 0 (z 0 + 1)) N kind sins (12 + 8 * f + p) = z (12 + 8 * f + p) := by
        intro z
        unfold beginF
        rw [pk_un (by omega), pk_un (by omega), pk_un (by omega), pk_un (by omega), pk_un (by omega), pk_un (by omega), pk_un (by omega)]
      rw [hq, hq]
      exact h.2 p (by omega) f hf
    · have : p = N := by omega
      subst this
      have e6 : ∀ z : Dm, ∀ f, f < 6 → beginF z p kind sins (12 + 8 * f + p) = (if f = 0 then kind else if f = 2 then sins else 0) := by
        intro z f hf
        unfold beginF upd
        rcases (show f = 0 ∨ f = 1 ∨ f = 2 ∨ f = 3 ∨ f = 4 ∨ f = 5 by omega) with rfl | rfl | rfl | rfl | rfl | rfl
        · rw [if_neg (by omega), if_neg (by omega), if_neg (by omega), if_neg (by omega), if_neg (by omega), if_pos (by omega)]; rfl
        · rw [if_neg (by omega), if_neg (by omega), if_neg (by omega), if_neg (by omega), if_pos (by omega)]; rfl
        · rw [if_neg (by omega), if_neg (by omega), if_neg (by omega), if_pos (by omega)]; rfl
        · rw [if_neg (by omega), if_neg (by omega), if_pos (by omega)]; rfl
        · rw [if_neg (by omega), if_pos (by omega)]; rfl
        · rw [if_pos (by omega)]; rfl
      rw [e6 _ f hf, e6 _ f hf]
theorem wel_60 {d : Dm} {kind sins : Int32} (hN : nOf d < 8) {j : Nat} (hj : 60 ≤ j) : welF d kind sins j = d j := by
  unfold welF
  split
  · unfold beginF
    rw [pk_un (by omega), pk_un (by omega), pk_un (by omega), pk_un (by omega), pk_un (by omega), pk_un (by omega), pk_un (by omega)]
  · rfl
theorem wel_n {d : Dm} {kind sins : Int32} (h : Inv d) (h8 : d 0 < 8) (hk : ∃ a, a ≤ 6 ∧ kind = nI a) (hs : ∃ a, a ≤ 255 ∧ sins = nI a) : nOf (welF d kind sins) = nOf d + 1 := by
  obtain ⟨h1, h2, h3, h4⟩ := wel_inv h h8 hk hs
  unfold nOf
  rw [h4, nI_clamp (by have : nOf d < 8 := h1; omega)]
  rfl
theorem MR.wel {a b : Dm} (h : MR a b) (h8 : a 0 < 8) {kind sins : Int32} (hk : ∃ a, a ≤ 6 ∧ kind = nI a) (hs : ∃ a, a ≤ 255 ∧ sins = nI a) : MR (welF a kind sins) (welF b kind sins) := by
  have h8b : b 0 < 8 := by rw [← h.1.1 0 (by omega)]; exact h8
  obtain ⟨a1, a2, a3, a4⟩ := wel_inv h.2.1 h8 hk hs
  obtain ⟨b1, b2, b3, b4⟩ := wel_inv h.2.2.1 h8b hk hs
  exact ⟨h.1.wel h.2.1 h8 kind sins, a3, b3, h.2.2.2.of (fun j hj => wel_60 a1 hj) (fun j hj => wel_60 b1 hj) (by rw [wel_n h.2.2.1 h8b hk hs]; omega)⟩
theorem c_pri {a b : Dm} (h : MR a b) (kind sins : Int32) : (priX a kind sins).1 = (priX b kind sins).1 ∧ MR (priX a kind sins).2 (priX b kind sins).2 := by
  have ew : welV a = welV b := by unfold welV; rw [h.1.1 0 (by omega)]
  unfold priX
  rw [ew]
  by_cases c : (wi kind 6 && wi sins 255) = true
  · rw [if_pos c, if_pos c]
    rw [Bool.and_eq_true] at c
    by_cases c2 : welV b < 0
    · rw [if_pos c2, if_pos c2]; exact ⟨rfl, h⟩
    · rw [if_neg c2, if_neg c2]
      have h8 : a 0 < 8 := by
        rw [← ew] at c2
        unfold welV at c2
        split at c2
        · next q => exact q
        · exact absurd (show (-1 : Int32) < 0 by decide) c2
      exact ⟨rfl, h.wel h8 ⟨_, wi_nn (t := 6) (by omega) c.1⟩ ⟨_, wi_nn (t := 255) (by omega) c.2⟩⟩
  · rw [if_neg c, if_neg c]; exact ⟨rfl, h⟩
theorem MR.put {a b : Dm} (h : MR a b) {p : Nat} (hp : p < 8) {what v : Int32} (hv : mayV what v = true) : MR (putF a p what v) (putF b p what v) := by
  unfold mayV at hv
  unfold putF
  by_cases c0 : what = 0
  · rw [if_pos c0] at hv ⊢; rw [if_pos c0]
    obtain ⟨e1, e2⟩ := wi_nn (t := 6) (by omega) hv
    exact h.up (by omega) (by omega) (h.2.1.up (Or.inr (by omega)) e2 (fun _ _ => by rw [bnd_k hp]; exact e1)) (h.2.2.1.up (Or.inr (by omega)) e2 (fun _ _ => by rw [bnd_k hp]; exact e1))
  rw [if_neg c0] at hv ⊢; rw [if_neg c0]
  by_cases c1 : what = 1
  · rw [if_pos c1] at hv ⊢; rw [if_pos c1]
    obtain ⟨e1, e2⟩ := wi_nn (t := 999) (by omega) hv
    exact h.up (by omega) (by omega) (h.2.1.up (Or.inr (by omega)) e2 (fun _ _ => by rw [bnd_s hp]; exact e1)) (h.2.2.1.up (Or.inr (by omega)) e2 (fun _ _ => by rw [bnd_s hp]; exact e1))
  rw [if_neg c1] at hv ⊢; rw [if_neg c1]
  by_cases c2 : what = 2
  · rw [if_pos c2] at hv ⊢; rw [if_pos c2]
    obtain ⟨e1, e2⟩ := wi_nn (t := 255) (by omega) hv
    exact h.up (by omega) (by omega) (h.2.1.up (Or.inr (by omega)) e2 (fun _ _ => by rw [bnd_t hp]; exact e1)) (h.2.2.1.up (Or.inr (by omega)) e2 (fun _ _ => by rw [bnd_t hp]; exact e1))
  rw [if_neg c2] at hv ⊢; rw [if_neg c2]
  by_cases c3 : what = 3
  · rw [if_pos c3] at hv ⊢; rw [if_pos c3]
    obtain ⟨e1, e2⟩ := wi_nn (t := 255) (by omega) hv
    exact h.up (by omega) (by omega) (h.2.1.up (Or.inr (by omega)) e2 (fun _ _ => by rw [bnd_kn hp]; exact e1)) (h.2.2.1.up (Or.inr (by omega)) e2 (fun _ _ => by rw [bnd_kn hp]; exact e1))
  rw [if_neg c3] at hv ⊢; rw [if_neg c3]
  have h9 : ∀ {v : Int32}, wi v 9999 = true → ∃ n, n ≤ 9999 ∧ v = nI n := by
    intro v hv
    rcases wi_cases (t := 9999) v (by omega) with ⟨q, q1, q2, -⟩ | q
    · exact ⟨q, q1, q2⟩
    · rw [show (9999 : Int32) = nI 9999 from rfl] at hv; rw [q] at hv; cases hv
  by_cases c4 : what = 4
  · rw [if_pos c4] at hv ⊢; rw [if_pos c4]
    obtain ⟨n, e1, e2⟩ := h9 hv
    exact h.up (by omega) (by omega) (h.2.1.up (Or.inr (by omega)) e2 (fun _ _ => by rw [bnd_he hp]; exact e1)) (h.2.2.1.up (Or.inr (by omega)) e2 (fun _ _ => by rw [bnd_he hp]; exact e1))
  rw [if_neg c4] at hv ⊢; rw [if_neg c4]
  by_cases c5 : what = 5
  · rw [if_pos c5] at hv ⊢; rw [if_pos c5]
    obtain ⟨n, e1, e2⟩ := h9 hv
    exact h.up (by omega) (by omega) (h.2.1.up (Or.inr (by omega)) e2 (fun _ _ => by rw [bnd_il hp]; exact e1)) (h.2.2.1.up (Or.inr (by omega)) e2 (fun _ _ => by rw [bnd_il hp]; exact e1))
  rw [if_neg c5] at hv; cases hv
theorem c_cha {a b : Dm} (h : MR a b) (p what v : Int32) : (chaX a p what v).1 = (chaX b p what v).1 ∧ MR (chaX a p what v).2 (chaX b p what v).2 := by
  unfold chaX
  rw [h.1.pr]
  by_cases c : (isP b p && mayV what v) = true
  · rw [if_pos c, if_pos c]
    rw [Bool.and_eq_true, ← h.1.pr] at c
    obtain ⟨h1, h2, h3⟩ := isP_nn h.2.1 c.1
    exact ⟨by rw [h.1.tell h1], h.put h3 c.2⟩
  · rw [if_neg c, if_neg c]; exact ⟨rfl, h⟩
theorem MR.bury {a b : Dm} (h : MR a b) {k : Nat} (hk : k < nOf a) (hk8 : k < 8) : bestF a (neB k) (nOf a) = bestF b (neB k) (nOf b) ∧ MR (buryD a k) (buryD b k) := by
  have e : bestF a (neB k) (nOf a) = bestF b (neB k) (nOf b) := by rw [h.1.best (P' := neB k) (nOf a) (Nat.le_refl _) (fun _ _ => rfl), h.1.n]
  refine ⟨e, ?_⟩
  unfold buryD
  rw [e]
  cases hb : bestF b (neB k) (nOf b) with
  | none => exact h
  | some q =>
    have hq := best_lt _ _ _ _ hb
    have hq8 : q < 8 := by obtain ⟨N, hN, eN, eNo⟩ := h.2.2.1.n; omega
    have ekn : a (36 + q) ||| a (36 + k) = b (36 + q) ||| b (36 + k) := by rw [h.1.kn (by rw [h.1.n]; exact hq), h.1.kn hk]
    simp only
    rw [ekn]
    obtain ⟨n, hn, en⟩ := or_le (h.2.2.1.kn hq8) (h.2.2.1.kn hk8)
    have h1 : MR (upd a (36 + q) (b (36 + q) ||| b (36 + k))) (upd b (36 + q) (b (36 + q) ||| b (36 + k))) := h.up (by omega) (by omega) (h.2.1.up (Or.inr (by omega)) en (fun _ _ => by rw [bnd_kn hq8]; exact hn)) (h.2.2.1.up (Or.inr (by omega)) en (fun _ _ => by rw [bnd_kn hq8]; exact hn))
    have h2 := h1.up (j := 36 + k) (v := 0) (by omega) (by omega) (h1.2.1.up (n := 0) (Or.inr (by omega)) rfl (fun _ _ => Nat.zero_le _)) (h1.2.2.1.up (n := 0) (Or.inr (by omega)) rfl (fun _ _ => Nat.zero_le _))
    have h3 := h2.up (j := 20 + k) (v := 0) (by omega) (by omega) (h2.2.1.up (n := 0) (Or.inr (by omega)) rfl (fun _ _ => Nat.zero_le _)) (h2.2.2.1.up (n := 0) (Or.inr (by omega)) rfl (fun _ _ => Nat.zero_le _))
    exact h3.up (j := 28 + k) (v := 0) (by omega) (by omega) (h3.2.1.up (n := 0) (Or.inr (by omega)) rfl (fun _ _ => Nat.zero_le _)) (h3.2.2.1.up (n := 0) (Or.inr (by omega)) rfl (fun _ _ => Nat.zero_le _))
theorem c_die {a b : Dm} (h : MR a b) (p : Int32) : (dieX a p).1 = (dieX b p).1 ∧ MR (dieX a p).2 (dieX b p).2 := by
  unfold dieX
  rw [h.1.pr]
  by_cases c : isP b p = true
  · rw [if_pos c, if_pos c]
    rw [← h.1.pr] at c
    obtain ⟨h1, h2, h3⟩ := isP_nn h.2.1 c
    obtain ⟨e, hm⟩ := h.bury h1 h3
    exact ⟨by rw [e], hm⟩
  · rw [if_neg c, if_neg c]; exact ⟨rfl, h⟩
theorem MR.day {a b : Dm} (h : MR a b) : MR (dayF a) (dayF b) :=
  ⟨h.1.day h.2.1, h.2.1.vDay, h.2.2.1.vDay, h.2.2.2.of (fun j hj => day_off h.2.1 (Or.inr hj) (by omega) (by omega) (by omega)) (fun j hj => day_off h.2.2.1 (Or.inr hj) (by omega) (by omega) (by omega)) (by rw [nOf_day h.2.2.1]; exact Nat.le_refl _)⟩
theorem MR.days {a b : Dm} (h : MR a b) : ∀ n, MR (daysF a n) (daysF b n) := by
  intro n
  induction n with
  | zero => exact h
  | succ n ih => exact ih.day
theorem c_go {a b : Dm} (h : MR a b) (n : Int32) : (goX a n).1 = (goX b n).1 ∧ MR (goX a n).2 (goX b n).2 := by
  unfold goX
  rw [h.1.1 1 (by omega)]
  split
  · exact ⟨rfl, h⟩
  · split
    · exact ⟨rfl, h⟩
    · split
      · exact ⟨rfl, h⟩
      · exact ⟨by rw [(h.days (nn n)).1.1 4 (by omega)], h.days (nn n)⟩
theorem MR.com1 {a b : Dm} (h : MR a b) : MR (com1 a) (com1 b) := by
  have e2 := h.1.1 2 (by omega)
  have h1 : MR (upd a 2 (drawZ (a 2))) (upd b 2 (drawZ (b 2))) := by
    rw [e2]
    exact h.up (by omega) (by omega) (h.2.1.z _) (h.2.2.1.z _)
  have h2 : MR (upd (upd a 2 (drawZ (a 2))) 2 (drawZ (drawZ (a 2)))) (upd (upd b 2 (drawZ (b 2))) 2 (drawZ (drawZ (b 2)))) := by
    rw [e2] at h1 ⊢
    exact h1.up (by omega) (by omega) (h1.2.1.z _) (h1.2.2.1.z _)
  have ht := h2.1.tod
  have hta := h2.2.1.tod.1
  show MR (dayF (upd (upd (upd a 2 (drawZ (a 2))) 2 (drawZ (drawZ (a 2)))) (6 + todN (upd (upd a 2 (drawZ (a 2))) 2 (drawZ (drawZ (a 2))))) (100 * rmI (us (drawZ (a 2)) 8) 8 + rmI (us (drawZ (drawZ (a 2))) 8) 41))) (dayF (upd (upd (upd b 2 (drawZ (b 2))) 2 (drawZ (drawZ (b 2)))) (6 + todN (upd (upd b 2 (drawZ (b 2))) 2 (drawZ (drawZ (b 2))))) (100 * rmI (us (drawZ (b 2)) 8) 8 + rmI (us (drawZ (drawZ (b 2))) 8) 41)))
  rw [← ht, ← e2]
  rw [← e2] at h2
  exact (h2.up (by omega) (by omega) (h2.2.1.cf hta (us8 _) (us8 _)) (h2.2.2.1.cf hta (us8 _) (us8 _))).day
theorem MR.com {a b : Dm} (h : MR a b) : ∀ n, MR (comF a n) (comF b n) := by
  intro n
  induction n with
  | zero => exact h
  | succ n ih => exact ih.com1
theorem c_com {a b : Dm} (h : MR a b) (n : Int32) : (comX a n).1 = (comX b n).1 ∧ MR (comX a n).2 (comX b n).2 := by
  unfold comX
  rw [h.1.1 1 (by omega)]
  split
  · exact ⟨rfl, h⟩
  · split
    · exact ⟨rfl, h⟩
    · split
      · exact ⟨rfl, h⟩
      · exact ⟨by rw [(h.com (nn n)).1.1 4 (by omega)], h.com (nn n)⟩
theorem c_hol {a b : Dm} (h : MR a b) (sp p : Int32) : (holX a sp p).1 = (holR b sp p).1 ∧ MR (holX a sp p).2 (holR b sp p).2 := by
  obtain ⟨N, hN, eN, eNo⟩ := h.2.2.1.n
  have ea : a 0 = nI N := (h.1.1 0 (by omega)).trans eN
  have ec : (!decide (p < -1) && decide (p < a 0)) = bt p (-1) (b 0 - 1) := by
    unfold bt
    rw [ea, eN]
    congr 1
    rw [Bool.eq_iff_iff, decide_eq_true_iff, Bool.not_eq_true', decide_eq_false_iff_not]
    have hint : (nI N - 1 : Int32).toInt = (N : Int) - 1 := by
      rcases Nat.eq_zero_or_pos N with q | q
      · subst q; rfl
      · rw [show (1 : Int32) = nI 1 from rfl, pk_sub q, nI_int (by omega)]; omega
    rw [Int32.lt_iff_toInt_lt, Int32.lt_iff_toInt_lt, hint, nI_int (by omega)]
    omega
  unfold holX holR
  rw [Bool.and_assoc, ec]
  by_cases c : (wi sp 9 && bt p (-1) (b 0 - 1)) = true
  · rw [if_pos c, if_pos c]
    refine ⟨rfl, ?_⟩
    rw [Bool.and_eq_true, ← ec] at c
    have hs := (wi_nn (t := 9) (by omega) c.1).1
    have c2 := c.2
    simp only [Bool.and_eq_true, Bool.not_eq_true', decide_eq_false_iff_not, decide_eq_true_eq] at c2
    obtain ⟨n, hn, e1, e2⟩ : ∃ n, n ≤ N ∧ p + 1 = nI n ∧ p = nI n - 1 := by
      by_cases h0 : p < 0
      · have : p = -1 := by
          apply Int32.toInt_inj.mp
          have h1 := c2.1
          rw [Int32.lt_iff_toInt_lt] at h0 h1
          have e1 : (-1 : Int32).toInt = -1 := rfl
          have e0 : (0 : Int32).toInt = 0 := rfl
          rw [e1] at h1 ⊢
          rw [e0] at h0
          omega
        subst this
        exact ⟨0, by omega, rfl, rfl⟩
      · obtain ⟨q, hq, rfl⟩ := nI_of h0
        have hlt : q < N := by
          have := c2.2
          rw [ea] at this
          exact (nI_ltI (by omega) (by omega)).mp this
        exact ⟨q + 1, by omega, nI_1 q, by rw [show (1 : Int32) = nI 1 from rfl, pk_sub (by omega), Nat.add_sub_cancel]⟩
    show MR (upd a (60 + nn sp) p) (upd b (60 + nn sp) (p + 1))
    refine ⟨?_, ?_, ?_, ?_⟩
    · exact ⟨fun j hj => by rw [pk_un (by omega), pk_un (by omega)]; exact h.1.1 j hj, fun q hq f hf => by
        rw [nOf_upd (by omega)] at hq
        have : nOf a = N := by rw [h.1.n]; exact eNo
        rw [pk_un (by omega), pk_un (by omega)]; exact h.1.2 q hq f hf⟩
    · exact ⟨fun j hj hj2 => by rw [pk_un (by omega)]; exact h.2.1.1 j hj hj2, fun j hj => by rw [pk_un (by omega)]; exact h.2.1.2 j hj⟩
    · exact ⟨fun j hj hj2 => by rw [pk_un (by omega)]; exact h.2.2.1.1 j hj hj2, fun j hj => by rw [pk_un (by omega)]; exact h.2.2.1.2 j hj⟩
    · intro j hj
      by_cases e : j = nn sp
      · subst e
        exact ⟨n, by omega, by rw [nOf_upd (by omega)]; omega, by rw [pk_us]; exact e1, by rw [pk_us]; exact e2⟩
      · obtain ⟨k, k1, k2, k3, k4⟩ := h.2.2.2 j hj
        exact ⟨k, k1, by rw [nOf_upd (by omega)]; exact k2, by rw [pk_un (by omega)]; exact k3, by rw [pk_un (by omega)]; exact k4⟩
  · rw [if_neg c, if_neg c]; exact ⟨rfl, h⟩
variable {l : Launch} {sk : (Nat → Nat) × (Nat → Nat)} {D : va_G} {cy : Nat → ClassId} {Ac Ar : Nat → Nat} {Mc Mr : Mem}

theorem d_set (h : Rel Mc Mr) (what v : Int32) : DUO Rel l sk D cy Ac Ar mX6_set mX7_set [.int what, .int v] Value.int Mc Mr := duo_m h (x := setX (Mc 0) what v) (x' := setX (Mr 0) what v) (h := 2) (h' := 2) (by decide) (by decide) (fun X => k_X6_set what v Mc h.ci) (fun X => m_set what v Mr h.iv) (c_set h.1 what v).1 (c_set h.1 what v).2
theorem d_list (h : Rel Mc Mr) (i cf : Int32) : DUO Rel l sk D cy Ac Ar mX6_list mX7_list [.int i, .int cf] Value.int Mc Mr := duo_m h (x := lisX (Mc 0) i cf) (x' := lisX (Mr 0) i cf) (h := 2) (h' := 2) (by decide) (by decide) (fun X => k_X6_list i cf Mc h.ci) (fun X => m_list i cf Mr h.iv) (c_lis h.1 i cf).1 (c_lis h.1 i cf).2
theorem d_priest (h : Rel Mc Mr) (kind sins : Int32) : DUO Rel l sk D cy Ac Ar mX6_priest mX7_priest [.int kind, .int sins] Value.int Mc Mr := duo_m h (x := priX (Mc 0) kind sins) (x' := priX (Mr 0) kind sins) (h := 2) (h' := 2) (by decide) (by decide) (fun X => k_X6_priest kind sins Mc h.ci) (fun X => m_priest kind sins Mr h.iv) (c_pri h.1 kind sins).1 (c_pri h.1 kind sins).2
theorem d_change (h : Rel Mc Mr) (p what v : Int32) : DUO Rel l sk D cy Ac Ar mX6_change mX7_change [.int p, .int what, .int v] Value.int Mc Mr := duo_m h (x := chaX (Mc 0) p what v) (x' := chaX (Mr 0) p what v) (h := 3) (h' := 2) (by decide) (by decide) (fun X => k_X6_change p what v Mc h.ci) (fun X => m_change p what v Mr h.iv) (c_cha h.1 p what v).1 (c_cha h.1 p what v).2
theorem d_dies (h : Rel Mc Mr) (p : Int32) : DUO Rel l sk D cy Ac Ar mX6_dies mX7_dies [.int p] Value.int Mc Mr := duo_m h (x := dieX (Mc 0) p) (x' := dieX (Mr 0) p) (h := 4) (h' := 4) (by decide) (by decide) (fun X => k_X6_dies p Mc h.ci) (fun X => m_dies p Mr h.iv) (c_die h.1 p).1 (c_die h.1 p).2
theorem d_go (h : Rel Mc Mr) (n : Int32) : DUO Rel l sk D cy Ac Ar mX6_go mX7_go [.int n] Value.int Mc Mr := duo_m h (x := goX (Mc 0) n) (x' := goX (Mr 0) n) (h := 5) (h' := 7) (by decide) (by decide) (fun X => k_X6_go n Mc h.ci) (fun X => m_go n Mr h.iv) (c_go h.1 n).1 (c_go h.1 n).2
theorem d_come (h : Rel Mc Mr) (n : Int32) : DUO Rel l sk D cy Ac Ar mX6_come mX7_come [.int n] Value.int Mc Mr := duo_m h (x := comX (Mc 0) n) (x' := comX (Mr 0) n) (h := 5) (h' := 6) (by decide) (by decide) (fun X => k_X6_come n Mc h.ci) (fun X => m_come n Mr h.iv) (c_com h.1 n).1 (c_com h.1 n).2
theorem d_hold (h : Rel Mc Mr) (sp p : Int32) : DUO Rel l sk D cy Ac Ar mX6_hold mX7_hold [.int sp, .int p] Value.int Mc Mr := duo_m h (x := holX (Mc 0) sp p) (x' := holR (Mr 0) sp p) (h := 2) (h' := 2) (by decide) (by decide) (fun X => k_X6_hold sp p Mc h.ci) (fun X => m_hold sp p Mr h.iv) (c_hol h.1 sp p).1 (c_hol h.1 sp p).2
theorem d_seed (h : Rel Mc Mr) (v : Int32) : DUO Rel l sk D cy Ac Ar mX6_seed mX7_seed [.int v] Value.int Mc Mr := duo_of h (M1 := stB Mc 0 (upd (Mc 0) 2 v)) (M2 := stB Mr 0 (upd (Mr 0) 2 v)) (x := .inl (Mc 0 2)) (x' := .inl (Mr 0 2)) (h := 0) (h' := 2) (by decide) (by decide) (fun X => k_X6_seed v Mc h.ci) (fun X => (m_seed v Mr).mono (fun v9 M9 hp => ⟨hp.1, eqM_r hp.2⟩)) (by rw [h.1.1.1 2 (by omega)]) (fun r _ => h.mis (h.1.up (by omega) (by omega) (h.1.2.1.z _) (h.1.2.2.1.z _)))
end PE3
