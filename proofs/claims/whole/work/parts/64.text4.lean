section R25

def AtR (M : Mem) (q : Dm) (e : Nat) : Prop := e ≤ tapR M ∧ q 0 = M 10 0 ∧ q 1 = M 10 1 ∧ q 2 = nI (tokA (gM M) e) ∧ q 3 = tokT (gM M) e ∧ q 4 = nI (tokS (gM M) e) ∧ ljn (q 5) (q 6) = tokL (gM M) e ∧ q 7 = -1
theorem AtR.q1 {M : Mem} {q : Dm} {e : Nat} (h : AtR M q e) : q 1 = M 10 1 := h.2.2.1
theorem AtR.q3 {M : Mem} {q : Dm} {e : Nat} (h : AtR M q e) : q 3 = tokT (gM M) e := h.2.2.2.2.1
theorem AtR.q4 {M : Mem} {q : Dm} {e : Nat} (h : AtR M q e) : q 4 = nI (tokS (gM M) e) := h.2.2.2.2.2.1
theorem AtR.qv {M : Mem} {q : Dm} {e : Nat} (h : AtR M q e) : ljn (q 5) (q 6) = tokL (gM M) e := h.2.2.2.2.2.2.1
theorem AtR.q7 {M : Mem} {q : Dm} {e : Nat} (h : AtR M q e) : q 7 = -1 := h.2.2.2.2.2.2.2
def PMR (M : Mem) (q d : Dm) : Mem := stB (stB M 10 q) 0 d
theorem PMR_10 {M : Mem} {q d : Dm} : PMR M q d 10 = q := by unfold PMR; rw [stB_ne (by decide), stB_at]
theorem PMR_0 {M : Mem} {q d : Dm} : PMR M q d 0 = d := by unfold PMR; rw [stB_at]
theorem PMR_o {M : Mem} {q d : Dm} {b : Nat} (h0 : b ≠ 0) (h1 : b ≠ 10) : PMR M q d b = M b := by unfold PMR; rw [stB_ne h0, stB_ne h1]
theorem PMR_s10 {M : Mem} {q d q' : Dm} : stB (PMR M q d) 10 q' = PMR M q' d := by unfold PMR; rw [stB_comm (by decide), stB_st]
theorem PMR_s0 {M : Mem} {q d d' : Dm} : stB (PMR M q d) 0 d' = PMR M q d' := by unfold PMR; rw [stB_st]
theorem PMR_u0 {M : Mem} {q d : Dm} {j : Nat} {x : Int32} : upB (PMR M q d) 0 j x = PMR M q (upd d j x) := by rw [upB_st, PMR_0, PMR_s0]
theorem PMR_u10 {M : Mem} {q d : Dm} {j : Nat} {x : Int32} : upB (PMR M q d) 10 j x = PMR M (upd q j x) d := by rw [upB_st, PMR_10, PMR_s10]
theorem PMR_tap {M : Mem} {q d : Dm} (h : q 1 = M 10 1) : tapR (PMR M q d) = tapR M := by unfold tapR; rw [PMR_10, h]
theorem PMR_g {M : Mem} {q d : Dm} (h : q 1 = M 10 1) : gM (PMR M q d) = gM M := by
  funext k
  unfold gM
  rw [PMR_tap h, PMR_o (by decide) (by decide)]
theorem PMR_ok {M : Mem} {q d : Dm} (hT : tpOk M) (h : q 1 = M 10 1) : tpOk (PMR M q d) := by
  unfold tpOk
  rw [PMR_tap h, PMR_10, h, PMR_o (by decide) (by decide)]
  exact hT
theorem tokR_le {M : Mem} {e : Nat} (hT : tpOk M) (he : e ≤ tapR M) : tokS (gM M) e ≤ tapR M ∧ tokE (gM M) e ≤ tapR M := by
  have hs : lxS (gM M) e ≤ tapR M := by unfold lxS; exact run_top (fun k hk => g_lt hT (by rw [of_decide_eq_true hk]; decide)) _ _ he
  refine ⟨hs, ?_⟩
  unfold tokE lxE
  split
  · exact hs
  · next hn =>
    have := g_lt hT hn
    split
    · exact run_top (fun k hk => g_lt hT (isL_nn hk)) _ _ hs
    · split
      · exact run_top (fun k hk => g_lt hT (isD_nn hk)) _ _ hs
      · omega
theorem tokA_e {g : Nat → Int32} {e : Nat} (h : tokT g e ≠ 4) : tokA g e = tokE g e := if_neg h
theorem atR_nx {M : Mem} {q : Dm} {e0 e : Nat} (hA : AtR M q e0) (he : e ≤ tapR M) : AtR M (nxD (gM M) q e) e := ⟨he, hA.2.1, hA.2.2.1, rfl, rfl, rfl, ljn_s _, hA.q7⟩
theorem isWq_t {g : Nat → Int32} {e i : Nat} (h : isWq g e i = true) : tokT g e = 1 := by
  unfold isWq at h
  simp only [Bool.and_eq_true, decide_eq_true_eq] at h
  exact h.1.1
theorem isWq_4 {g : Nat → Int32} {e i : Nat} (h : isWq g e i = true) : tokT g e ≠ 4 := by rw [isWq_t h]; decide
theorem isWR_q {M : Mem} {q d : Dm} {e i : Nat} {x : Int64} (hA : AtR M q e) (hi : i < 13) (hx : x = Int64.ofNat (wN i)) : isWR (PMR M q d) x = isWq (gM M) e i := by
  subst hx
  unfold isWR valL isWq
  rw [PMR_10, hA.q3, hA.qv]
  by_cases h1 : tokT (gM M) e = 1
  · rw [tok_wb hi h1, Bool.and_assoc]
  · rw [decide_eq_false h1]; rfl
def wLs (i : Nat) : Int64 := [404923, 12257559, 11522, 54562550, 2149867513, 10553888, 10124021, 33861013, 126232693, 239329775, 10656676, 6132988, 7659250303].getD i 0
theorem wL_n : ∀ i, i < 13 → wLs i = Int64.ofNat (wN i) := by decide +kernel
theorem PMR_wro {M : Mem} {q d : Dm} {e : Nat} (hA : AtR M q e) : stB (PMR M q d) 10 (wroD (PMR M q d 10)) = PMR M (upd q 7 (q 4)) d := by
  unfold wroD
  rw [PMR_10, hA.q7, if_pos (by decide), PMR_s10]
theorem kin_R {M : Mem} {q d : Dm} {e : Nat} (hA : AtR M q e) : kiHR (PMR M q d) = oI (kinS (gM M) e) := by
  unfold kiHR
  rw [isWR_q hA (x := 239329775) (i := 9) (by decide) (wL_n 9 (by decide)), isWR_q hA (x := 54562550) (i := 3) (by decide) (wL_n 3 (by decide)), isWR_q hA (x := 2149867513) (i := 4) (by decide) (wL_n 4 (by decide)), isWR_q hA (x := 10553888) (i := 5) (by decide) (wL_n 5 (by decide)), isWR_q hA (x := 10124021) (i := 6) (by decide) (wL_n 6 (by decide)), isWR_q hA (x := 33861013) (i := 7) (by decide) (wL_n 7 (by decide)), isWR_q hA (x := 126232693) (i := 8) (by decide) (wL_n 8 (by decide))]
  unfold kinS
  simp only [fstN, show kw 0 = 9 from rfl, show kw 1 = 3 from rfl, show kw 2 = 4 from rfl, show kw 3 = 5 from rfl, show kw 4 = 6 from rfl, show kw 5 = 7 from rfl, show kw 6 = 8 from rfl]
  cases isWq (gM M) e 9 <;> cases isWq (gM M) e 3 <;> cases isWq (gM M) e 4 <;> cases isWq (gM M) e 5 <;> cases isWq (gM M) e 6 <;> cases isWq (gM M) e 7 <;> cases isWq (gM M) e 8 <;> rfl
def rPR (M : Mem) (x : PR) : Option Value → Mem → Prop := fun v M' => v = none ∧ match x with
  | .inl y => ∃ q', AtR M q' y.1 ∧ Inv y.2 ∧ M' = PMR M q' y.2
  | .inr s => s ≤ 120 ∧ ∃ q' d', q' 0 = M 10 0 ∧ q' 1 = M 10 1 ∧ q' 7 = nI s ∧ M' = PMR M q' d'
theorem rPR_l {M M' : Mem} {x : PR} {e' : Nat} {d' q' : Dm} (hx : x = .inl (e', d')) (hA : AtR M q' e') (hd : Inv d') (hM : M' = PMR M q' d') : rPR M x none M' := by subst hx; exact ⟨rfl, q', hA, hd, hM⟩
theorem rPR_r {M M' : Mem} {x : PR} {e' : Nat} {d' q' : Dm} (hT : tpOk M) (hx : x = .inr (tokS (gM M) e')) (hA : AtR M q' e') (hM : M' = PMR M (upd q' 7 (q' 4)) d') : rPR M x none M' := by
  subst hx
  have h1 := (tokR_le hT hA.1).1
  have h2 := hT.1
  exact ⟨rfl, by omega, _, d', (pk_un (by decide)).trans hA.2.1, (pk_un (by decide)).trans hA.2.2.1, pk_us.trans hA.q4, hM⟩
theorem rPR_f {M M' : Mem} {x : PR} {s : Nat} {d' q' : Dm} (hx : x = .inr s) (hs : s ≤ 120) (h0 : q' 0 = M 10 0) (h1 : q' 1 = M 10 1) (h7 : q' 7 = nI s) (hM : M' = PMR M q' d') : rPR M x none M' := by
  subst hx
  exact ⟨rfl, hs, q', d', h0, h1, h7, hM⟩

variable {l : Launch} {sk : (Nat → Nat) × (Nat → Nat)} {D : va_G} {cy : Nat → ClassId} {A : Nat → Nat} {X : va_W}
theorem m_adv (M : Mem) (hT : tpOk M) (q d : Dm) (e : Nat) (hA : AtR M q e) (h4 : tokT (gM M) e ≠ 4) : CR l sk D cy A X mX7_next 1 [.ref (A 0)] (PMR M q d) (rV (PMR M (nxD (gM M) q (tokE (gM M) e)) d)) := by
  have h := m_next (l := l) (sk := sk) (D := D) (cy := cy) (A := A) (X := X) (PMR M q d) (tokE (gM M) e) (PMR_ok hT hA.q1) (by rw [PMR_tap hA.q1]; exact (tokR_le hT hA.1).2) (by rw [PMR_10, hA.2.2.2.1, tokA_e h4])
  rw [PMR_g hA.q1, PMR_10, PMR_s10] at h
  exact h
theorem m_isW (M : Mem) (hT : tpOk M) (q d : Dm) (e : Nat) (hA : AtR M q e) (i : Nat) (hi : i < 13) (x : Int64) (hx : x = Int64.ofNat (wN i)) : CR l sk D cy A X mX7_isWord 0 [.ref (A 0), .long x] (PMR M q d) (rI (bI (isWq (gM M) e i)) (PMR M q d)) := by
  have h := m_isWord (l := l) (sk := sk) (D := D) (cy := cy) (A := A) (X := X) x (PMR M q d)
  rw [isWR_q hA hi hx] at h
  exact h
theorem m_kinH (M : Mem) (hT : tpOk M) (q d : Dm) (e : Nat) (hA : AtR M q e) : CR l sk D cy A X mX7_kindHere 1 [.ref (A 0)] (PMR M q d) (rI (oI (kinS (gM M) e)) (PMR M q d)) := by
  have h := m_kindHere (l := l) (sk := sk) (D := D) (cy := cy) (A := A) (X := X) (PMR M q d)
  rw [kin_R hA] at h
  exact h
theorem m_wroH (M : Mem) (hT : tpOk M) (q d : Dm) (e : Nat) (hA : AtR M q e) : CR l sk D cy A X mX7_wrongHere 0 [.ref (A 0)] (PMR M q d) (rV (PMR M (upd q 7 (q 4)) d)) := by
  have h := m_wrongHere (l := l) (sk := sk) (D := D) (cy := cy) (A := A) (X := X) (PMR M q d)
  rw [PMR_wro hA] at h
  exact h
set_option maxRecDepth 20000 in
theorem m_numY (M : Mem) (hT : tpOk M) (q d : Dm) (e : Nat) (hA : AtR M q e) (m : Nat) (hm : m ≤ 9999) (x : Int32) (hx : rnumS (gM M) e (nI m) = some x) : CR l sk D cy A X mX7_numberHere 2 [.ref (A 0), .int (nI m)] (PMR M q d) (rI x (PMR M (nxD (gM M) q (tokE (gM M) e)) d)) := by
  refine Con.of (lo := [some (.ref (A 0)), some (.int (nI m)), none]) cf_X7_numberHere (fun _ _ => wl_fst) 1 rfl (Nat.le_of_ble_eq_true rfl) (fun Pp Ee Ss Mm Aa Bb Me Cc A0 B hr hlk => ?_)
  have B : BS sk D cy (wl A cy 11 TM X) A0 Pp Ss Mm Aa Cc RX7 cX7_numberHere 3 := B
  have hh : tokT (gM M) e = 2 ∧ ¬ nI m < tokV (gM M) e ∧ tokV (gM M) e = x := by
    unfold rnumS at hx
    split at hx
    · next h2 =>
      split at hx
      · cases hx
      · next h3 => injection hx with hx; exact ⟨h2, h3, hx⟩
    · cases hx
  obtain ⟨h2, h3, rfl⟩ := hh
  have hrl := tok_n h2
  refine a_aload_n B dX7_numberHere_0 rfl ?_
  refine a_getL B fl_X7_204 (by decide) rfl rfl dX7_numberHere_1 ?_
  rw [PMR_10, hA.qv]
  refine a_l2i B dX7_numberHere_4 ?_
  refine p_istore2 B dX7_numberHere_5 (by decide) (k := ?_)
  refine a_aload_n B dX7_numberHere_6 rfl ?_
  refine a_getI B fl_X7_208 (by decide) rfl rfl dX7_numberHere_7 ?_
  refine a_iconst (v := 2) B dX7_numberHere_10 (by decide) ?_
  rw [PMR_10, hA.q3]
  refine a_icmp_ne 24 B dX7_numberHere_11 (by decide) (fun c11 => ?_) (fun c11 => ?_)
  · exact absurd h2 c11
  refine a_aload_n B dX7_numberHere_14 rfl ?_
  refine a_getL B fl_X7_204 (by decide) rfl rfl dX7_numberHere_15 ?_
  refine a_iload_n B dX7_numberHere_18 rfl ?_
  refine a_i2l B dX7_numberHere_19 ?_
  rw [PMR_10, hA.qv]
  refine a_lcmp B dX7_numberHere_20 ?_
  refine a_if_le 30 B dX7_numberHere_21 (by decide) (fun c21 => ?_) (fun c21 => ?_)
  · refine a_aload_n B dX7_numberHere_30 rfl ?_
    refine a_callV0v B rfl cf_X7_next lk_X7_251 in_X7_next se_X7_next (wl_rc (p0 := 0) (by decide) rfl rfl rfl) (m_adv M hT q d e hA (by rw [h2]; decide)) dX7_numberHere_31 (Nat.le_of_ble_eq_true rfl) ⟨Nat.le_of_ble_eq_true rfl, Nat.le_of_ble_eq_true rfl⟩ ⟨rfl, rfl⟩ ?_
    refine a_iload_n B dX7_numberHere_34 rfl ?_
    exact a_iret B hr hlk dX7_numberHere_35 ⟨congrArg (fun z => some (Value.int z)) (nrel_i hm hrl h3), rfl⟩
  exact absurd ((nrel_gt hm hrl).mp (Int32.not_le.mp c21)) h3
set_option maxRecDepth 20000 in
theorem m_numN (M : Mem) (hT : tpOk M) (q d : Dm) (e : Nat) (hA : AtR M q e) (m : Nat) (hm : m ≤ 9999) (hx : rnumS (gM M) e (nI m) = none) : CR l sk D cy A X mX7_numberHere 2 [.ref (A 0), .int (nI m)] (PMR M q d) (rI 0 (PMR M (upd q 7 (q 4)) d)) := by
  refine Con.of (lo := [some (.ref (A 0)), some (.int (nI m)), none]) cf_X7_numberHere (fun _ _ => wl_fst) 1 rfl (Nat.le_of_ble_eq_true rfl) (fun Pp Ee Ss Mm Aa Bb Me Cc A0 B hr hlk => ?_)
  have B : BS sk D cy (wl A cy 11 TM X) A0 Pp Ss Mm Aa Cc RX7 cX7_numberHere 3 := B
  refine a_aload_n B dX7_numberHere_0 rfl ?_
  refine a_getL B fl_X7_204 (by decide) rfl rfl dX7_numberHere_1 ?_
  rw [PMR_10, hA.qv]
  refine a_l2i B dX7_numberHere_4 ?_
  refine p_istore2 B dX7_numberHere_5 (by decide) (k := ?_)
  refine a_aload_n B dX7_numberHere_6 rfl ?_
  refine a_getI B fl_X7_208 (by decide) rfl rfl dX7_numberHere_7 ?_
  refine a_iconst (v := 2) B dX7_numberHere_10 (by decide) ?_
  rw [PMR_10, hA.q3]
  refine a_icmp_ne 24 B dX7_numberHere_11 (by decide) (fun c11 => ?_) (fun c11 => ?_)
  · refine a_aload_n B dX7_numberHere_24 rfl ?_
    refine a_callV0v B rfl cf_X7_wrongHere lk_X7_248 in_X7_wrongHere se_X7_wrongHere (wl_rc (p0 := 0) (by decide) rfl rfl rfl) (m_wroH M hT q d e hA) dX7_numberHere_25 (Nat.le_of_ble_eq_true rfl) ⟨Nat.le_of_ble_eq_true rfl, Nat.le_of_ble_eq_true rfl⟩ ⟨rfl, rfl⟩ ?_
    refine a_iconst (v := 0) B dX7_numberHere_28 (by decide) ?_
    exact a_iret B hr hlk dX7_numberHere_29 ⟨congrArg (fun z => some (Value.int z)) (rfl), rfl⟩
  refine a_aload_n B dX7_numberHere_14 rfl ?_
  refine a_getL B fl_X7_204 (by decide) rfl rfl dX7_numberHere_15 ?_
  refine a_iload_n B dX7_numberHere_18 rfl ?_
  refine a_i2l B dX7_numberHere_19 ?_
  rw [PMR_10, hA.qv]
  refine a_lcmp B dX7_numberHere_20 ?_
  refine a_if_le 30 B dX7_numberHere_21 (by decide) (fun c21 => ?_) (fun c21 => ?_)
  · exfalso
    have hr := tok_n c11
    have h3 : ¬ nI m < tokV (gM M) e := fun hh => absurd ((nrel_gt hm hr).mpr hh) (Int32.not_lt.mpr c21)
    unfold rnumS at hx
    rw [if_pos c11, if_neg h3] at hx
    cases hx
  refine a_aload_n B dX7_numberHere_24 rfl ?_
  refine a_callV0v B rfl cf_X7_wrongHere lk_X7_248 in_X7_wrongHere se_X7_wrongHere (wl_rc (p0 := 0) (by decide) rfl rfl rfl) (m_wroH M hT q d e hA) dX7_numberHere_25 (Nat.le_of_ble_eq_true rfl) ⟨Nat.le_of_ble_eq_true rfl, Nat.le_of_ble_eq_true rfl⟩ ⟨rfl, rfl⟩ ?_
  refine a_iconst (v := 0) B dX7_numberHere_28 (by decide) ?_
  exact a_iret B hr hlk dX7_numberHere_29 ⟨congrArg (fun z => some (Value.int z)) (rfl), rfl⟩
set_option maxRecDepth 20000 in
theorem m_perF (M : Mem) (x0 : Int64) (v1 v2 : Int32) (h7 : ¬ M 10 7 < 0) : CR l sk D cy A X mX7_perhaps 3 [.ref (A 0), .long x0, .int v1, .int v2] M (rV M) := by
  refine Con.of (lo := [some (.ref (A 0)), some (.long x0), none, some (.int v1), some (.int v2), none]) cf_X7_perhaps (fun _ _ => wl_fst) 1 rfl (Nat.le_of_ble_eq_true rfl) (fun Pp Ee Ss Mm Aa Bb Me Cc A0 B hr hlk => ?_)
  have B : BS sk D cy (wl A cy 11 TM X) A0 Pp Ss Mm Aa Cc RX7 cX7_perhaps 6 := B
  refine a_aload_n B dX7_perhaps_0 rfl ?_
  refine a_getI B fl_X7_227 (by decide) rfl rfl dX7_perhaps_1 ?_
  refine a_if_ge 46 B dX7_perhaps_4 (by decide) (fun c4 => ?_) (fun c4 => ?_)
  · exact a_vret B hr hlk dX7_perhaps_46 ⟨rfl, rfl⟩
  exact absurd (Int32.not_le.mp c4) h7
set_option maxRecDepth 20000 in
theorem m_per (M : Mem) (hT : tpOk M) (q d : Dm) (e : Nat) (hA : AtR M q e) (hI : Inv d) (i : Nat) (hi : i < 13) (p : Nat) (hp : p < 8) (wn m : Nat) (hw : wn = 1 ∧ m = 999 ∨ (wn = 2 ∨ wn = 3) ∧ m = 255) (x0 : Int64) (hx0 : x0 = Int64.ofNat (wN i)) : CR l sk D cy A X mX7_perhaps 3 [.ref (A 0), .long x0, .int (nI p), .int (nI wn)] (PMR M q d) (rPR M (perS (gM M) e d i p (nI wn))) := by
  refine Con.of (lo := [some (.ref (A 0)), some (.long x0), none, some (.int (nI p)), some (.int (nI wn)), none]) cf_X7_perhaps (fun _ _ => wl_fst) 1 rfl (Nat.le_of_ble_eq_true rfl) (fun Pp Ee Ss Mm Aa Bb Me Cc A0 B hr hlk => ?_)
  have B : BS sk D cy (wl A cy 11 TM X) A0 Pp Ss Mm Aa Cc RX7 cX7_perhaps 6 := B
  have hw2 : (nI wn : Int32) = 1 ∧ m = 999 ∨ ((nI wn : Int32) = 2 ∨ (nI wn : Int32) = 3) ∧ m = 255 := by
    rcases hw with ⟨rfl, rfl⟩ | ⟨rfl | rfl, rfl⟩
    · exact Or.inl ⟨rfl, rfl⟩
    · exact Or.inr ⟨Or.inl rfl, rfl⟩
    · exact Or.inr ⟨Or.inr rfl, rfl⟩
  have hmo : mosV (nI wn) = nI m := by rcases hw with ⟨rfl, rfl⟩ | ⟨rfl | rfl, rfl⟩ <;> rfl
  have hmi : (if (nI wn : Int32) = 1 then (999 : Int32) else 255) = nI m := by rcases hw with ⟨rfl, rfl⟩ | ⟨rfl | rfl, rfl⟩ <;> rfl
  have hm : m ≤ 9999 := by rcases hw with ⟨rfl, rfl⟩ | ⟨rfl | rfl, rfl⟩ <;> omega
  have hwn : wn < 6 := by omega
  have hpf : ∀ y, upd d (12 + 8 * wn + p) y = putF d p (nI wn) y := by intro y; rcases hw with ⟨rfl, rfl⟩ | ⟨rfl | rfl, rfl⟩ <;> rfl
  obtain ⟨q1, hq1⟩ : ∃ q1, q1 = nxD (gM M) q (tokE (gM M) e) := ⟨_, rfl⟩
  have hA1 : AtR M q1 (tokE (gM M) e) := by rw [hq1]; exact atR_nx hA (tokR_le hT (hA).1).2
  refine a_aload_n B dX7_perhaps_0 rfl ?_
  refine a_getI B fl_X7_227 (by decide) rfl rfl dX7_perhaps_1 ?_
  rw [PMR_10, hA.q7]
  refine a_if_ge 46 B dX7_perhaps_4 (by decide) (fun c4 => ?_) (fun c4 => ?_)
  · exact absurd c4 (by decide)
  refine a_aload_n B dX7_perhaps_7 rfl ?_
  refine a_lload_n B dX7_perhaps_8 rfl ?_
  refine a_callV1r B rfl cf_X7_isWord lk_X7_232 in_X7_isWord se_X7_isWord (wl_rc (p0 := 0) (by decide) rfl rfl rfl) (m_isW M hT q d e hA i hi x0 hx0) dX7_perhaps_9 (Nat.le_of_ble_eq_true rfl) ⟨Nat.le_of_ble_eq_true rfl, Nat.le_of_ble_eq_true rfl⟩ ⟨rfl, rfl⟩ ?_
  refine a_if_eq 46 B dX7_perhaps_12 (by decide) (fun c12 => ?_) (fun c12 => ?_)
  · have c12 := bI_eq0.mp c12
    exact a_vret B hr hlk dX7_perhaps_46 (rPR_l (by unfold perS; rw [c12]; rfl) hA hI rfl)
  have c12 := bI_ne0.mp c12
  refine a_aload_n B dX7_perhaps_15 rfl ?_
  refine a_callV0v B rfl cf_X7_next lk_X7_251 in_X7_next se_X7_next (wl_rc (p0 := 0) (by decide) rfl rfl rfl) (m_adv M hT q d e hA (isWq_4 c12)) dX7_perhaps_16 (Nat.le_of_ble_eq_true rfl) ⟨Nat.le_of_ble_eq_true rfl, Nat.le_of_ble_eq_true rfl⟩ ⟨rfl, rfl⟩ ?_
  rw [← hq1]
  refine a_aload_n B dX7_perhaps_19 rfl ?_
  refine a_iload B dX7_perhaps_20 rfl ?_
  refine a_callS1r B rfl cf_X7_mostOf lk_X7_126 st_X7_mostOf (m_mostOf _ _) dX7_perhaps_22 (Nat.le_of_ble_eq_true rfl) ⟨Nat.le_of_ble_eq_true rfl, Nat.le_of_ble_eq_true rfl⟩ ⟨rfl, rfl⟩ ?_
  rw [hmo]
  rcases hn : rnumS (gM M) (tokE (gM M) e) (nI m) with _ | x
  · refine a_callV1r B rfl cf_X7_numberHere lk_X7_254 in_X7_numberHere se_X7_numberHere (wl_rc (p0 := 0) (by decide) rfl rfl rfl) (m_numN M hT q1 d _ hA1 m hm hn) dX7_perhaps_25 (Nat.le_of_ble_eq_true rfl) ⟨Nat.le_of_ble_eq_true rfl, Nat.le_of_ble_eq_true rfl⟩ ⟨rfl, rfl⟩ ?_
    refine p_istore5 B dX7_perhaps_28 (by decide) (k := ?_)
    refine a_aload_n B dX7_perhaps_30 rfl ?_
    refine a_getI B fl_X7_227 (by decide) rfl rfl dX7_perhaps_31 ?_
    rw [PMR_10, pk_us]
    refine a_if_ge 46 B dX7_perhaps_34 (by decide) (fun c34 => ?_) (fun c34 => ?_)
    · exact a_vret B hr hlk dX7_perhaps_46 (rPR_r hT (by unfold perS; rw [if_pos c12, hmi, hn]) hA1 rfl)
    exact absurd (Int32.not_le.mp c34) (by rw [hA1.q4]; exact nI_pos (by have := (tokR_le hT hA1.1).1; have := hT.1; omega))
  · obtain ⟨q2, hq2⟩ : ∃ q2, q2 = nxD (gM M) q1 (tokE (gM M) (tokE (gM M) e)) := ⟨_, rfl⟩
    have hA2 : AtR M q2 (tokE (gM M) (tokE (gM M) e)) := by rw [hq2]; exact atR_nx hA1 (tokR_le hT (hA1).1).2
    refine a_callV1r B rfl cf_X7_numberHere lk_X7_254 in_X7_numberHere se_X7_numberHere (wl_rc (p0 := 0) (by decide) rfl rfl rfl) (m_numY M hT q1 d _ hA1 m hm x hn) dX7_perhaps_25 (Nat.le_of_ble_eq_true rfl) ⟨Nat.le_of_ble_eq_true rfl, Nat.le_of_ble_eq_true rfl⟩ ⟨rfl, rfl⟩ ?_
    rw [← hq2]
    refine p_istore5 B dX7_perhaps_28 (by decide) (k := ?_)
    refine a_aload_n B dX7_perhaps_30 rfl ?_
    refine a_getI B fl_X7_227 (by decide) rfl rfl dX7_perhaps_31 ?_
    rw [PMR_10, hA2.q7]
    refine a_if_ge 46 B dX7_perhaps_34 (by decide) (fun c34 => ?_) (fun c34 => ?_)
    · exact absurd c34 (by decide)
    refine a_aload_n B dX7_perhaps_37 rfl ?_
    refine a_iload_n B dX7_perhaps_38 rfl ?_
    refine a_iload B dX7_perhaps_39 rfl ?_
    refine a_iload B dX7_perhaps_41 rfl ?_
    refine a_callV3v B rfl cf_X7_sets lk_X7_79 in_X7_sets se_X7_sets (wl_rc (p0 := 0) (by decide) rfl rfl rfl) (m_sets p wn (12 + 8 * wn + p) hp hwn rfl _ _) dX7_perhaps_43 (Nat.le_of_ble_eq_true rfl) ⟨Nat.le_of_ble_eq_true rfl, Nat.le_of_ble_eq_true rfl⟩ ⟨rfl, rfl⟩ ?_
    rw [PMR_0, PMR_s0, hpf]
    exact a_vret B hr hlk dX7_perhaps_46 (rPR_l (by unfold perS; rw [if_pos c12, hmi, hn]) hA2 (per_inv (m := m) hI hp hw2 (rnum_nn hm hn)) rfl)
end R25
