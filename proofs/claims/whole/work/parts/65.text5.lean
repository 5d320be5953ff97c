section R26

theorem gM_end {M : Mem} (hT : tpOk M) : EndG (gM M) := fun k hk => (g_f hT k).1.mpr (by have := hT.1; omega)
theorem kin_wq {g : Nat → Int32} {e k : Nat} (h : kinS g e = some k) : k < 7 ∧ isWq g e (kw k) = true := by
  refine ⟨fst_lt _ _ h, ?_⟩
  unfold kinS at h
  have key : ∀ n, fstN (fun k => isWq g e (kw k)) n = some k → isWq g e (kw k) = true := by
    intro n
    induction n with
    | zero => intro q; cases q
    | succ n ih =>
      intro q
      rw [fstN] at q
      split at q
      · next q2 => injection q with q; subst q; exact ih q2
      · split at q
        · next q2 => injection q with q; subst q; exact q2
        · cases q
  exact key _ h
theorem wL_inj : ∀ i, i < 13 → ∀ j, j < 13 → wLs i = wLs j → i = j := by decide +kernel
theorem isWq_inj {g : Nat → Int32} {e i j : Nat} (hi : i < 13) (hj : j < 13) (h1 : isWq g e i = true) (h2 : isWq g e j = true) : i = j := by
  have ht := isWq_t h1
  have key : ∀ k, k < 13 → isWq g e k = true → tokL g e = wLs k := by
    intro k hk h
    unfold isWq at h
    rw [Bool.and_assoc, ← tok_wb hk ht, decide_eq_true ht, Bool.true_and] at h
    rw [wL_n k hk]
    exact of_decide_eq_true h
  exact wL_inj i hi j hj ((key i hi h1).symm.trans (key j hj h2))
theorem ite_kin {g : Nat → Int32} {e k : Nat} {d : Dm} (h : kinS g e = some k) : iteS g e d = priS g e d := by
  obtain ⟨h1, h2⟩ := kin_wq h
  have hk : 3 ≤ kw k ∧ kw k < 13 := by
    have : ∀ k, k < 7 → 3 ≤ kw k ∧ kw k < 13 := by decide
    exact this k h1
  have no : ∀ i, i < 3 → ¬ isWq g e i = true := fun i hi q => by
    have := isWq_inj (by omega) hk.2 q h2
    omega
  unfold iteS
  rw [if_neg (no 0 (by decide)), if_neg (no 1 (by decide)), if_neg (no 2 (by decide))]
theorem sl_pos : ∀ i, i < 13 → 1 ≤ slN i := by decide
theorem wq_ge {g : Nat → Int32} {e i : Nat} (hg : EndG g) (he : e ≤ 120) (hi : i < 13) (h : isWq g e i = true) : e + 1 ≤ tokE g e := by
  have h1 := sl_pos i hi
  have h2 := tok_le hg he
  unfold isWq at h
  simp only [Bool.and_eq_true, decide_eq_true_eq] at h
  omega
theorem num_ge {g : Nat → Int32} {e : Nat} (hg : EndG g) (he : e ≤ 120) : e ≤ tokE g e ∧ tokE g e ≤ 120 := by
  have h2 := tok_le hg he
  omega
theorem per_ge {g : Nat → Int32} {e i p : Nat} {d : Dm} {what : Int32} {y : Nat × Dm} (hg : EndG g) (he : e ≤ 120) (h : perS g e d i p what = .inl y) : e ≤ y.1 ∧ y.1 ≤ 120 := by
  have h1 := num_ge hg he
  have h2 := num_ge hg h1.2
  unfold perS at h
  split at h
  · split at h
    · cases h
    · injection h with h; subst h; exact ⟨by omega, by omega⟩
  · injection h with h; subst h; exact ⟨Nat.le_refl _, he⟩
theorem ite_ge {g : Nat → Int32} {e : Nat} {d : Dm} {y : Nat × Dm} (hg : EndG g) (he : e ≤ 120) (h : iteS g e d = .inl y) : e + 1 ≤ y.1 := by
  have h1 := num_ge hg he
  have h2 := num_ge hg h1.2
  have h3 := num_ge hg h2.2
  have h4 := num_ge hg h3.2
  unfold iteS at h
  split at h
  · next q =>
    have := wq_ge hg he (by decide) q
    unfold tolS at h
    split at h
    · cases h
    · split at h
      · cases h
      · split at h
        · cases h
        · injection h with h; subst h; show e + 1 ≤ tokE _ _; omega
  · split at h
    · next q =>
      have := wq_ge hg he (by decide) q
      unfold watS at h
      split at h
      · cases h
      · injection h with h; subst h; show e + 1 ≤ tokE _ _; omega
    · split at h
      · next q =>
        have := wq_ge hg he (by decide) q
        unfold outS at h
        split at h
        · cases h
        · injection h with h; subst h; show e + 1 ≤ tokE _ _; omega
      · unfold priS at h
        split at h
        · cases h
        · next k hk =>
          have := wq_ge hg he (kw_lt k (kin_wq hk).1) (kin_wq hk).2
          split at h
          · cases ha : perS g (tokE g e) (welF d (nI k) 255) 10 (nOf d) 2 with
            | inr s => rw [ha] at h; cases h
            | inl y2 =>
              have g2 := per_ge hg h1.2 ha
              rw [ha] at h
              cases hb : perS g y2.1 y2.2 11 (nOf d) 3 with
              | inr s => simp only [pr2, hb] at h; cases h
              | inl y3 =>
                have g3 := per_ge hg g2.2 hb
                simp only [pr2, hb] at h
                have g4 := per_ge hg g3.2 h
                omega
          · cases h
theorem end_t {g : Nat → Int32} {e : Nat} (hg : EndG g) (he : e = 120) : tokT g e = 0 := by
  subst he
  unfold tokT lxT
  rw [if_pos (hg _ (by unfold lxS; rw [show 120 - 120 = 0 from rfl]; exact Nat.le_refl _))]

variable {l : Launch} {sk : (Nat → Nat) × (Nat → Nat)} {D : va_G} {cy : Nat → ClassId} {A : Nat → Nat} {X : va_W}
set_option maxRecDepth 20000 in
theorem m_priestHere (M : Mem) (hT : tpOk M) (q d : Dm) (e : Nat) (hA : AtR M q e) (hI : Inv d) (k : Nat) (hk : kinS (gM M) e = some k) : CR l sk D cy A X mX7_priestHere 4 [.ref (A 0), .int (nI k)] (PMR M q d) (rPR M (priS (gM M) e d)) := by
  refine Con.of (lo := [some (.ref (A 0)), some (.int (nI k)), none]) cf_X7_priestHere (fun _ _ => wl_fst) 1 rfl (Nat.le_of_ble_eq_true rfl) (fun Pp Ee Ss Mm Aa Bb Me Cc A0 B hr hlk => ?_)
  have B : BS sk D cy (wl A cy 11 TM X) A0 Pp Ss Mm Aa Cc RX7 cX7_priestHere 3 := B
  obtain ⟨hk7, hkw⟩ := kin_wq hk
  obtain ⟨q1, hq1⟩ : ∃ q1, q1 = nxD (gM M) q (tokE (gM M) e) := ⟨_, rfl⟩
  have hA1 : AtR M q1 (tokE (gM M) e) := by rw [hq1]; exact atR_nx hA (tokR_le hT (hA).1).2
  refine a_aload_n B dX7_priestHere_0 rfl ?_
  refine a_getR B fl_X7_7 (by decide) rfl rfl dX7_priestHere_1 ?_
  refine a_iconst (v := 0) B dX7_priestHere_4 (by decide) ?_
  refine a_iald 0 B (by decide) rfl rfl (by omega) (by decide) dX7_priestHere_5 ?_
  refine a_bipush (v := 8) B dX7_priestHere_6 (by decide) ?_
  rw [Nat.zero_add 0, PMR_0]
  refine a_icmp_ne 16 B dX7_priestHere_8 (by decide) (fun c8 => ?_) (fun c8 => ?_)
  · have h8 : d 0 < 8 := by
      obtain ⟨N, hN, eN, eNo⟩ := hI.n
      rw [eN] at c8 ⊢
      exact nI_lt (b := 8) (Nat.lt_of_le_of_ne hN (fun q9 => c8 (by rw [q9]; rfl))) (by omega)
    obtain ⟨hp, hd0, hIw, hw0⟩ := wel_inv (kind := nI k) (sins := 255) hI h8 ⟨k, by omega, rfl⟩ ⟨255, by omega, rfl⟩
    have hX : priS (gM M) e d = pr2 (perS (gM M) (tokE (gM M) e) (welF d (nI k) 255) 10 (nOf d) 2) (fun e2 d2 => pr2 (perS (gM M) e2 d2 11 (nOf d) 3) (fun e3 d3 => perS (gM M) e3 d3 12 (nOf d) 1)) := by unfold priS; rw [hk]; simp only [if_pos h8]
    refine a_aload_n B dX7_priestHere_16 rfl ?_
    refine a_callV0v B rfl cf_X7_next lk_X7_251 in_X7_next se_X7_next (wl_rc (p0 := 0) (by decide) rfl rfl rfl) (m_adv M hT q d e hA (isWq_4 hkw)) dX7_priestHere_17 (Nat.le_of_ble_eq_true rfl) ⟨Nat.le_of_ble_eq_true rfl, Nat.le_of_ble_eq_true rfl⟩ ⟨rfl, rfl⟩ ?_
    rw [← hq1]
    refine a_aload_n B dX7_priestHere_20 rfl ?_
    refine a_iload_n B dX7_priestHere_21 rfl ?_
    refine a_sipush (v := 255) B dX7_priestHere_22 (by decide) ?_
    refine a_callV2r B rfl cf_X7_comes lk_X7_120 in_X7_comes se_X7_comes (wl_rc (p0 := 0) (by decide) rfl rfl rfl) (m_comes _ _ (nOf d) _ (by rw [PMR_0]; exact hI) (by rw [PMR_0]; exact hd0) (by rw [PMR_0]; exact h8) hp (by rw [PMR_0])) dX7_priestHere_25 (Nat.le_of_ble_eq_true rfl) ⟨Nat.le_of_ble_eq_true rfl, Nat.le_of_ble_eq_true rfl⟩ ⟨rfl, rfl⟩ ?_
    rw [PMR_0, PMR_s0]
    refine p_istore2 B dX7_priestHere_28 (by decide) (k := ?_)
    refine a_aload_n B dX7_priestHere_29 rfl ?_
    refine a_ldc2 B dX7_priestHere_30 kl_X7_257 ?_
    refine a_iload_n B dX7_priestHere_33 rfl ?_
    refine a_iconst (v := 2) B dX7_priestHere_34 (by decide) ?_
    refine a_callV3p B rfl cf_X7_perhaps lk_X7_259 in_X7_perhaps se_X7_perhaps (wl_rc (p0 := 0) (by decide) rfl rfl rfl) (m_per M hT q1 (welF d (nI k) 255) (tokE (gM M) e) hA1 hIw 10 (by decide) (nOf d) hp 2 255 (Or.inr ⟨Or.inl rfl, rfl⟩) _ (wL_n 10 (by decide))) dX7_priestHere_35 (Nat.le_of_ble_eq_true rfl) ⟨Nat.le_of_ble_eq_true rfl, Nat.le_of_ble_eq_true rfl⟩ ⟨rfl, rfl⟩ ?_
    rintro v9 M9 hp9
    rcases hx2 : perS (gM M) (tokE (gM M) e) (welF d (nI k) 255) 10 (nOf d) 2 with ⟨e2, d2⟩ | s2
    · rw [show perS (gM M) (tokE (gM M) e) (welF d (nI k) 255) 10 (nOf d) (nI 2) = perS (gM M) (tokE (gM M) e) (welF d (nI k) 255) 10 (nOf d) 2 from rfl, hx2] at hp9
      obtain ⟨rfl, q2, hA2, hI2, rfl⟩ := hp9
      show AW Pp l Ee _ Ss Mm Aa Bb Me Cc D _ A0 _ 0 0 _ _ _ _ _
      refine a_aload_n B dX7_priestHere_38 rfl ?_
      refine a_ldc2 B dX7_priestHere_39 kl_X7_263 ?_
      refine a_iload_n B dX7_priestHere_42 rfl ?_
      refine a_iconst (v := 3) B dX7_priestHere_43 (by decide) ?_
      refine a_callV3p B rfl cf_X7_perhaps lk_X7_259 in_X7_perhaps se_X7_perhaps (wl_rc (p0 := 0) (by decide) rfl rfl rfl) (m_per M hT q2 d2 e2 hA2 hI2 11 (by decide) (nOf d) hp 3 255 (Or.inr ⟨Or.inr rfl, rfl⟩) _ (wL_n 11 (by decide))) dX7_priestHere_44 (Nat.le_of_ble_eq_true rfl) ⟨Nat.le_of_ble_eq_true rfl, Nat.le_of_ble_eq_true rfl⟩ ⟨rfl, rfl⟩ ?_
      rintro v9 M9 hp9
      rcases hx3 : perS (gM M) e2 d2 11 (nOf d) 3 with ⟨e3, d3⟩ | s3
      · rw [show perS (gM M) e2 d2 11 (nOf d) (nI 3) = perS (gM M) e2 d2 11 (nOf d) 3 from rfl, hx3] at hp9
        obtain ⟨rfl, q3, hA3, hI3, rfl⟩ := hp9
        show AW Pp l Ee _ Ss Mm Aa Bb Me Cc D _ A0 _ 0 0 _ _ _ _ _
        refine a_aload_n B dX7_priestHere_47 rfl ?_
        refine a_ldc2 B dX7_priestHere_48 kl_X7_265 ?_
        refine a_iload_n B dX7_priestHere_51 rfl ?_
        refine a_iconst (v := 1) B dX7_priestHere_52 (by decide) ?_
        refine a_callV3p B rfl cf_X7_perhaps lk_X7_259 in_X7_perhaps se_X7_perhaps (wl_rc (p0 := 0) (by decide) rfl rfl rfl) (m_per M hT q3 d3 e3 hA3 hI3 12 (by decide) (nOf d) hp 1 999 (Or.inl ⟨rfl, rfl⟩) _ (wL_n 12 (by decide))) dX7_priestHere_53 (Nat.le_of_ble_eq_true rfl) ⟨Nat.le_of_ble_eq_true rfl, Nat.le_of_ble_eq_true rfl⟩ ⟨rfl, rfl⟩ ?_
        rintro v9 M9 hp9
        rcases hx4 : perS (gM M) e3 d3 12 (nOf d) 1 with ⟨e4, d4⟩ | s4
        · rw [show perS (gM M) e3 d3 12 (nOf d) (nI 1) = perS (gM M) e3 d3 12 (nOf d) 1 from rfl, hx4] at hp9
          obtain ⟨rfl, q4, hA4, hI4, rfl⟩ := hp9
          show AW Pp l Ee _ Ss Mm Aa Bb Me Cc D _ A0 _ 0 0 _ _ _ _ _
          exact a_vret B hr hlk dX7_priestHere_56 (rPR_l (by rw [hX]; simp only [pr2, hx2, hx3, hx4]) hA4 hI4 rfl)
        · rw [show perS (gM M) e3 d3 12 (nOf d) (nI 1) = perS (gM M) e3 d3 12 (nOf d) 1 from rfl, hx4] at hp9
          obtain ⟨rfl, hs9, q4, d4, h09, h19, h79, rfl⟩ := hp9
          show AW Pp l Ee _ Ss Mm Aa Bb Me Cc D _ A0 _ 0 0 _ _ _ _ _
          exact a_vret B hr hlk dX7_priestHere_56 (rPR_f (s := s4) (by rw [hX]; simp only [pr2, hx2, hx3, hx4]) hs9 h09 h19 h79 rfl)
      · rw [show perS (gM M) e2 d2 11 (nOf d) (nI 3) = perS (gM M) e2 d2 11 (nOf d) 3 from rfl, hx3] at hp9
        obtain ⟨rfl, hs9, q3, d3, h09, h19, h79, rfl⟩ := hp9
        show AW Pp l Ee _ Ss Mm Aa Bb Me Cc D _ A0 _ 0 0 _ _ _ _ _
        refine a_aload_n B dX7_priestHere_47 rfl ?_
        refine a_ldc2 B dX7_priestHere_48 kl_X7_265 ?_
        refine a_iload_n B dX7_priestHere_51 rfl ?_
        refine a_iconst (v := 1) B dX7_priestHere_52 (by decide) ?_
        refine a_callV3v B rfl cf_X7_perhaps lk_X7_259 in_X7_perhaps se_X7_perhaps (wl_rc (p0 := 0) (by decide) rfl rfl rfl) (m_perF _ _ _ _ (by rw [PMR_10, h79]; exact nI_pos (by omega))) dX7_priestHere_53 (Nat.le_of_ble_eq_true rfl) ⟨Nat.le_of_ble_eq_true rfl, Nat.le_of_ble_eq_true rfl⟩ ⟨rfl, rfl⟩ ?_
        exact a_vret B hr hlk dX7_priestHere_56 (rPR_f (s := s3) (by rw [hX]; simp only [pr2, hx2, hx3]) hs9 h09 h19 h79 rfl)
    · rw [show perS (gM M) (tokE (gM M) e) (welF d (nI k) 255) 10 (nOf d) (nI 2) = perS (gM M) (tokE (gM M) e) (welF d (nI k) 255) 10 (nOf d) 2 from rfl, hx2] at hp9
      obtain ⟨rfl, hs9, q2, d2, h09, h19, h79, rfl⟩ := hp9
      show AW Pp l Ee _ Ss Mm Aa Bb Me Cc D _ A0 _ 0 0 _ _ _ _ _
      refine a_aload_n B dX7_priestHere_38 rfl ?_
      refine a_ldc2 B dX7_priestHere_39 kl_X7_263 ?_
      refine a_iload_n B dX7_priestHere_42 rfl ?_
      refine a_iconst (v := 3) B dX7_priestHere_43 (by decide) ?_
      refine a_callV3v B rfl cf_X7_perhaps lk_X7_259 in_X7_perhaps se_X7_perhaps (wl_rc (p0 := 0) (by decide) rfl rfl rfl) (m_perF _ _ _ _ (by rw [PMR_10, h79]; exact nI_pos (by omega))) dX7_priestHere_44 (Nat.le_of_ble_eq_true rfl) ⟨Nat.le_of_ble_eq_true rfl, Nat.le_of_ble_eq_true rfl⟩ ⟨rfl, rfl⟩ ?_
      refine a_aload_n B dX7_priestHere_47 rfl ?_
      refine a_ldc2 B dX7_priestHere_48 kl_X7_265 ?_
      refine a_iload_n B dX7_priestHere_51 rfl ?_
      refine a_iconst (v := 1) B dX7_priestHere_52 (by decide) ?_
      refine a_callV3v B rfl cf_X7_perhaps lk_X7_259 in_X7_perhaps se_X7_perhaps (wl_rc (p0 := 0) (by decide) rfl rfl rfl) (m_perF _ _ _ _ (by rw [PMR_10, h79]; exact nI_pos (by omega))) dX7_priestHere_53 (Nat.le_of_ble_eq_true rfl) ⟨Nat.le_of_ble_eq_true rfl, Nat.le_of_ble_eq_true rfl⟩ ⟨rfl, rfl⟩ ?_
      exact a_vret B hr hlk dX7_priestHere_56 (rPR_f (s := s2) (by rw [hX]; simp only [pr2, hx2]) hs9 h09 h19 h79 rfl)
  refine a_aload_n B dX7_priestHere_11 rfl ?_
  refine a_callV0v B rfl cf_X7_wrongHere lk_X7_248 in_X7_wrongHere se_X7_wrongHere (wl_rc (p0 := 0) (by decide) rfl rfl rfl) (m_wroH M hT q d e hA) dX7_priestHere_12 (Nat.le_of_ble_eq_true rfl) ⟨Nat.le_of_ble_eq_true rfl, Nat.le_of_ble_eq_true rfl⟩ ⟨rfl, rfl⟩ ?_
  exact a_vret B hr hlk dX7_priestHere_15 (rPR_r hT (by unfold priS; rw [hk]; simp only [if_neg (show ¬ d 0 < 8 by rw [c8]; decide)]) hA rfl)
set_option maxRecDepth 20000 in
theorem m_toldHere (M : Mem) (hT : tpOk M) (q d : Dm) (e : Nat) (hA : AtR M q e) (hI : Inv d) (hw : isWq (gM M) e 0 = true) : CR l sk D cy A X mX7_toldHere 3 [.ref (A 0)] (PMR M q d) (rPR M (tolS (gM M) e d)) := by
  refine Con.of (lo := [some (.ref (A 0)), none, none, none]) cf_X7_toldHere (fun _ _ => wl_fst) 3 rfl (Nat.le_of_ble_eq_true rfl) (fun Pp Ee Ss Mm Aa Bb Me Cc A0 B hr hlk => ?_)
  have B : BS sk D cy (wl A cy 11 TM X) A0 Pp Ss Mm Aa Cc RX7 cX7_toldHere 4 := B
  obtain ⟨q1, hq1⟩ : ∃ q1, q1 = nxD (gM M) q (tokE (gM M) e) := ⟨_, rfl⟩
  have hA1 : AtR M q1 (tokE (gM M) e) := by rw [hq1]; exact atR_nx hA (tokR_le hT (hA).1).2
  refine a_aload_n B dX7_toldHere_0 rfl ?_
  refine a_callV0v B rfl cf_X7_next lk_X7_251 in_X7_next se_X7_next (wl_rc (p0 := 0) (by decide) rfl rfl rfl) (m_adv M hT q d e hA (isWq_4 hw)) dX7_toldHere_1 (Nat.le_of_ble_eq_true rfl) ⟨Nat.le_of_ble_eq_true rfl, Nat.le_of_ble_eq_true rfl⟩ ⟨rfl, rfl⟩ ?_
  rw [← hq1]
  refine a_aload_n B dX7_toldHere_4 rfl ?_
  rcases hn1 : rnumS (gM M) (tokE (gM M) e) 5 with _ | x1
  · refine a_iconst (v := 5) B dX7_toldHere_5 (by decide) ?_
    refine a_callV1r B rfl cf_X7_numberHere lk_X7_254 in_X7_numberHere se_X7_numberHere (wl_rc (p0 := 0) (by decide) rfl rfl rfl) (m_numN M hT q1 d _ hA1 5 (by omega) hn1) dX7_toldHere_6 (Nat.le_of_ble_eq_true rfl) ⟨Nat.le_of_ble_eq_true rfl, Nat.le_of_ble_eq_true rfl⟩ ⟨rfl, rfl⟩ ?_
    refine p_istore1 B dX7_toldHere_9 (by decide) (k := ?_)
    refine a_aload_n B dX7_toldHere_10 rfl ?_
    refine a_getI B fl_X7_227 (by decide) rfl rfl dX7_toldHere_11 ?_
    rw [PMR_10, pk_us]
    refine a_if_ge 26 B dX7_toldHere_14 (by decide) (fun c14 => ?_) (fun c14 => ?_)
    · refine a_iconst (v := 0) B dX7_toldHere_26 (by decide) ?_
      refine p_istore2 B dX7_toldHere_27 (by decide) (k := ?_)
      refine a_aload_n B dX7_toldHere_28 rfl ?_
      refine a_getI B fl_X7_227 (by decide) rfl rfl dX7_toldHere_29 ?_
      rw [PMR_10, pk_us]
      refine a_if_ge 44 B dX7_toldHere_32 (by decide) (fun c32 => ?_) (fun c32 => ?_)
      · refine a_iconst (v := 0) B dX7_toldHere_44 (by decide) ?_
        refine p_istore3 B dX7_toldHere_45 (by decide) (k := ?_)
        refine a_aload_n B dX7_toldHere_46 rfl ?_
        refine a_getI B fl_X7_227 (by decide) rfl rfl dX7_toldHere_47 ?_
        rw [PMR_10, pk_us]
        refine a_if_ge 68 B dX7_toldHere_50 (by decide) (fun c50 => ?_) (fun c50 => ?_)
        · exact a_vret B hr hlk dX7_toldHere_68 (rPR_r hT (by unfold tolS; simp only [hn1]) hA1 rfl)
        exact absurd (Int32.not_le.mp c50) (by rw [hA1.q4]; exact nI_pos (by have := (tokR_le hT hA1.1).1; have := hT.1; omega))
      exact absurd (Int32.not_le.mp c32) (by rw [hA1.q4]; exact nI_pos (by have := (tokR_le hT hA1.1).1; have := hT.1; omega))
    exact absurd (Int32.not_le.mp c14) (by rw [hA1.q4]; exact nI_pos (by have := (tokR_le hT hA1.1).1; have := hT.1; omega))
  · obtain ⟨q2, hq2⟩ : ∃ q2, q2 = nxD (gM M) q1 (tokE (gM M) (tokE (gM M) e)) := ⟨_, rfl⟩
    have hA2 : AtR M q2 (tokE (gM M) (tokE (gM M) e)) := by rw [hq2]; exact atR_nx hA1 (tokR_le hT (hA1).1).2
    obtain ⟨a, ha, ea⟩ := rnum_nn (m := 5) (by omega) hn1
    subst ea
    refine a_iconst (v := 5) B dX7_toldHere_5 (by decide) ?_
    refine a_callV1r B rfl cf_X7_numberHere lk_X7_254 in_X7_numberHere se_X7_numberHere (wl_rc (p0 := 0) (by decide) rfl rfl rfl) (m_numY M hT q1 d _ hA1 5 (by omega) _ hn1) dX7_toldHere_6 (Nat.le_of_ble_eq_true rfl) ⟨Nat.le_of_ble_eq_true rfl, Nat.le_of_ble_eq_true rfl⟩ ⟨rfl, rfl⟩ ?_
    rw [← hq2]
    refine p_istore1 B dX7_toldHere_9 (by decide) (k := ?_)
    refine a_aload_n B dX7_toldHere_10 rfl ?_
    refine a_getI B fl_X7_227 (by decide) rfl rfl dX7_toldHere_11 ?_
    rw [PMR_10, hA2.q7]
    refine a_if_ge 26 B dX7_toldHere_14 (by decide) (fun c14 => ?_) (fun c14 => ?_)
    · exact absurd c14 (by decide)
    refine a_aload_n B dX7_toldHere_17 rfl ?_
    rcases hn2 : rnumS (gM M) (tokE (gM M) (tokE (gM M) e)) 7 with _ | x2
    · refine a_bipush (v := 7) B dX7_toldHere_18 (by decide) ?_
      refine a_callV1r B rfl cf_X7_numberHere lk_X7_254 in_X7_numberHere se_X7_numberHere (wl_rc (p0 := 0) (by decide) rfl rfl rfl) (m_numN M hT q2 d _ hA2 7 (by omega) hn2) dX7_toldHere_20 (Nat.le_of_ble_eq_true rfl) ⟨Nat.le_of_ble_eq_true rfl, Nat.le_of_ble_eq_true rfl⟩ ⟨rfl, rfl⟩ ?_
      refine a_goto 27 B dX7_toldHere_23 (by decide) ?_
      refine p_istore2 B dX7_toldHere_27 (by decide) (k := ?_)
      refine a_aload_n B dX7_toldHere_28 rfl ?_
      refine a_getI B fl_X7_227 (by decide) rfl rfl dX7_toldHere_29 ?_
      rw [PMR_10, pk_us]
      refine a_if_ge 44 B dX7_toldHere_32 (by decide) (fun c32 => ?_) (fun c32 => ?_)
      · refine a_iconst (v := 0) B dX7_toldHere_44 (by decide) ?_
        refine p_istore3 B dX7_toldHere_45 (by decide) (k := ?_)
        refine a_aload_n B dX7_toldHere_46 rfl ?_
        refine a_getI B fl_X7_227 (by decide) rfl rfl dX7_toldHere_47 ?_
        rw [PMR_10, pk_us]
        refine a_if_ge 68 B dX7_toldHere_50 (by decide) (fun c50 => ?_) (fun c50 => ?_)
        · exact a_vret B hr hlk dX7_toldHere_68 (rPR_r hT (by unfold tolS; simp only [hn1, hn2]) hA2 rfl)
        exact absurd (Int32.not_le.mp c50) (by rw [hA2.q4]; exact nI_pos (by have := (tokR_le hT hA2.1).1; have := hT.1; omega))
      exact absurd (Int32.not_le.mp c32) (by rw [hA2.q4]; exact nI_pos (by have := (tokR_le hT hA2.1).1; have := hT.1; omega))
    · obtain ⟨q3, hq3⟩ : ∃ q3, q3 = nxD (gM M) q2 (tokE (gM M) (tokE (gM M) (tokE (gM M) e))) := ⟨_, rfl⟩
      have hA3 : AtR M q3 (tokE (gM M) (tokE (gM M) (tokE (gM M) e))) := by rw [hq3]; exact atR_nx hA2 (tokR_le hT (hA2).1).2
      obtain ⟨b, hb, eb⟩ := rnum_nn (m := 7) (by omega) hn2
      subst eb
      refine a_bipush (v := 7) B dX7_toldHere_18 (by decide) ?_
      refine a_callV1r B rfl cf_X7_numberHere lk_X7_254 in_X7_numberHere se_X7_numberHere (wl_rc (p0 := 0) (by decide) rfl rfl rfl) (m_numY M hT q2 d _ hA2 7 (by omega) _ hn2) dX7_toldHere_20 (Nat.le_of_ble_eq_true rfl) ⟨Nat.le_of_ble_eq_true rfl, Nat.le_of_ble_eq_true rfl⟩ ⟨rfl, rfl⟩ ?_
      rw [← hq3]
      refine a_goto 27 B dX7_toldHere_23 (by decide) ?_
      refine p_istore2 B dX7_toldHere_27 (by decide) (k := ?_)
      refine a_aload_n B dX7_toldHere_28 rfl ?_
      refine a_getI B fl_X7_227 (by decide) rfl rfl dX7_toldHere_29 ?_
      rw [PMR_10, hA3.q7]
      refine a_if_ge 44 B dX7_toldHere_32 (by decide) (fun c32 => ?_) (fun c32 => ?_)
      · exact absurd c32 (by decide)
      refine a_aload_n B dX7_toldHere_35 rfl ?_
      rcases hn3 : rnumS (gM M) (tokE (gM M) (tokE (gM M) (tokE (gM M) e))) 40 with _ | x3
      · refine a_bipush (v := 40) B dX7_toldHere_36 (by decide) ?_
        refine a_callV1r B rfl cf_X7_numberHere lk_X7_254 in_X7_numberHere se_X7_numberHere (wl_rc (p0 := 0) (by decide) rfl rfl rfl) (m_numN M hT q3 d _ hA3 40 (by omega) hn3) dX7_toldHere_38 (Nat.le_of_ble_eq_true rfl) ⟨Nat.le_of_ble_eq_true rfl, Nat.le_of_ble_eq_true rfl⟩ ⟨rfl, rfl⟩ ?_
        refine a_goto 45 B dX7_toldHere_41 (by decide) ?_
        refine p_istore3 B dX7_toldHere_45 (by decide) (k := ?_)
        refine a_aload_n B dX7_toldHere_46 rfl ?_
        refine a_getI B fl_X7_227 (by decide) rfl rfl dX7_toldHere_47 ?_
        rw [PMR_10, pk_us]
        refine a_if_ge 68 B dX7_toldHere_50 (by decide) (fun c50 => ?_) (fun c50 => ?_)
        · exact a_vret B hr hlk dX7_toldHere_68 (rPR_r hT (by unfold tolS; simp only [hn1, hn2, hn3]) hA3 rfl)
        exact absurd (Int32.not_le.mp c50) (by rw [hA3.q4]; exact nI_pos (by have := (tokR_le hT hA3.1).1; have := hT.1; omega))
      · obtain ⟨q4, hq4⟩ : ∃ q4, q4 = nxD (gM M) q3 (tokE (gM M) (tokE (gM M) (tokE (gM M) (tokE (gM M) e)))) := ⟨_, rfl⟩
        have hA4 : AtR M q4 (tokE (gM M) (tokE (gM M) (tokE (gM M) (tokE (gM M) e)))) := by rw [hq4]; exact atR_nx hA3 (tokR_le hT (hA3).1).2
        obtain ⟨c, hc, ec⟩ := rnum_nn (m := 40) (by omega) hn3
        subst ec
        refine a_bipush (v := 40) B dX7_toldHere_36 (by decide) ?_
        refine a_callV1r B rfl cf_X7_numberHere lk_X7_254 in_X7_numberHere se_X7_numberHere (wl_rc (p0 := 0) (by decide) rfl rfl rfl) (m_numY M hT q3 d _ hA3 40 (by omega) _ hn3) dX7_toldHere_38 (Nat.le_of_ble_eq_true rfl) ⟨Nat.le_of_ble_eq_true rfl, Nat.le_of_ble_eq_true rfl⟩ ⟨rfl, rfl⟩ ?_
        rw [← hq4]
        refine a_goto 45 B dX7_toldHere_41 (by decide) ?_
        refine p_istore3 B dX7_toldHere_45 (by decide) (k := ?_)
        refine a_aload_n B dX7_toldHere_46 rfl ?_
        refine a_getI B fl_X7_227 (by decide) rfl rfl dX7_toldHere_47 ?_
        rw [PMR_10, hA4.q7]
        refine a_if_ge 68 B dX7_toldHere_50 (by decide) (fun c50 => ?_) (fun c50 => ?_)
        · exact absurd c50 (by decide)
        refine a_aload_n B dX7_toldHere_53 rfl ?_
        refine a_getR B fl_X7_7 (by decide) rfl rfl dX7_toldHere_54 ?_
        refine a_bipush (v := 6) B dX7_toldHere_57 (by decide) ?_
        refine a_iload_n B dX7_toldHere_59 rfl ?_
        refine a_iadd B dX7_toldHere_60 ?_
        refine a_bipush (v := 100) B dX7_toldHere_61 (by decide) ?_
        refine a_iload_n B dX7_toldHere_63 rfl ?_
        refine a_imul B dX7_toldHere_64 ?_
        refine a_iload_n B dX7_toldHere_65 rfl ?_
        refine a_iadd B dX7_toldHere_66 ?_
        refine a_iast (6 + a) B twM (by decide) rfl (show (6 : Int32) + nI a = nI (6 + a) from nI_add 6 a) (by omega) (by decide) dX7_toldHere_67 ?_
        rw [Nat.zero_add (6 + a), PMR_u0]
        exact a_vret B hr hlk dX7_toldHere_68 (rPR_l (by unfold tolS; simp only [hn1, hn2, hn3]; rw [nn_nI (by omega)]) hA4 (hI.upl (n := 100 * b + c) (by omega) (by rw [show (100 : Int32) = nI 100 from rfl, pk_mul, nI_add]) (by omega) (by omega)) rfl)
set_option maxRecDepth 20000 in
theorem m_item (M : Mem) (hT : tpOk M) (q d : Dm) (e : Nat) (hA : AtR M q e) (hI : Inv d) : CR l sk D cy A X mX7_item 5 [.ref (A 0)] (PMR M q d) (rPR M (iteS (gM M) e d)) := by
  refine Con.of (lo := [some (.ref (A 0)), none]) cf_X7_item (fun _ _ => wl_fst) 1 rfl (Nat.le_of_ble_eq_true rfl) (fun Pp Ee Ss Mm Aa Bb Me Cc A0 B hr hlk => ?_)
  have B : BS sk D cy (wl A cy 11 TM X) A0 Pp Ss Mm Aa Cc RX7 cX7_item 2 := B
  obtain ⟨q1, hq1⟩ : ∃ q1, q1 = nxD (gM M) q (tokE (gM M) e) := ⟨_, rfl⟩
  have hA1 : AtR M q1 (tokE (gM M) e) := by rw [hq1]; exact atR_nx hA (tokR_le hT (hA).1).2
  refine a_aload_n B dX7_item_0 rfl ?_
  refine a_callV0r B rfl cf_X7_kindHere lk_X7_267 in_X7_kindHere se_X7_kindHere (wl_rc (p0 := 0) (by decide) rfl rfl rfl) (m_kinH M hT q d e hA) dX7_item_1 (Nat.le_of_ble_eq_true rfl) ⟨Nat.le_of_ble_eq_true rfl, Nat.le_of_ble_eq_true rfl⟩ ⟨rfl, rfl⟩ ?_
  rcases hk : kinS (gM M) e with _ | k
  · refine p_istore1 B dX7_item_4 (by decide) (k := ?_)
    refine a_iload_n B dX7_item_5 rfl ?_
    refine a_if_lt 17 B dX7_item_6 (by decide) (fun c6 => ?_) (fun c6 => ?_)
    · refine a_aload_n B dX7_item_17 rfl ?_
      refine a_ldc2 B dX7_item_18 kl_X7_273 ?_
      refine a_callV1r B rfl cf_X7_isWord lk_X7_232 in_X7_isWord se_X7_isWord (wl_rc (p0 := 0) (by decide) rfl rfl rfl) (m_isW M hT q d e hA 0 (by decide) _ (wL_n 0 (by decide))) dX7_item_21 (Nat.le_of_ble_eq_true rfl) ⟨Nat.le_of_ble_eq_true rfl, Nat.le_of_ble_eq_true rfl⟩ ⟨rfl, rfl⟩ ?_
      refine a_if_eq 34 B dX7_item_24 (by decide) (fun c24 => ?_) (fun c24 => ?_)
      · have c24 := bI_eq0.mp c24
        refine a_aload_n B dX7_item_34 rfl ?_
        refine a_ldc2 B dX7_item_35 kl_X7_278 ?_
        refine a_callV1r B rfl cf_X7_isWord lk_X7_232 in_X7_isWord se_X7_isWord (wl_rc (p0 := 0) (by decide) rfl rfl rfl) (m_isW M hT q d e hA 1 (by decide) _ (wL_n 1 (by decide))) dX7_item_38 (Nat.le_of_ble_eq_true rfl) ⟨Nat.le_of_ble_eq_true rfl, Nat.le_of_ble_eq_true rfl⟩ ⟨rfl, rfl⟩ ?_
        refine a_if_eq 63 B dX7_item_41 (by decide) (fun c41 => ?_) (fun c41 => ?_)
        · have c41 := bI_eq0.mp c41
          refine a_aload_n B dX7_item_63 rfl ?_
          refine a_ldc2 B dX7_item_64 kl_X7_280 ?_
          refine a_callV1r B rfl cf_X7_isWord lk_X7_232 in_X7_isWord se_X7_isWord (wl_rc (p0 := 0) (by decide) rfl rfl rfl) (m_isW M hT q d e hA 2 (by decide) _ (wL_n 2 (by decide))) dX7_item_67 (Nat.le_of_ble_eq_true rfl) ⟨Nat.le_of_ble_eq_true rfl, Nat.le_of_ble_eq_true rfl⟩ ⟨rfl, rfl⟩ ?_
          refine a_if_eq 93 B dX7_item_70 (by decide) (fun c70 => ?_) (fun c70 => ?_)
          · have c70 := bI_eq0.mp c70
            refine a_aload_n B dX7_item_93 rfl ?_
            refine a_callV0v B rfl cf_X7_wrongHere lk_X7_248 in_X7_wrongHere se_X7_wrongHere (wl_rc (p0 := 0) (by decide) rfl rfl rfl) (m_wroH M hT q d e hA) dX7_item_94 (Nat.le_of_ble_eq_true rfl) ⟨Nat.le_of_ble_eq_true rfl, Nat.le_of_ble_eq_true rfl⟩ ⟨rfl, rfl⟩ ?_
            exact a_vret B hr hlk dX7_item_97 (rPR_r hT (by unfold iteS priS; rw [if_neg (by rw [c24]; decide), if_neg (by rw [c41]; decide), if_neg (by rw [c70]; decide), hk]) hA rfl)
          have c70 := bI_ne0.mp c70
          refine a_aload_n B dX7_item_73 rfl ?_
          refine a_callV0v B rfl cf_X7_next lk_X7_251 in_X7_next se_X7_next (wl_rc (p0 := 0) (by decide) rfl rfl rfl) (m_adv M hT q d e hA (isWq_4 c70)) dX7_item_74 (Nat.le_of_ble_eq_true rfl) ⟨Nat.le_of_ble_eq_true rfl, Nat.le_of_ble_eq_true rfl⟩ ⟨rfl, rfl⟩ ?_
          rw [← hq1]
          rcases hn1 : rnumS (gM M) (tokE (gM M) e) 255 with _ | x1
          · refine a_aload_n B dX7_item_77 rfl ?_
            refine a_getR B fl_X7_7 (by decide) rfl rfl dX7_item_78 ?_
            refine a_iconst (v := 4) B dX7_item_81 (by decide) ?_
            refine a_aload_n B dX7_item_82 rfl ?_
            refine a_sipush (v := 255) B dX7_item_83 (by decide) ?_
            refine a_callV1r B rfl cf_X7_numberHere lk_X7_254 in_X7_numberHere se_X7_numberHere (wl_rc (p0 := 0) (by decide) rfl rfl rfl) (m_numN M hT q1 d _ hA1 255 (by omega) hn1) dX7_item_86 (Nat.le_of_ble_eq_true rfl) ⟨Nat.le_of_ble_eq_true rfl, Nat.le_of_ble_eq_true rfl⟩ ⟨rfl, rfl⟩ ?_
            refine a_iast 4 B twM (by decide) rfl rfl (by omega) (by decide) dX7_item_89 ?_
            refine a_goto 97 B dX7_item_90 (by decide) ?_
            rw [Nat.zero_add 4, PMR_u0]
            exact a_vret B hr hlk dX7_item_97 (rPR_r hT (by unfold iteS outS; rw [if_neg (by rw [c24]; decide), if_neg (by rw [c41]; decide), if_pos c70, hn1]) hA1 rfl)
          · obtain ⟨q2, hq2⟩ : ∃ q2, q2 = nxD (gM M) q1 (tokE (gM M) (tokE (gM M) e)) := ⟨_, rfl⟩
            have hA2 : AtR M q2 (tokE (gM M) (tokE (gM M) e)) := by rw [hq2]; exact atR_nx hA1 (tokR_le hT (hA1).1).2
            obtain ⟨a, ha, ea⟩ := rnum_nn (m := 255) (by omega) hn1
            refine a_aload_n B dX7_item_77 rfl ?_
            refine a_getR B fl_X7_7 (by decide) rfl rfl dX7_item_78 ?_
            refine a_iconst (v := 4) B dX7_item_81 (by decide) ?_
            refine a_aload_n B dX7_item_82 rfl ?_
            refine a_sipush (v := 255) B dX7_item_83 (by decide) ?_
            refine a_callV1r B rfl cf_X7_numberHere lk_X7_254 in_X7_numberHere se_X7_numberHere (wl_rc (p0 := 0) (by decide) rfl rfl rfl) (m_numY M hT q1 d _ hA1 255 (by omega) _ hn1) dX7_item_86 (Nat.le_of_ble_eq_true rfl) ⟨Nat.le_of_ble_eq_true rfl, Nat.le_of_ble_eq_true rfl⟩ ⟨rfl, rfl⟩ ?_
            rw [← hq2]
            refine a_iast 4 B twM (by decide) rfl rfl (by omega) (by decide) dX7_item_89 ?_
            refine a_goto 97 B dX7_item_90 (by decide) ?_
            rw [Nat.zero_add 4, PMR_u0]
            exact a_vret B hr hlk dX7_item_97 (rPR_l (by unfold iteS outS; rw [if_neg (by rw [c24]; decide), if_neg (by rw [c41]; decide), if_pos c70, hn1]) hA2 (hI.up (j := 4) (Or.inl (by omega)) ea (fun _ _ => ha)) rfl)
        have c41 := bI_ne0.mp c41
        refine a_aload_n B dX7_item_44 rfl ?_
        refine a_callV0v B rfl cf_X7_next lk_X7_251 in_X7_next se_X7_next (wl_rc (p0 := 0) (by decide) rfl rfl rfl) (m_adv M hT q d e hA (isWq_4 c41)) dX7_item_45 (Nat.le_of_ble_eq_true rfl) ⟨Nat.le_of_ble_eq_true rfl, Nat.le_of_ble_eq_true rfl⟩ ⟨rfl, rfl⟩ ?_
        rw [← hq1]
        rcases hn1 : rnumS (gM M) (tokE (gM M) e) 9 with _ | x1
        · refine a_aload_n B dX7_item_48 rfl ?_
          refine a_getR B fl_X7_7 (by decide) rfl rfl dX7_item_49 ?_
          refine a_iconst (v := 3) B dX7_item_52 (by decide) ?_
          refine a_aload_n B dX7_item_53 rfl ?_
          refine a_bipush (v := 9) B dX7_item_54 (by decide) ?_
          refine a_callV1r B rfl cf_X7_numberHere lk_X7_254 in_X7_numberHere se_X7_numberHere (wl_rc (p0 := 0) (by decide) rfl rfl rfl) (m_numN M hT q1 d _ hA1 9 (by omega) hn1) dX7_item_56 (Nat.le_of_ble_eq_true rfl) ⟨Nat.le_of_ble_eq_true rfl, Nat.le_of_ble_eq_true rfl⟩ ⟨rfl, rfl⟩ ?_
          refine a_iast 3 B twM (by decide) rfl rfl (by omega) (by decide) dX7_item_59 ?_
          refine a_goto 97 B dX7_item_60 (by decide) ?_
          rw [Nat.zero_add 3, PMR_u0]
          exact a_vret B hr hlk dX7_item_97 (rPR_r hT (by unfold iteS watS; rw [if_neg (by rw [c24]; decide), if_pos c41, hn1]) hA1 rfl)
        · obtain ⟨q2, hq2⟩ : ∃ q2, q2 = nxD (gM M) q1 (tokE (gM M) (tokE (gM M) e)) := ⟨_, rfl⟩
          have hA2 : AtR M q2 (tokE (gM M) (tokE (gM M) e)) := by rw [hq2]; exact atR_nx hA1 (tokR_le hT (hA1).1).2
          obtain ⟨a, ha, ea⟩ := rnum_nn (m := 9) (by omega) hn1
          refine a_aload_n B dX7_item_48 rfl ?_
          refine a_getR B fl_X7_7 (by decide) rfl rfl dX7_item_49 ?_
          refine a_iconst (v := 3) B dX7_item_52 (by decide) ?_
          refine a_aload_n B dX7_item_53 rfl ?_
          refine a_bipush (v := 9) B dX7_item_54 (by decide) ?_
          refine a_callV1r B rfl cf_X7_numberHere lk_X7_254 in_X7_numberHere se_X7_numberHere (wl_rc (p0 := 0) (by decide) rfl rfl rfl) (m_numY M hT q1 d _ hA1 9 (by omega) _ hn1) dX7_item_56 (Nat.le_of_ble_eq_true rfl) ⟨Nat.le_of_ble_eq_true rfl, Nat.le_of_ble_eq_true rfl⟩ ⟨rfl, rfl⟩ ?_
          rw [← hq2]
          refine a_iast 3 B twM (by decide) rfl rfl (by omega) (by decide) dX7_item_59 ?_
          refine a_goto 97 B dX7_item_60 (by decide) ?_
          rw [Nat.zero_add 3, PMR_u0]
          exact a_vret B hr hlk dX7_item_97 (rPR_l (by unfold iteS watS; rw [if_neg (by rw [c24]; decide), if_pos c41, hn1]) hA2 (hI.up (j := 3) (Or.inl (by omega)) ea (fun _ _ => ha)) rfl)
      have c24 := bI_ne0.mp c24
      refine a_aload_n B dX7_item_27 rfl ?_
      refine a_callV0p B rfl cf_X7_toldHere lk_X7_275 in_X7_toldHere se_X7_toldHere (wl_rc (p0 := 0) (by decide) rfl rfl rfl) (m_toldHere M hT q d e hA hI c24) dX7_item_28 (Nat.le_of_ble_eq_true rfl) ⟨Nat.le_of_ble_eq_true rfl, Nat.le_of_ble_eq_true rfl⟩ ⟨rfl, rfl⟩ ?_
      rintro v9 M9 hp9
      have hv9 := hp9.1
      subst hv9
      show AW Pp l Ee _ Ss Mm Aa Bb Me Cc D _ A0 _ 0 0 _ _ _ _ _
      refine a_goto 97 B dX7_item_31 (by decide) ?_
      exact a_vret B hr hlk dX7_item_97 (by unfold iteS; rw [if_pos c24]; exact hp9)
    exact absurd (show (-1 : Int32) < 0 by decide) c6
  · have hk7 := (kin_wq hk).1
    refine p_istore1 B dX7_item_4 (by decide) (k := ?_)
    refine a_iload_n B dX7_item_5 rfl ?_
    refine a_if_lt 17 B dX7_item_6 (by decide) (fun c6 => ?_) (fun c6 => ?_)
    · exact absurd c6 (nI_pos (by omega))
    refine a_aload_n B dX7_item_9 rfl ?_
    refine a_iload_n B dX7_item_10 rfl ?_
    refine a_callV1p B rfl cf_X7_priestHere lk_X7_270 in_X7_priestHere se_X7_priestHere (wl_rc (p0 := 0) (by decide) rfl rfl rfl) (m_priestHere M hT q d e hA hI k hk) dX7_item_11 (Nat.le_of_ble_eq_true rfl) ⟨Nat.le_of_ble_eq_true rfl, Nat.le_of_ble_eq_true rfl⟩ ⟨rfl, rfl⟩ ?_
    rintro v9 M9 hp9
    have hv9 := hp9.1
    subst hv9
    show AW Pp l Ee _ Ss Mm Aa Bb Me Cc D _ A0 _ 0 0 _ _ _ _ _
    refine a_goto 97 B dX7_item_14 (by decide) ?_
    exact a_vret B hr hlk dX7_item_97 (by rw [ite_kin hk]; exact hp9)
end R26
