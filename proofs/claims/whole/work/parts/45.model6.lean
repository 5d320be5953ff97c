section R6

def AM (M : Mem) (X : Dm) : Mem := stB (stB M 2 (cpD (M 2) (M 0) 70)) 0 X
theorem AM_0 {M : Mem} {X : Dm} : AM M X 0 = X := by unfold AM; rw [stB_at]
theorem AM_2 {M : Mem} {X : Dm} : AM M X 2 = cpD (M 2) (M 0) 70 := by unfold AM; rw [stB_ne (by decide), stB_at]
theorem AM_s {M : Mem} {X Y : Dm} : stB (AM M X) 0 Y = AM M Y := by unfold AM; rw [stB_st]
theorem AM_u {M : Mem} {X : Dm} {j : Nat} {v : Int32} : upB (AM M X) 0 j v = AM M (upd X j v) := by rw [upB_st, AM_0, AM_s]
theorem AM_i {M : Mem} : stB M 2 (cpD (M 2) (M 0) 70) = AM M (M 0) := by
  unfold AM
  have h : (stB M 2 (cpD (M 2) (M 0) 70)) 0 = M 0 := stB_ne (by decide)
  have h2 := stB_id (M := stB M 2 (cpD (M 2) (M 0) 70)) (b := 0)
  rw [h] at h2
  exact h2.symm
theorem AM_q {M : Mem} : eqM M (AM M (M 0)) := by
  refine ⟨fun b hb => ?_, ?_, ?_⟩
  · rcases Nat.eq_zero_or_pos b with h | h
    · subst h; exact AM_0
    · unfold AM; rw [stB_ne (by omega), stB_ne (by omega)]
  · unfold AM; rw [stB_ne (by decide), stB_ne (by decide)]
  · unfold AM; rw [stB_ne (by decide), stB_ne (by decide)]
theorem AM_f {M : Mem} {k : Nat} : eqM (fnM M k) (fnM (AM M (M 0)) k) := by
  have h4 : AM M (M 0) 4 = M 4 := AM_q.1 4 (Or.inr ⟨by omega, by omega⟩)
  refine ⟨fun b hb => ?_, ?_, ?_⟩
  · unfold fnM
    by_cases h : b = 4
    · subst h; rw [stB_at, stB_at, h4]
    · rw [stB_ne h, stB_ne h]; exact AM_q.1 b hb
  · unfold fnM; rw [stB_ne (by decide), stB_ne (by decide)]; exact AM_q.2.1
  · unfold fnM; rw [stB_ne (by decide), stB_ne (by decide)]; exact AM_q.2.2
theorem AM_b {d a X : Dm} (h : ∀ j, 70 ≤ j → X j = d j) : cpD X (cpD a d 70) 70 = d := by
  funext j
  unfold cpD
  by_cases hj : j < 70
  · rw [if_pos hj, if_pos hj]
  · rw [if_neg hj]; exact h j (by omega)
theorem hi_days {d e : Dm} (hI : Inv e) (h : ∀ j, 70 ≤ j → e j = d j) (n : Nat) : ∀ j, 70 ≤ j → daysF e n j = d j := fun j hj => by
  rw [days_off hI (Or.inr (by omega)) (by omega) (by omega) (by omega)]
  exact h j hj
theorem fst_nS {Q : Nat → Bool} {k : Nat} (h : fstN Q k = none) (hk : k ≤ 200) (hq : Q k = true) : nS (fstN Q 201) = .inl (nI k) := by rw [fst_up (fst_yes h hq) 201 (by omega)]; rfl
theorem fst_nN {Q : Nat → Bool} (h : fstN Q 200 = none) (hq : Q 200 = false) : nS (fstN Q 201) = .inr 3 := by rw [fst_no h hq]; rfl

variable {l : Launch} {sk : (Nat → Nat) × (Nat → Nat)} {D : va_G} {cy : Nat → ClassId} {A : Nat → Nat} {X : va_W}
theorem m_aside (M : Mem) : CR l sk D cy A X mX7_copies 0 [.ref (A 1), .ref (A 3)] M (rV (AM M (M 0))) := by
  have h := m_copies (l := l) (sk := sk) (D := D) (cy := cy) (A := A) (X := X) 0 2 (by decide) (by decide) (by decide) M
  rw [AM_i] at h
  exact h
theorem m_back (M : Mem) (Y : Dm) (hY : ∀ j, 70 ≤ j → Y j = M 0 j) : CR l sk D cy A X mX7_copies 0 [.ref (A 3), .ref (A 1)] (AM M Y) (rV (AM M (M 0))) := by
  have h := m_copies (l := l) (sk := sk) (D := D) (cy := cy) (A := A) (X := X) 2 0 (by decide) (by decide) (by decide) (AM M Y)
  rw [AM_s, AM_0, AM_2, AM_b hY] at h
  exact h
theorem m_dayA (M : Mem) (Y : Dm) (hI : Inv Y) : CR l sk D cy A X mX7_dayGoes 5 [.ref (A 0)] (AM M Y) (rV (AM M (dayF Y))) := by
  have h := m_dayGoes (l := l) (sk := sk) (D := D) (cy := cy) (A := A) (X := X) (AM M Y) (by rw [AM_0]; exact hI)
  rw [AM_s, AM_0] at h
  exact h
theorem m_daysA (t : Nat) (ht : t < 100000) (M : Mem) (Y : Dm) (hI : Inv Y) : CR l sk D cy A X mX7_daysGo 6 [.ref (A 0), .int (nI t)] (AM M Y) (rV (AM M (daysF Y t))) := by
  have h := m_daysGo (l := l) (sk := sk) (D := D) (cy := cy) (A := A) (X := X) t ht (AM M Y) (by rw [AM_0]; exact hI)
  rw [AM_s, AM_0] at h
  exact h
set_option maxRecDepth 20000 in
set_option maxHeartbeats 4000000 in
theorem m_firstOf (j : Nat) (hj : j < 70) (lo hi : Int32) (M : Mem) (hI : Inv (M 0)) : CR l sk D cy A X mX7_firstOf 6 [.ref (A 0), .int (nI j), .int lo, .int hi] M (rR (nS (fstN (fun n => bt (daysF (M 0) n j) lo hi) 201)) M M) := by
  refine Con.of (lo := [some (.ref (A 0)), some (.int (nI j)), some (.int lo), some (.int hi), none, none]) cf_X7_firstOf (fun _ _ => wl_fst) 2 rfl (Nat.le_of_ble_eq_true rfl) (fun Pp Ee Ss Mm Aa Bb Me Cc A0 B hr hlk => ?_)
  have B : BS sk D cy (wl A cy 11 TM X) A0 Pp Ss Mm Aa Cc RX7 cX7_firstOf 6 := B
  have loop : ∀ n k, 201 ≤ k + n → k ≤ 200 → fstN (fun n => bt (daysF (M 0) n j) lo hi) k = none → AW Pp l Ee (rmK 6 (34 * 6)) Ss Mm Aa Bb Me Cc D (wl A cy 11 TM X) A0 6 0 0 (MQ Bb (QG D (wl A cy 11 TM X) A0 (rR (nS (fstN (fun n => bt (daysF (M 0) n j) lo hi) 201)) M M)) Aa Ss 0 0 A0) 14 [some (.ref (A 0)), some (.int (nI j)), some (.int lo), some (.int hi), some (.int (nI k)), none] [] (AM M (daysF (M 0) k)) := by
    intro n
    induction n with
    | zero => intro k h1 h2; omega
    | succ n ih =>
      intro k h1 h2 h3
      refine a_iload B dX7_firstOf_14 rfl ?_
      refine a_sipush (v := 200) B dX7_firstOf_16 (by decide) ?_
      refine a_icmp_ge 49 B dX7_firstOf_19 (by decide) (fun c19 => ?_) (fun c19 => ?_)
      · have hk200 : k = 200 := by have := (nI_leI (a := 200) (b := k) (by omega) (by omega)).mp c19; omega
        refine a_aload_n B dX7_firstOf_49 rfl ?_
        refine a_getR B fl_X7_7 (by decide) rfl rfl dX7_firstOf_50 ?_
        refine a_iload_n B dX7_firstOf_53 rfl ?_
        refine a_iald j B (by decide) rfl rfl (by omega) (by decide) dX7_firstOf_54 ?_
        refine a_i2l B dX7_firstOf_55 ?_
        refine a_iload_n B dX7_firstOf_56 rfl ?_
        refine a_i2l B dX7_firstOf_57 ?_
        refine a_iload_n B dX7_firstOf_58 rfl ?_
        refine a_i2l B dX7_firstOf_59 ?_
        rw [show AM M (daysF (M 0) k) 0 (0 + j) = daysF (M 0) k j from by rw [AM_0, Nat.zero_add]]
        refine a_callS3r B rfl cf_X7_in lk_X7_42 st_X7_in (m_in _ lo hi _ _ rfl rfl _) dX7_firstOf_60 (Nat.le_of_ble_eq_true rfl) ⟨Nat.le_of_ble_eq_true rfl, Nat.le_of_ble_eq_true rfl⟩ ⟨rfl, rfl⟩ ?_
        refine p_istore5 B dX7_firstOf_63 (by decide) (k := ?_)
        refine a_aload_n B dX7_firstOf_65 rfl ?_
        refine a_getR B fl_X7_16 (by decide) rfl rfl dX7_firstOf_66 ?_
        refine a_aload_n B dX7_firstOf_69 rfl ?_
        refine a_getR B fl_X7_7 (by decide) rfl rfl dX7_firstOf_70 ?_
        refine a_callS2v B rfl cf_X7_copies lk_X7_146 st_X7_copies (m_back M _ (hi_days hI (fun _ _ => rfl) k)) dX7_firstOf_73 (Nat.le_of_ble_eq_true rfl) ⟨Nat.le_of_ble_eq_true rfl, Nat.le_of_ble_eq_true rfl⟩ ⟨rfl, rfl⟩ ?_
        refine a_iload B dX7_firstOf_76 rfl ?_
        refine a_if_eq 86 B dX7_firstOf_78 (by decide) (fun c78 => ?_) (fun c78 => ?_)
        · have c78 := bI_eq0.mp c78
          refine a_aload_n B dX7_firstOf_86 rfl ?_
          refine a_iconst (v := 3) B dX7_firstOf_87 (by decide) ?_
          refine a_callV1r B rfl cf_X7_finds lk_X7_109 in_X7_finds se_X7_finds (wl_rc (p0 := 0) (by decide) rfl rfl rfl) (m_finds 3 (by decide) _) dX7_firstOf_88 (Nat.le_of_ble_eq_true rfl) ⟨Nat.le_of_ble_eq_true rfl, Nat.le_of_ble_eq_true rfl⟩ ⟨rfl, rfl⟩ ?_
          subst hk200
          exact a_iret B hr hlk dX7_firstOf_91 (rR_r (k := 3) (fst_nN h3 c78) rfl AM_f)
        have c78 := bI_ne0.mp c78
        refine a_iload B dX7_firstOf_81 rfl ?_
        refine a_goto 91 B dX7_firstOf_83 (by decide) ?_
        exact a_iret B hr hlk dX7_firstOf_91 (rR_l (fst_nS h3 (by omega) c78) AM_q)
      have hlt0 : k < 200 := (nI_ltI (a := k) (b := 200) (by omega) (by omega)).mp (Int32.not_le.mp c19)
      refine a_aload_n B dX7_firstOf_22 rfl ?_
      refine a_getR B fl_X7_7 (by decide) rfl rfl dX7_firstOf_23 ?_
      refine a_iload_n B dX7_firstOf_26 rfl ?_
      refine a_iald j B (by decide) rfl rfl (by omega) (by decide) dX7_firstOf_27 ?_
      refine a_i2l B dX7_firstOf_28 ?_
      refine a_iload_n B dX7_firstOf_29 rfl ?_
      refine a_i2l B dX7_firstOf_30 ?_
      refine a_iload_n B dX7_firstOf_31 rfl ?_
      refine a_i2l B dX7_firstOf_32 ?_
      rw [show AM M (daysF (M 0) k) 0 (0 + j) = daysF (M 0) k j from by rw [AM_0, Nat.zero_add]]
      refine a_callS3r B rfl cf_X7_in lk_X7_42 st_X7_in (m_in _ lo hi _ _ rfl rfl _) dX7_firstOf_33 (Nat.le_of_ble_eq_true rfl) ⟨Nat.le_of_ble_eq_true rfl, Nat.le_of_ble_eq_true rfl⟩ ⟨rfl, rfl⟩ ?_
      refine a_if_ne 49 B dX7_firstOf_36 (by decide) (fun c36 => ?_) (fun c36 => ?_)
      · have c36 := bI_ne0.mp c36
        refine a_aload_n B dX7_firstOf_49 rfl ?_
        refine a_getR B fl_X7_7 (by decide) rfl rfl dX7_firstOf_50 ?_
        refine a_iload_n B dX7_firstOf_53 rfl ?_
        refine a_iald j B (by decide) rfl rfl (by omega) (by decide) dX7_firstOf_54 ?_
        refine a_i2l B dX7_firstOf_55 ?_
        refine a_iload_n B dX7_firstOf_56 rfl ?_
        refine a_i2l B dX7_firstOf_57 ?_
        refine a_iload_n B dX7_firstOf_58 rfl ?_
        refine a_i2l B dX7_firstOf_59 ?_
        rw [show AM M (daysF (M 0) k) 0 (0 + j) = daysF (M 0) k j from by rw [AM_0, Nat.zero_add]]
        refine a_callS3r B rfl cf_X7_in lk_X7_42 st_X7_in (m_in _ lo hi _ _ rfl rfl _) dX7_firstOf_60 (Nat.le_of_ble_eq_true rfl) ⟨Nat.le_of_ble_eq_true rfl, Nat.le_of_ble_eq_true rfl⟩ ⟨rfl, rfl⟩ ?_
        refine p_istore5 B dX7_firstOf_63 (by decide) (k := ?_)
        refine a_aload_n B dX7_firstOf_65 rfl ?_
        refine a_getR B fl_X7_16 (by decide) rfl rfl dX7_firstOf_66 ?_
        refine a_aload_n B dX7_firstOf_69 rfl ?_
        refine a_getR B fl_X7_7 (by decide) rfl rfl dX7_firstOf_70 ?_
        refine a_callS2v B rfl cf_X7_copies lk_X7_146 st_X7_copies (m_back M _ (hi_days hI (fun _ _ => rfl) k)) dX7_firstOf_73 (Nat.le_of_ble_eq_true rfl) ⟨Nat.le_of_ble_eq_true rfl, Nat.le_of_ble_eq_true rfl⟩ ⟨rfl, rfl⟩ ?_
        refine a_iload B dX7_firstOf_76 rfl ?_
        refine a_if_eq 86 B dX7_firstOf_78 (by decide) (fun c78 => ?_) (fun c78 => ?_)
        · have c78 := bI_eq0.mp c78
          refine a_aload_n B dX7_firstOf_86 rfl ?_
          refine a_iconst (v := 3) B dX7_firstOf_87 (by decide) ?_
          refine a_callV1r B rfl cf_X7_finds lk_X7_109 in_X7_finds se_X7_finds (wl_rc (p0 := 0) (by decide) rfl rfl rfl) (m_finds 3 (by decide) _) dX7_firstOf_88 (Nat.le_of_ble_eq_true rfl) ⟨Nat.le_of_ble_eq_true rfl, Nat.le_of_ble_eq_true rfl⟩ ⟨rfl, rfl⟩ ?_
          exact absurd (c36.symm.trans c78) (by decide)
        have c78 := bI_ne0.mp c78
        refine a_iload B dX7_firstOf_81 rfl ?_
        refine a_goto 91 B dX7_firstOf_83 (by decide) ?_
        exact a_iret B hr hlk dX7_firstOf_91 (rR_l (fst_nS h3 (by omega) c78) AM_q)
      have c36 := bI_eq0.mp c36
      refine a_aload_n B dX7_firstOf_39 rfl ?_
      refine a_callV0v B rfl cf_X7_dayGoes lk_X7_98 in_X7_dayGoes se_X7_dayGoes (wl_rc (p0 := 0) (by decide) rfl rfl rfl) (m_dayA M _ (Inv.vDays hI k)) dX7_firstOf_40 (Nat.le_of_ble_eq_true rfl) ⟨Nat.le_of_ble_eq_true rfl, Nat.le_of_ble_eq_true rfl⟩ ⟨rfl, rfl⟩ ?_
      refine p_iinc4 1 B dX7_firstOf_43 (by decide) (by decide) (k := ?_)
      refine a_goto 14 B dX7_firstOf_46 (by decide) ?_
      rw [nI_1]
      exact ih (k + 1) (by omega) (by omega) (fst_no h3 c36)
  refine a_aload_n B dX7_firstOf_0 rfl ?_
  refine a_getR B fl_X7_7 (by decide) rfl rfl dX7_firstOf_1 ?_
  refine a_aload_n B dX7_firstOf_4 rfl ?_
  refine a_getR B fl_X7_16 (by decide) rfl rfl dX7_firstOf_5 ?_
  refine a_callS2v B rfl cf_X7_copies lk_X7_146 st_X7_copies (m_aside M) dX7_firstOf_8 (Nat.le_of_ble_eq_true rfl) ⟨Nat.le_of_ble_eq_true rfl, Nat.le_of_ble_eq_true rfl⟩ ⟨rfl, rfl⟩ ?_
  refine a_iconst (v := 0) B dX7_firstOf_11 (by decide) ?_
  refine p_istore4 B dX7_firstOf_12 (by decide) (k := ?_)
  exact loop 201 0 (by omega) (by omega) rfl
theorem bt_ill {d : Dm} {p n : Nat} (hI : Inv d) (hp : p < 8) : bt (daysF d n (52 + p)) (d (52 + p) + 1) 9999 = illQ d p n := by
  obtain ⟨a, ha, ea⟩ := (Inv.vDays hI n).il hp
  obtain ⟨b, hb, eb⟩ := hI.il hp
  unfold bt illQ
  rw [ea, eb, nI_1, decide_eq_false (fun q : (9999 : Int32) < nI a => absurd ((nI_ltI (a := 9999) (b := a) (by omega) (by omega)).mp q) (by omega))]
  by_cases h : b < a
  · rw [decide_eq_false (fun q : nI a < nI (b + 1) => absurd ((nI_ltI (by omega) (by omega)).mp q) (by omega)), decide_eq_true (nI_lt h (by omega))]
    cases n with
    | zero => exact absurd (nI_inj (by omega) (by omega) (ea.symm.trans eb)) (by omega)
    | succ n => rfl
  · rw [decide_eq_true (nI_lt (show a < b + 1 by omega) (by omega)), decide_eq_false (fun q : nI b < nI a => h ((nI_ltI (by omega) (by omega)).mp q)), Bool.and_false]
    rfl
theorem bt_whn {d : Dm} {p n : Nat} {v : Int32} (hI : Inv d) (hp : p < 8) : bt (daysF d n (20 + p)) v 999 = whnQ d p v n := by
  obtain ⟨a, ha, ea⟩ := (Inv.vDays hI n).s hp
  unfold bt whnQ
  rw [ea, decide_eq_false (fun q : (999 : Int32) < nI a => absurd ((nI_ltI (a := 999) (b := a) (by omega) (by omega)).mp q) (by omega))]
  rw [Bool.not_false, Bool.and_true]
theorem rR_v {x : Oc} {M1 M M' : Mem} {v : Option Value} (h : rR x M1 M v M') : ∃ b, v = some (.int b) := by
  rcases x with y | s
  · exact ⟨_, h.1⟩
  · exact ⟨_, h.1⟩
set_option maxRecDepth 20000 in
theorem m_ill (p : Int32) (M : Mem) (hI : Inv (M 0)) : CR l sk D cy A X mX7_ill 7 [.ref (A 0), .int p] M (rR (illX (M 0) p) M M) := by
  refine Con.of (lo := [some (.ref (A 0)), some (.int p)]) cf_X7_ill (fun _ _ => wl_fst) 0 rfl (Nat.le_of_ble_eq_true rfl) (fun Pp Ee Ss Mm Aa Bb Me Cc A0 B hr hlk => ?_)
  have B : BS sk D cy (wl A cy 11 TM X) A0 Pp Ss Mm Aa Cc RX7 cX7_ill 2 := B
  rcases at_cases hI p with ⟨q, hqn, hq8, hvq, hip, hlt⟩ | ⟨hn, hip⟩
  · subst hvq
    refine a_aload_n B dX7_ill_0 rfl ?_
    refine a_iload_n B dX7_ill_1 rfl ?_
    refine a_callV1r B rfl cf_X7_isPriest lk_X7_123 in_X7_isPriest se_X7_isPriest (wl_rc (p0 := 0) (by decide) rfl rfl rfl) (m_isPriest _ _ hI) dX7_ill_2 (Nat.le_of_ble_eq_true rfl) ⟨Nat.le_of_ble_eq_true rfl, Nat.le_of_ble_eq_true rfl⟩ ⟨rfl, rfl⟩ ?_
    refine a_if_eq 30 B dX7_ill_5 (by decide) (fun c5 => ?_) (fun c5 => ?_)
    · exact absurd (show isP (M 0) (nI q) = false from bI_eq0.mp c5) (by rw [hip]; decide)
    refine a_aload_n B dX7_ill_8 rfl ?_
    refine a_bipush (v := 52) B dX7_ill_9 (by decide) ?_
    refine a_iload_n B dX7_ill_11 rfl ?_
    refine a_iadd B dX7_ill_12 ?_
    refine a_aload_n B dX7_ill_13 rfl ?_
    refine a_iload_n B dX7_ill_14 rfl ?_
    refine a_iconst (v := 5) B dX7_ill_15 (by decide) ?_
    refine a_callV2r B rfl cf_X7_its lk_X7_54 in_X7_its se_X7_its (wl_rc (p0 := 0) (by decide) rfl rfl rfl) (m_its q 5 (52 + q) (by omega) (by decide) (by omega) _) dX7_ill_16 (Nat.le_of_ble_eq_true rfl) ⟨Nat.le_of_ble_eq_true rfl, Nat.le_of_ble_eq_true rfl⟩ ⟨rfl, rfl⟩ ?_
    refine a_iconst (v := 1) B dX7_ill_19 (by decide) ?_
    refine a_iadd B dX7_ill_20 ?_
    refine a_sipush (v := 9999) B dX7_ill_21 (by decide) ?_
    rw [show (52 : Int32) + nI q = nI (52 + q) from nI_add 52 q]
    refine a_callV3p B rfl cf_X7_firstOf lk_X7_152 in_X7_firstOf se_X7_firstOf (wl_rc (p0 := 0) (by decide) rfl rfl rfl) (m_firstOf (52 + q) (by omega) _ _ _ hI) dX7_ill_24 (Nat.le_of_ble_eq_true rfl) ⟨Nat.le_of_ble_eq_true rfl, Nat.le_of_ble_eq_true rfl⟩ ⟨rfl, rfl⟩ ?_
    rw [show (fun n => bt (daysF (M 0) n (52 + q)) (M 0 (52 + q) + 1) 9999) = illQ (M 0) q from funext (fun n => bt_ill hI hq8)]
    rintro v9 M9 hp9
    obtain ⟨b9, rfl⟩ := rR_v hp9
    show AW Pp l Ee _ Ss Mm Aa Bb Me Cc D _ A0 _ 0 0 _ _ _ (_ :: _) _
    refine a_goto 35 B dX7_ill_27 (by decide) ?_
    exact a_iret B hr hlk dX7_ill_35 (by unfold illX; rw [hip, if_pos rfl, nn_nI (show q < 2 ^ 31 by omega)]; exact hp9)
  · refine a_aload_n B dX7_ill_0 rfl ?_
    refine a_iload_n B dX7_ill_1 rfl ?_
    refine a_callV1r B rfl cf_X7_isPriest lk_X7_123 in_X7_isPriest se_X7_isPriest (wl_rc (p0 := 0) (by decide) rfl rfl rfl) (m_isPriest _ _ hI) dX7_ill_2 (Nat.le_of_ble_eq_true rfl) ⟨Nat.le_of_ble_eq_true rfl, Nat.le_of_ble_eq_true rfl⟩ ⟨rfl, rfl⟩ ?_
    refine a_if_eq 30 B dX7_ill_5 (by decide) (fun c5 => ?_) (fun c5 => ?_)
    · refine a_aload_n B dX7_ill_30 rfl ?_
      refine a_iconst (v := 0) B dX7_ill_31 (by decide) ?_
      refine a_callV1r B rfl cf_X7_finds lk_X7_109 in_X7_finds se_X7_finds (wl_rc (p0 := 0) (by decide) rfl rfl rfl) (m_finds 0 (by decide) _) dX7_ill_32 (Nat.le_of_ble_eq_true rfl) ⟨Nat.le_of_ble_eq_true rfl, Nat.le_of_ble_eq_true rfl⟩ ⟨rfl, rfl⟩ ?_
      exact a_iret B hr hlk dX7_ill_35 (rR_r0 (k := 0) (by unfold illX; rw [hip]; rfl) rfl rfl)
    exact absurd (show isP (M 0) p = true from bI_ne0.mp c5) (by rw [hip]; decide)
set_option maxRecDepth 20000 in
theorem m_when (p v : Int32) (M : Mem) (hI : Inv (M 0)) : CR l sk D cy A X mX7_when 7 [.ref (A 0), .int p, .int v] M (rR (whnX (M 0) p v) M M) := by
  refine Con.of (lo := [some (.ref (A 0)), some (.int p), some (.int v)]) cf_X7_when (fun _ _ => wl_fst) 0 rfl (Nat.le_of_ble_eq_true rfl) (fun Pp Ee Ss Mm Aa Bb Me Cc A0 B hr hlk => ?_)
  have B : BS sk D cy (wl A cy 11 TM X) A0 Pp Ss Mm Aa Cc RX7 cX7_when 3 := B
  rcases at_cases hI p with ⟨q, hqn, hq8, hvq, hip, hlt⟩ | ⟨hn, hip⟩
  · subst hvq
    refine a_aload_n B dX7_when_0 rfl ?_
    refine a_iload_n B dX7_when_1 rfl ?_
    refine a_callV1r B rfl cf_X7_isPriest lk_X7_123 in_X7_isPriest se_X7_isPriest (wl_rc (p0 := 0) (by decide) rfl rfl rfl) (m_isPriest _ _ hI) dX7_when_2 (Nat.le_of_ble_eq_true rfl) ⟨Nat.le_of_ble_eq_true rfl, Nat.le_of_ble_eq_true rfl⟩ ⟨rfl, rfl⟩ ?_
    refine a_if_eq 35 B dX7_when_5 (by decide) (fun c5 => ?_) (fun c5 => ?_)
    · exact absurd (show isP (M 0) (nI q) = false from bI_eq0.mp c5) (by rw [hip]; decide)
    refine a_iload_n B dX7_when_8 rfl ?_
    refine a_i2l B dX7_when_9 ?_
    refine a_lconst (v := 0) B dX7_when_10 (by decide) ?_
    refine a_ldc2 B dX7_when_11 kl_X7_157 ?_
    refine a_callS3r B rfl cf_X7_in lk_X7_42 st_X7_in (m_in v 0 999 _ _ (by first | rfl | decide) (by first | rfl | decide) _) dX7_when_14 (Nat.le_of_ble_eq_true rfl) ⟨Nat.le_of_ble_eq_true rfl, Nat.le_of_ble_eq_true rfl⟩ ⟨rfl, rfl⟩ ?_
    refine a_if_eq 35 B dX7_when_17 (by decide) (fun c17 => ?_) (fun c17 => ?_)
    · have c17 := bI_eq0.mp c17
      refine a_aload_n B dX7_when_35 rfl ?_
      refine a_iconst (v := 0) B dX7_when_36 (by decide) ?_
      refine a_callV1r B rfl cf_X7_finds lk_X7_109 in_X7_finds se_X7_finds (wl_rc (p0 := 0) (by decide) rfl rfl rfl) (m_finds 0 (by decide) _) dX7_when_37 (Nat.le_of_ble_eq_true rfl) ⟨Nat.le_of_ble_eq_true rfl, Nat.le_of_ble_eq_true rfl⟩ ⟨rfl, rfl⟩ ?_
      exact a_iret B hr hlk dX7_when_40 (rR_r0 (k := 0) (by unfold whnX; rw [show wi v 999 = false from c17, Bool.and_false]; rfl) rfl rfl)
    have c17 := bI_ne0.mp c17
    refine a_aload_n B dX7_when_20 rfl ?_
    refine a_bipush (v := 20) B dX7_when_21 (by decide) ?_
    refine a_iload_n B dX7_when_23 rfl ?_
    refine a_iadd B dX7_when_24 ?_
    refine a_iload_n B dX7_when_25 rfl ?_
    refine a_sipush (v := 999) B dX7_when_26 (by decide) ?_
    rw [show (20 : Int32) + nI q = nI (20 + q) from nI_add 20 q]
    refine a_callV3p B rfl cf_X7_firstOf lk_X7_152 in_X7_firstOf se_X7_firstOf (wl_rc (p0 := 0) (by decide) rfl rfl rfl) (m_firstOf (20 + q) (by omega) _ _ _ hI) dX7_when_29 (Nat.le_of_ble_eq_true rfl) ⟨Nat.le_of_ble_eq_true rfl, Nat.le_of_ble_eq_true rfl⟩ ⟨rfl, rfl⟩ ?_
    rw [show (fun n => bt (daysF (M 0) n (20 + q)) v 999) = whnQ (M 0) q v from funext (fun n => bt_whn hI hq8)]
    rintro v9 M9 hp9
    obtain ⟨b9, rfl⟩ := rR_v hp9
    show AW Pp l Ee _ Ss Mm Aa Bb Me Cc D _ A0 _ 0 0 _ _ _ (_ :: _) _
    refine a_goto 40 B dX7_when_32 (by decide) ?_
    exact a_iret B hr hlk dX7_when_40 (by unfold whnX; rw [hip, show wi v 999 = true from c17, if_pos (show (true && true) = true from rfl), nn_nI (show q < 2 ^ 31 by omega)]; exact hp9)
  · refine a_aload_n B dX7_when_0 rfl ?_
    refine a_iload_n B dX7_when_1 rfl ?_
    refine a_callV1r B rfl cf_X7_isPriest lk_X7_123 in_X7_isPriest se_X7_isPriest (wl_rc (p0 := 0) (by decide) rfl rfl rfl) (m_isPriest _ _ hI) dX7_when_2 (Nat.le_of_ble_eq_true rfl) ⟨Nat.le_of_ble_eq_true rfl, Nat.le_of_ble_eq_true rfl⟩ ⟨rfl, rfl⟩ ?_
    refine a_if_eq 35 B dX7_when_5 (by decide) (fun c5 => ?_) (fun c5 => ?_)
    · refine a_aload_n B dX7_when_35 rfl ?_
      refine a_iconst (v := 0) B dX7_when_36 (by decide) ?_
      refine a_callV1r B rfl cf_X7_finds lk_X7_109 in_X7_finds se_X7_finds (wl_rc (p0 := 0) (by decide) rfl rfl rfl) (m_finds 0 (by decide) _) dX7_when_37 (Nat.le_of_ble_eq_true rfl) ⟨Nat.le_of_ble_eq_true rfl, Nat.le_of_ble_eq_true rfl⟩ ⟨rfl, rfl⟩ ?_
      exact a_iret B hr hlk dX7_when_40 (rR_r0 (k := 0) (by unfold whnX; rw [hip]; rfl) rfl rfl)
    exact absurd (show isP (M 0) p = true from bI_ne0.mp c5) (by rw [hip]; decide)
end R6
