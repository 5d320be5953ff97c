section R9

theorem AM_o {M : Mem} {X : Dm} {b : Nat} (h0 : b ≠ 0) (h2 : b ≠ 2) : AM M X b = M b := by unfold AM; rw [stB_ne h0, stB_ne h2]
theorem all_mo {P : Nat → Bool} {k : Nat} (h : allN P k = false) : ∀ n, k ≤ n → allN P n = false := by
  intro n
  induction n with
  | zero => intro hn; rw [show k = 0 by omega] at h; exact h
  | succ n ih =>
    intro hn
    rcases Nat.lt_or_ge n k with h1 | h1
    · rw [show k = n + 1 by omega] at h; exact h
    · rw [allN, ih h1]; rfl
def szR (M : Mem) (t : Nat) : Nat := nn (M 7 t)
def tlR (M : Mem) (t j : Nat) : Int32 := M 8 (40 * t + j)
def szOkR (M : Mem) (t : Nat) : Prop := ∃ sz, sz ≤ 40 ∧ M 7 t = nI sz
theorem szOkR.e {M : Mem} {t : Nat} (h : szOkR M t) : szR M t ≤ 40 ∧ M 7 t = nI (szR M t) := by
  obtain ⟨n, h1, h2⟩ := h
  unfold szR
  rw [h2, nn_nI (by omega)]
  exact ⟨h1, rfl⟩
def whnR (M : Mem) (s : Int32) : Option Nat := if wi s 3 then (if M 6 (nn s) = 0 then some 5 else none) else some 0
def whyR (M : Mem) (s v : Int32) : Option Nat := match whnR M s with
  | some k => some k
  | none => if isP (M 0) v then none else some 0
theorem why_lt {M : Mem} {s v : Int32} {k : Nat} (h : whyR M s v = some k) : k < 7 := by
  unfold whyR whnR at h
  split at h
  · next hw =>
    split at hw
    · split at hw
      · injection hw with hw; injection h with h; omega
      · cases hw
    · injection hw with hw; injection h with h; omega
  · split at h
    · cases h
    · injection h with h; omega
theorem ix_num (t k : Nat) : (40 : Int32) * nI t + nI k = nI (40 * t + k) := by rw [show (40 : Int32) = nI 40 from rfl, pk_mul, nI_add]
theorem fit_up {d : Dm} (hI : Inv d) {k : Nat} : upd d (6 + todN d) (d (6 + todN d) + (nI k - rmI (d (6 + todN d)) 100)) = fitD d k := by
  obtain ⟨h6, he6⟩ := hI.tod
  obtain ⟨n, h1, h2, h3⟩ := hI.li h6
  obtain ⟨e1, e2⟩ := cf_parts h3 h1
  unfold fitD worD
  rw [e2, e1, h3, show (100 : Int32) = nI 100 from rfl, pk_mul, show nI n = nI (100 * (n / 100)) + nI (n % 100) from by rw [nI_add, Nat.div_add_mod], Int32.add_assoc, Int32.add_comm (nI (n % 100)), Int32.sub_add_cancel]
theorem fit_up2 {d : Dm} (hI : Inv d) {k : Nat} : upd d (6 + todN d) (d (6 + todN d) + (nI k - (d (6 + todN d) - d (6 + todN d) / 100 * 100))) = worD d (todN d) k := fit_up hI

variable {l : Launch} {sk : (Nat → Nat) × (Nat → Nat)} {D : va_G} {cy : Nat → ClassId} {A : Nat → Nat} {X : va_W}
set_option maxRecDepth 20000 in
theorem m_whyNone (s1 : Int32) (M : Mem) : CR l sk D cy A X mX7_whyNone 2 [.ref (A 0), .int s1] M (rI (oI (whnR M s1)) M) := by
  refine Con.of (lo := [some (.ref (A 0)), some (.int s1)]) cf_X7_whyNone (fun _ _ => wl_fst) 0 rfl (Nat.le_of_ble_eq_true rfl) (fun Pp Ee Ss Mm Aa Bb Me Cc A0 B hr hlk => ?_)
  have B : BS sk D cy (wl A cy 11 TM X) A0 Pp Ss Mm Aa Cc RX7 cX7_whyNone 2 := B
  refine a_iload_n B dX7_whyNone_0 rfl ?_
  refine a_callS1r B rfl cf_X7_isSheet lk_X7_295 st_X7_isSheet (m_isSheet _ _) dX7_whyNone_1 (Nat.le_of_ble_eq_true rfl) ⟨Nat.le_of_ble_eq_true rfl, Nat.le_of_ble_eq_true rfl⟩ ⟨rfl, rfl⟩ ?_
  refine a_if_ne 11 B dX7_whyNone_4 (by decide) (fun c4 => ?_) (fun c4 => ?_)
  · have c4 := bI_ne0.mp c4
    obtain ⟨t, htt, hte⟩ := wi_T (t := 3) c4 (by omega)
    subst hte
    have ent : nn (nI t) = t := nn_nI (by omega)
    refine a_aload_n B dX7_whyNone_11 rfl ?_
    refine a_getR B fl_X7_29 (by decide) rfl rfl dX7_whyNone_12 ?_
    refine a_iload_n B dX7_whyNone_15 rfl ?_
    refine a_iald t B (by decide) rfl rfl (by omega) (by decide) dX7_whyNone_16 ?_
    refine a_if_ne 24 B dX7_whyNone_17 (by decide) (fun c17 => ?_) (fun c17 => ?_)
    · refine a_iconst (v := (-1)) B dX7_whyNone_24 (by decide) ?_
      exact a_iret B hr hlk dX7_whyNone_25 ⟨congrArg (fun z => some (Value.int z)) (by unfold whnR; rw [show wi (nI t) 3 = true from c4, if_pos rfl, ent, if_neg (by have h := c17; rw [Nat.zero_add] at h; exact h)]; rfl), rfl⟩
    refine a_iconst (v := 5) B dX7_whyNone_20 (by decide) ?_
    refine a_goto 25 B dX7_whyNone_21 (by decide) ?_
    exact a_iret B hr hlk dX7_whyNone_25 ⟨congrArg (fun z => some (Value.int z)) (by unfold whnR; rw [show wi (nI t) 3 = true from c4, if_pos rfl, ent, if_pos (by have h := c17; rw [Nat.zero_add] at h; exact h)]; rfl), rfl⟩
  have c4 := bI_eq0.mp c4
  refine a_iconst (v := 0) B dX7_whyNone_7 (by decide) ?_
  refine a_goto 25 B dX7_whyNone_8 (by decide) ?_
  exact a_iret B hr hlk dX7_whyNone_25 ⟨congrArg (fun z => some (Value.int z)) (by unfold whnR; rw [show wi s1 3 = false from c4]; rfl), rfl⟩
set_option maxRecDepth 20000 in
theorem m_whyNot (s1 p : Int32) (M : Mem) (hI : Inv (M 0)) : CR l sk D cy A X mX7_whyNot 3 [.ref (A 0), .int s1, .int p] M (rI (oI (whyR M s1 p)) M) := by
  refine Con.of (lo := [some (.ref (A 0)), some (.int s1), some (.int p), none]) cf_X7_whyNot (fun _ _ => wl_fst) 1 rfl (Nat.le_of_ble_eq_true rfl) (fun Pp Ee Ss Mm Aa Bb Me Cc A0 B hr hlk => ?_)
  have B : BS sk D cy (wl A cy 11 TM X) A0 Pp Ss Mm Aa Cc RX7 cX7_whyNot 4 := B
  refine a_aload_n B dX7_whyNot_0 rfl ?_
  refine a_iload_n B dX7_whyNot_1 rfl ?_
  refine a_callV1r B rfl cf_X7_whyNone lk_X7_171 in_X7_whyNone se_X7_whyNone (wl_rc (p0 := 0) (by decide) rfl rfl rfl) (m_whyNone _ _) dX7_whyNot_2 (Nat.le_of_ble_eq_true rfl) ⟨Nat.le_of_ble_eq_true rfl, Nat.le_of_ble_eq_true rfl⟩ ⟨rfl, rfl⟩ ?_
  refine p_istore3 B dX7_whyNot_5 (by decide) (k := ?_)
  rcases hw : whnR M s1 with _ | k
  · rw [oI_n]
    refine a_iload_n B dX7_whyNot_6 rfl ?_
    refine a_if_lt 14 B dX7_whyNot_7 (by decide) (fun c7 => ?_) (fun c7 => ?_)
    · refine a_aload_n B dX7_whyNot_14 rfl ?_
      refine a_iload_n B dX7_whyNot_15 rfl ?_
      refine a_callV1r B rfl cf_X7_isPriest lk_X7_123 in_X7_isPriest se_X7_isPriest (wl_rc (p0 := 0) (by decide) rfl rfl rfl) (m_isPriest _ _ hI) dX7_whyNot_16 (Nat.le_of_ble_eq_true rfl) ⟨Nat.le_of_ble_eq_true rfl, Nat.le_of_ble_eq_true rfl⟩ ⟨rfl, rfl⟩ ?_
      refine a_if_eq 26 B dX7_whyNot_19 (by decide) (fun c19 => ?_) (fun c19 => ?_)
      · have c19 := bI_eq0.mp c19
        refine a_iconst (v := 0) B dX7_whyNot_26 (by decide) ?_
        exact a_iret B hr hlk dX7_whyNot_27 ⟨congrArg (fun z => some (Value.int z)) (by unfold whyR; rw [hw]; simp only [c19]; rfl), rfl⟩
      have c19 := bI_ne0.mp c19
      refine a_iconst (v := (-1)) B dX7_whyNot_22 (by decide) ?_
      refine a_goto 27 B dX7_whyNot_23 (by decide) ?_
      exact a_iret B hr hlk dX7_whyNot_27 ⟨congrArg (fun z => some (Value.int z)) (by unfold whyR; rw [hw]; simp only [c19]; rfl), rfl⟩
    exact absurd (show (-1 : Int32) < 0 by decide) c7
  · have hk7 : k < 7 := why_lt (M := M) (s := s1) (v := p) (by unfold whyR; rw [hw])
    rw [oI_s]
    refine a_iload_n B dX7_whyNot_6 rfl ?_
    refine a_if_lt 14 B dX7_whyNot_7 (by decide) (fun c7 => ?_) (fun c7 => ?_)
    · exact absurd c7 (nI_pos (by omega))
    refine a_iload_n B dX7_whyNot_10 rfl ?_
    refine a_goto 27 B dX7_whyNot_11 (by decide) ?_
    exact a_iret B hr hlk dX7_whyNot_27 ⟨congrArg (fun z => some (Value.int z)) (by unfold whyR; rw [hw]; rfl), rfl⟩
set_option maxRecDepth 20000 in
set_option maxHeartbeats 4000000 in
theorem m_isTold (t q : Nat) (ht : t < 4) (hq8 : q < 8) (M : Mem) (Y : Dm) (hI : Inv Y) (hY : ∀ j, 70 ≤ j → Y j = M 0 j) (hz : szOkR M t) : CR l sk D cy A X mX7_isTold 7 [.ref (A 0), .int (nI t), .int (nI q)] (AM M Y) (rI (bI (allN (asT Y q (tlR M t)) (szR M t))) (AM M (M 0))) := by
  refine Con.of (lo := [some (.ref (A 0)), some (.int (nI t)), some (.int (nI q)), none, none, none]) cf_X7_isTold (fun _ _ => wl_fst) 3 rfl (Nat.le_of_ble_eq_true rfl) (fun Pp Ee Ss Mm Aa Bb Me Cc A0 B hr hlk => ?_)
  have B : BS sk D cy (wl A cy 11 TM X) A0 Pp Ss Mm Aa Cc RX7 cX7_isTold 6 := B
  obtain ⟨hz1, hz2⟩ := hz.e
  have loop : ∀ n k o5, szR M t + 1 ≤ k + n → k ≤ szR M t → AW Pp l Ee (rmK 7 (34 * 7)) Ss Mm Aa Bb Me Cc D (wl A cy 11 TM X) A0 6 0 0 (MQ Bb (QG D (wl A cy 11 TM X) A0 (rI (bI (allN (asT Y q (tlR M t)) (szR M t))) (AM M (M 0)))) Aa Ss 0 0 A0) 5 [some (.ref (A 0)), some (.int (nI t)), some (.int (nI q)), some (.int (bI (allN (asT Y q (tlR M t)) k))), some (.int (nI k)), o5] [] (AM M (daysF Y k)) := by
    intro n
    induction n with
    | zero => intro k o5 h1 h2; omega
    | succ n ih =>
      intro k o5 h1 h2
      refine a_iload B dX7_isTold_5 rfl ?_
      refine a_aload_n B dX7_isTold_7 rfl ?_
      refine a_getR B fl_X7_32 (by decide) rfl rfl dX7_isTold_8 ?_
      refine a_iload_n B dX7_isTold_11 rfl ?_
      refine a_iald t B (by decide) rfl rfl (by omega) (by decide) dX7_isTold_12 ?_
      rw [show AM M (daysF Y k) 7 (0 + t) = nI (szR M t) from by rw [AM_o (by decide) (by decide), Nat.zero_add]; exact hz2]
      refine a_icmp_ge 67 B dX7_isTold_13 (by decide) (fun c13 => ?_) (fun c13 => ?_)
      · have e1 : k = szR M t := by have := (nI_leI (a := szR M t) (b := k) (by omega) (by omega)).mp c13; omega
        refine a_aload_n B dX7_isTold_67 rfl ?_
        refine a_getR B fl_X7_16 (by decide) rfl rfl dX7_isTold_68 ?_
        refine a_aload_n B dX7_isTold_71 rfl ?_
        refine a_getR B fl_X7_7 (by decide) rfl rfl dX7_isTold_72 ?_
        refine a_callS2v B rfl cf_X7_copies lk_X7_146 st_X7_copies (m_back M _ (hi_days hI hY k)) dX7_isTold_75 (Nat.le_of_ble_eq_true rfl) ⟨Nat.le_of_ble_eq_true rfl, Nat.le_of_ble_eq_true rfl⟩ ⟨rfl, rfl⟩ ?_
        refine a_iload_n B dX7_isTold_78 rfl ?_
        exact a_zret B hr hlk (nar_b _) dX7_isTold_79 ⟨by rw [e1], rfl⟩
      have hlt0 : k < szR M t := (nI_ltI (a := k) (b := szR M t) (by omega) (by omega)).mp (Int32.not_le.mp c13)
      refine a_iload_n B dX7_isTold_16 rfl ?_
      refine a_if_eq 67 B dX7_isTold_17 (by decide) (fun c17 => ?_) (fun c17 => ?_)
      · have c17 := bI_eq0.mp c17
        refine a_aload_n B dX7_isTold_67 rfl ?_
        refine a_getR B fl_X7_16 (by decide) rfl rfl dX7_isTold_68 ?_
        refine a_aload_n B dX7_isTold_71 rfl ?_
        refine a_getR B fl_X7_7 (by decide) rfl rfl dX7_isTold_72 ?_
        refine a_callS2v B rfl cf_X7_copies lk_X7_146 st_X7_copies (m_back M _ (hi_days hI hY k)) dX7_isTold_75 (Nat.le_of_ble_eq_true rfl) ⟨Nat.le_of_ble_eq_true rfl, Nat.le_of_ble_eq_true rfl⟩ ⟨rfl, rfl⟩ ?_
        refine a_iload_n B dX7_isTold_78 rfl ?_
        exact a_zret B hr hlk (nar_b _) dX7_isTold_79 ⟨by rw [c17, all_mo c17 (szR M t) (by omega)], rfl⟩
      have c17 := bI_ne0.mp c17
      refine a_aload_n B dX7_isTold_20 rfl ?_
      refine a_getR B fl_X7_35 (by decide) rfl rfl dX7_isTold_21 ?_
      refine a_bipush (v := 40) B dX7_isTold_24 (by decide) ?_
      refine a_iload_n B dX7_isTold_26 rfl ?_
      refine a_imul B dX7_isTold_27 ?_
      refine a_iload B dX7_isTold_28 rfl ?_
      refine a_iadd B dX7_isTold_30 ?_
      refine a_iald (40 * t + k) B (by decide) rfl (ix_num t k) (by omega) (by decide) dX7_isTold_31 ?_
      rw [show AM M (daysF Y k) 8 (0 + (40 * t + k)) = tlR M t k from by rw [AM_o (by decide) (by decide), Nat.zero_add]; rfl]
      refine p_istore5 B dX7_isTold_32 (by decide) (k := ?_)
      refine a_iload B dX7_isTold_34 rfl ?_
      refine a_iconst (v := (-1)) B dX7_isTold_36 (by decide) ?_
      refine a_icmp_eq 51 B dX7_isTold_37 (by decide) (fun c37 => ?_) (fun c37 => ?_)
      · refine a_iconst (v := 1) B dX7_isTold_51 (by decide) ?_
        refine a_goto 56 B dX7_isTold_52 (by decide) ?_
        refine p_istore3 B dX7_isTold_56 (by decide) (k := ?_)
        refine a_aload_n B dX7_isTold_57 rfl ?_
        refine a_callV0v B rfl cf_X7_dayGoes lk_X7_98 in_X7_dayGoes se_X7_dayGoes (wl_rc (p0 := 0) (by decide) rfl rfl rfl) (m_dayA M _ (Inv.vDays hI k)) dX7_isTold_58 (Nat.le_of_ble_eq_true rfl) ⟨Nat.le_of_ble_eq_true rfl, Nat.le_of_ble_eq_true rfl⟩ ⟨rfl, rfl⟩ ?_
        refine p_iinc4 1 B dX7_isTold_61 (by decide) (by decide) (k := ?_)
        refine a_goto 5 B dX7_isTold_64 (by decide) ?_
        rw [nI_1]
        have hv : asT Y q (tlR M t) k = true := by unfold asT; rw [decide_eq_true (show tlR M t k = -1 from c37)]; rfl
        have hn : bI (allN (asT Y q (tlR M t)) (k + 1)) = 1 := by rw [allN, c17, hv]; rfl
        have hih := fun o => ih (k + 1) o (by omega) (by omega)
        rw [hn] at hih
        exact hih _
      refine a_iload B dX7_isTold_40 rfl ?_
      refine a_aload_n B dX7_isTold_42 rfl ?_
      refine a_iload_n B dX7_isTold_43 rfl ?_
      refine a_iconst (v := 1) B dX7_isTold_44 (by decide) ?_
      refine a_callV2r B rfl cf_X7_its lk_X7_54 in_X7_its se_X7_its (wl_rc (p0 := 0) (by decide) rfl rfl rfl) (m_its q 1 (20 + q) (by omega) (by decide) (by omega) _) dX7_isTold_45 (Nat.le_of_ble_eq_true rfl) ⟨Nat.le_of_ble_eq_true rfl, Nat.le_of_ble_eq_true rfl⟩ ⟨rfl, rfl⟩ ?_
      rw [AM_0]
      refine a_icmp_ne 55 B dX7_isTold_48 (by decide) (fun c48 => ?_) (fun c48 => ?_)
      · refine a_iconst (v := 0) B dX7_isTold_55 (by decide) ?_
        refine p_istore3 B dX7_isTold_56 (by decide) (k := ?_)
        refine a_aload_n B dX7_isTold_57 rfl ?_
        refine a_callV0v B rfl cf_X7_dayGoes lk_X7_98 in_X7_dayGoes se_X7_dayGoes (wl_rc (p0 := 0) (by decide) rfl rfl rfl) (m_dayA M _ (Inv.vDays hI k)) dX7_isTold_58 (Nat.le_of_ble_eq_true rfl) ⟨Nat.le_of_ble_eq_true rfl, Nat.le_of_ble_eq_true rfl⟩ ⟨rfl, rfl⟩ ?_
        refine p_iinc4 1 B dX7_isTold_61 (by decide) (by decide) (k := ?_)
        refine a_goto 5 B dX7_isTold_64 (by decide) ?_
        rw [nI_1]
        have hv : asT Y q (tlR M t) k = false := by unfold asT; rw [decide_eq_false (show ¬ tlR M t k = -1 from c37), decide_eq_false (show ¬ tlR M t k = daysF Y k (20 + q) from c48)]; rfl
        have hn : bI (allN (asT Y q (tlR M t)) (k + 1)) = 0 := by rw [allN, c17, hv]; rfl
        have hih := fun o => ih (k + 1) o (by omega) (by omega)
        rw [hn] at hih
        exact hih _
      refine a_iconst (v := 1) B dX7_isTold_51 (by decide) ?_
      refine a_goto 56 B dX7_isTold_52 (by decide) ?_
      refine p_istore3 B dX7_isTold_56 (by decide) (k := ?_)
      refine a_aload_n B dX7_isTold_57 rfl ?_
      refine a_callV0v B rfl cf_X7_dayGoes lk_X7_98 in_X7_dayGoes se_X7_dayGoes (wl_rc (p0 := 0) (by decide) rfl rfl rfl) (m_dayA M _ (Inv.vDays hI k)) dX7_isTold_58 (Nat.le_of_ble_eq_true rfl) ⟨Nat.le_of_ble_eq_true rfl, Nat.le_of_ble_eq_true rfl⟩ ⟨rfl, rfl⟩ ?_
      refine p_iinc4 1 B dX7_isTold_61 (by decide) (by decide) (k := ?_)
      refine a_goto 5 B dX7_isTold_64 (by decide) ?_
      rw [nI_1]
      have hv : asT Y q (tlR M t) k = true := by unfold asT; rw [decide_eq_true (show tlR M t k = daysF Y k (20 + q) from c48), Bool.or_true]
      have hn : bI (allN (asT Y q (tlR M t)) (k + 1)) = 1 := by rw [allN, c17, hv]; rfl
      have hih := fun o => ih (k + 1) o (by omega) (by omega)
      rw [hn] at hih
      exact hih _
  refine a_iconst (v := 1) B dX7_isTold_0 (by decide) ?_
  refine p_istore3 B dX7_isTold_1 (by decide) (k := ?_)
  refine a_iconst (v := 0) B dX7_isTold_2 (by decide) ?_
  refine p_istore4 B dX7_isTold_3 (by decide) (k := ?_)
  exact loop (szR M t + 1) 0 _ (by omega) (by omega)
set_option maxRecDepth 20000 in
theorem m_isOf (t q k : Nat) (ht : t < 4) (hq8 : q < 8) (hk : k ≤ 40) (M : Mem) (hI : Inv (M 0)) (hz : szOkR M t) : CR l sk D cy A X mX7_isOf 8 [.ref (A 0), .int (nI t), .int (nI q), .int (nI k)] (AM M (M 0)) (rI (bI (fitQ (M 0) q (tlR M t) (szR M t) k)) (AM M (M 0))) := by
  refine Con.of (lo := [some (.ref (A 0)), some (.int (nI t)), some (.int (nI q)), some (.int (nI k))]) cf_X7_isOf (fun _ _ => wl_fst) 0 rfl (Nat.le_of_ble_eq_true rfl) (fun Pp Ee Ss Mm Aa Bb Me Cc A0 B hr hlk => ?_)
  have B : BS sk D cy (wl A cy 11 TM X) A0 Pp Ss Mm Aa Cc RX7 cX7_isOf 4 := B
  obtain ⟨h6, he6⟩ := hI.tod
  have hI0 : Inv (AM M (M 0) 0) := by rw [AM_0]; exact hI
  refine a_aload_n B dX7_isOf_0 rfl ?_
  refine a_getR B fl_X7_7 (by decide) rfl rfl dX7_isOf_1 ?_
  refine a_aload_n B dX7_isOf_4 rfl ?_
  refine a_callV0r B rfl cf_X7_todays lk_X7_83 in_X7_todays se_X7_todays (wl_rc (p0 := 0) (by decide) rfl rfl rfl) (m_todays _ hI0) dX7_isOf_5 (Nat.le_of_ble_eq_true rfl) ⟨Nat.le_of_ble_eq_true rfl, Nat.le_of_ble_eq_true rfl⟩ ⟨rfl, rfl⟩ ?_
  rw [AM_0]
  refine a_dup2 B dX7_isOf_8 rfl rfl ?_
  refine a_iald (6 + todN (M 0)) B (by decide) rfl rfl (by omega) (by decide) dX7_isOf_9 ?_
  refine a_iload_n B dX7_isOf_10 rfl ?_
  refine a_aload_n B dX7_isOf_11 rfl ?_
  refine a_getR B fl_X7_7 (by decide) rfl rfl dX7_isOf_12 ?_
  refine a_aload_n B dX7_isOf_15 rfl ?_
  refine a_callV0r B rfl cf_X7_todays lk_X7_83 in_X7_todays se_X7_todays (wl_rc (p0 := 0) (by decide) rfl rfl rfl) (m_todays _ hI0) dX7_isOf_16 (Nat.le_of_ble_eq_true rfl) ⟨Nat.le_of_ble_eq_true rfl, Nat.le_of_ble_eq_true rfl⟩ ⟨rfl, rfl⟩ ?_
  rw [AM_0]
  refine a_iald (6 + todN (M 0)) B (by decide) rfl rfl (by omega) (by decide) dX7_isOf_19 ?_
  refine a_bipush (v := 100) B dX7_isOf_20 (by decide) ?_
  refine a_irem B dX7_isOf_22 (by decide) ?_
  refine a_isub B dX7_isOf_23 ?_
  refine a_iadd B dX7_isOf_24 ?_
  refine a_iast (6 + todN (M 0)) B twM (by decide) rfl rfl (by omega) (by decide) dX7_isOf_25 ?_
  refine a_aload_n B dX7_isOf_26 rfl ?_
  refine a_iload_n B dX7_isOf_27 rfl ?_
  refine a_iload_n B dX7_isOf_28 rfl ?_
  rw [AM_u, Nat.zero_add (6 + todN (M 0)), show AM M (M 0) 0 = M 0 from AM_0, fit_up2 hI]
  refine a_callV2r B rfl cf_X7_isTold lk_X7_174 in_X7_isTold se_X7_isTold (wl_rc (p0 := 0) (by decide) rfl rfl rfl) (m_isTold t q ht hq8 M _ (hI.wor h6 hk) (fun x hx => pk_un (by omega)) hz) dX7_isOf_29 (Nat.le_of_ble_eq_true rfl) ⟨Nat.le_of_ble_eq_true rfl, Nat.le_of_ble_eq_true rfl⟩ ⟨rfl, rfl⟩ ?_
  exact a_zret B hr hlk (nar_b _) dX7_isOf_32 ⟨rfl, rfl⟩
end R9
