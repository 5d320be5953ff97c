section R10

def cntN (P : Nat → Bool) : Nat → Int32
  | 0 => 0
  | k + 1 => cntN P k + bI (P k)
theorem why_n {M : Mem} {s v : Int32} (hI : Inv (M 0)) (h : whyR M s v = none) : ∃ t q, t < 4 ∧ s = nI t ∧ q < 8 ∧ v = nI q := by
  unfold whyR at h
  split at h
  · cases h
  · next hw =>
    unfold whnR at hw
    split at hw
    · next hs =>
      obtain ⟨t, ht, et⟩ := wi_T (t := 3) hs (by omega)
      rcases at_cases hI v with ⟨q, hqn, hq8, hvq, hip, hlt⟩ | ⟨hn, hip⟩
      · exact ⟨t, q, by omega, et, hq8, hvq⟩
      · rw [hip] at h; cases h
    · cases hw
def fiQR (M : Mem) (s v : Int32) : Nat → Bool := fitQ (M 0) (nn v) (tlR M (nn s)) (szR M (nn s))
def fitR (M : Mem) (s v : Int32) : Oc := match whyR M s v with
  | some k => .inr k
  | none => .inl (cntN (fiQR M s v) 41)
def wrdR (M : Mem) (s v : Int32) : Oc := match whyR M s v with
  | some k => .inr k
  | none => nS (fstN (fiQR M s v) 41)
def kndR (M : Mem) (s v : Int32) : Oc := match whyR M s v with
  | some k => .inr k
  | none => .inl (mskI (knQ (M 0) (nn v) (tlR M (nn s)) (szR M (nn s))) 7)

variable {l : Launch} {sk : (Nat → Nat) × (Nat → Nat)} {D : va_G} {cy : Nat → ClassId} {A : Nat → Nat} {X : va_W}
set_option maxRecDepth 20000 in
theorem m_fits (s1 p : Int32) (M : Mem) (hI : Inv (M 0)) (hZ : ∀ t, t < 4 → szOkR M t) : CR l sk D cy A X mX7_fits 9 [.ref (A 0), .int s1, .int p] M (rR (fitR M s1 p) M M) := by
  refine Con.of (lo := [some (.ref (A 0)), some (.int s1), some (.int p), none, none, none]) cf_X7_fits (fun _ _ => wl_fst) 3 rfl (Nat.le_of_ble_eq_true rfl) (fun Pp Ee Ss Mm Aa Bb Me Cc A0 B hr hlk => ?_)
  have B : BS sk D cy (wl A cy 11 TM X) A0 Pp Ss Mm Aa Cc RX7 cX7_fits 6 := B
  refine a_aload_n B dX7_fits_0 rfl ?_
  refine a_iload_n B dX7_fits_1 rfl ?_
  refine a_iload_n B dX7_fits_2 rfl ?_
  refine a_callV2r B rfl cf_X7_whyNot lk_X7_178 in_X7_whyNot se_X7_whyNot (wl_rc (p0 := 0) (by decide) rfl rfl rfl) (m_whyNot _ _ _ hI) dX7_fits_3 (Nat.le_of_ble_eq_true rfl) ⟨Nat.le_of_ble_eq_true rfl, Nat.le_of_ble_eq_true rfl⟩ ⟨rfl, rfl⟩ ?_
  refine p_istore3 B dX7_fits_6 (by decide) (k := ?_)
  rcases hw : whyR M s1 p with _ | k9
  · obtain ⟨t, q, ht, hs1, hq8, hp1⟩ := why_n hI hw
    subst hs1
    subst hp1
    rw [oI_n]
    refine a_iload_n B dX7_fits_7 rfl ?_
    refine a_if_lt 17 B dX7_fits_8 (by decide) (fun c8 => ?_) (fun c8 => ?_)
    · refine a_aload_n B dX7_fits_17 rfl ?_
      refine a_getR B fl_X7_7 (by decide) rfl rfl dX7_fits_18 ?_
      refine a_aload_n B dX7_fits_21 rfl ?_
      refine a_getR B fl_X7_16 (by decide) rfl rfl dX7_fits_22 ?_
      refine a_callS2v B rfl cf_X7_copies lk_X7_146 st_X7_copies (m_aside M) dX7_fits_25 (Nat.le_of_ble_eq_true rfl) ⟨Nat.le_of_ble_eq_true rfl, Nat.le_of_ble_eq_true rfl⟩ ⟨rfl, rfl⟩ ?_
      refine a_iconst (v := 0) B dX7_fits_28 (by decide) ?_
      refine p_istore4 B dX7_fits_29 (by decide) (k := ?_)
      refine a_iconst (v := 0) B dX7_fits_31 (by decide) ?_
      refine p_istore5 B dX7_fits_32 (by decide) (k := ?_)
      have hz := hZ t ht
      have et : nn (nI t) = t := nn_nI (by omega)
      have eq8 : nn (nI q) = q := nn_nI (by omega)
      have hfq : fiQR M (nI t) (nI q) = fitQ (M 0) q (tlR M t) (szR M t) := by unfold fiQR; rw [et, eq8]
      have loop : ∀ n k, 42 ≤ k + n → k ≤ 41 → AW Pp l Ee (rmK 9 (34 * 9)) Ss Mm Aa Bb Me Cc D (wl A cy 11 TM X) A0 6 0 0 (MQ Bb (QG D (wl A cy 11 TM X) A0 (rR (fitR M (nI t) (nI q)) M M)) Aa Ss 0 0 A0) 34 [some (.ref (A 0)), some (.int (nI t)), some (.int (nI q)), some (.int (-1)), some (.int (cntN (fitQ (M 0) q (tlR M t) (szR M t)) k)), some (.int (nI k))] [] (AM M (M 0)) := by
        intro n
        induction n with
        | zero => intro k h1 h2; omega
        | succ n ih =>
          intro k h1 h2
          refine a_iload B dX7_fits_34 rfl ?_
          refine a_bipush (v := 40) B dX7_fits_36 (by decide) ?_
          refine a_icmp_gt 68 B dX7_fits_38 (by decide) (fun c38 => ?_) (fun c38 => ?_)
          · have e41 : k = 41 := by have := (nI_ltI (a := 40) (b := k) (by omega) (by omega)).mp c38; omega
            subst e41
            refine a_iload B dX7_fits_68 rfl ?_
            exact a_iret B hr hlk dX7_fits_70 (rR_l (by unfold fitR; rw [hw, hfq]) AM_q)
          have hk40 : k ≤ 40 := Nat.le_of_not_lt (fun q9 => c38 ((nI_ltI (a := 40) (by omega) (by omega)).mpr q9))
          refine a_iload B dX7_fits_41 rfl ?_
          refine a_aload_n B dX7_fits_43 rfl ?_
          refine a_iload_n B dX7_fits_44 rfl ?_
          refine a_iload_n B dX7_fits_45 rfl ?_
          refine a_iload B dX7_fits_46 rfl ?_
          refine a_callV3r B rfl cf_X7_isOf lk_X7_181 in_X7_isOf se_X7_isOf (wl_rc (p0 := 0) (by decide) rfl rfl rfl) (m_isOf t q k ht hq8 (by omega) M hI hz) dX7_fits_48 (Nat.le_of_ble_eq_true rfl) ⟨Nat.le_of_ble_eq_true rfl, Nat.le_of_ble_eq_true rfl⟩ ⟨rfl, rfl⟩ ?_
          refine a_if_eq 58 B dX7_fits_51 (by decide) (fun c51 => ?_) (fun c51 => ?_)
          · have c51 := bI_eq0.mp c51
            refine a_iconst (v := 0) B dX7_fits_58 (by decide) ?_
            refine a_iadd B dX7_fits_59 ?_
            refine p_istore4 B dX7_fits_60 (by decide) (k := ?_)
            refine p_iinc5 1 B dX7_fits_62 (by decide) (by decide) (k := ?_)
            refine a_goto 34 B dX7_fits_65 (by decide) ?_
            rw [nI_1]
            have hc : cntN (fitQ (M 0) q (tlR M t) (szR M t)) k + 0 = cntN (fitQ (M 0) q (tlR M t) (szR M t)) (k + 1) := by rw [cntN, c51]; rfl
            rw [hc]
            exact ih (k + 1) (by omega) (by omega)
          have c51 := bI_ne0.mp c51
          refine a_iconst (v := 1) B dX7_fits_54 (by decide) ?_
          refine a_goto 59 B dX7_fits_55 (by decide) ?_
          refine a_iadd B dX7_fits_59 ?_
          refine p_istore4 B dX7_fits_60 (by decide) (k := ?_)
          refine p_iinc5 1 B dX7_fits_62 (by decide) (by decide) (k := ?_)
          refine a_goto 34 B dX7_fits_65 (by decide) ?_
          rw [nI_1]
          have hc : cntN (fitQ (M 0) q (tlR M t) (szR M t)) k + 1 = cntN (fitQ (M 0) q (tlR M t) (szR M t)) (k + 1) := by rw [cntN, c51]; rfl
          rw [hc]
          exact ih (k + 1) (by omega) (by omega)
      exact loop 42 0 (by omega) (by omega)
    exact absurd (show (-1 : Int32) < 0 by decide) c8
  · have hk9 := why_lt hw
    rw [oI_s]
    refine a_iload_n B dX7_fits_7 rfl ?_
    refine a_if_lt 17 B dX7_fits_8 (by decide) (fun c8 => ?_) (fun c8 => ?_)
    · exact absurd c8 (nI_pos (by omega))
    refine a_aload_n B dX7_fits_11 rfl ?_
    refine a_iload_n B dX7_fits_12 rfl ?_
    refine a_callV1r B rfl cf_X7_finds lk_X7_109 in_X7_finds se_X7_finds (wl_rc (p0 := 0) (by decide) rfl rfl rfl) (m_finds k9 hk9 _) dX7_fits_13 (Nat.le_of_ble_eq_true rfl) ⟨Nat.le_of_ble_eq_true rfl, Nat.le_of_ble_eq_true rfl⟩ ⟨rfl, rfl⟩ ?_
    exact a_iret B hr hlk dX7_fits_16 (rR_r0 (k := k9) (by unfold fitR; rw [hw]) rfl rfl)
set_option maxRecDepth 20000 in
theorem m_words (s1 p : Int32) (M : Mem) (hI : Inv (M 0)) (hZ : ∀ t, t < 4 → szOkR M t) : CR l sk D cy A X mX7_words 9 [.ref (A 0), .int s1, .int p] M (rR (wrdR M s1 p) M M) := by
  refine Con.of (lo := [some (.ref (A 0)), some (.int s1), some (.int p), none, none]) cf_X7_words (fun _ _ => wl_fst) 2 rfl (Nat.le_of_ble_eq_true rfl) (fun Pp Ee Ss Mm Aa Bb Me Cc A0 B hr hlk => ?_)
  have B : BS sk D cy (wl A cy 11 TM X) A0 Pp Ss Mm Aa Cc RX7 cX7_words 5 := B
  refine a_aload_n B dX7_words_0 rfl ?_
  refine a_iload_n B dX7_words_1 rfl ?_
  refine a_iload_n B dX7_words_2 rfl ?_
  refine a_callV2r B rfl cf_X7_whyNot lk_X7_178 in_X7_whyNot se_X7_whyNot (wl_rc (p0 := 0) (by decide) rfl rfl rfl) (m_whyNot _ _ _ hI) dX7_words_3 (Nat.le_of_ble_eq_true rfl) ⟨Nat.le_of_ble_eq_true rfl, Nat.le_of_ble_eq_true rfl⟩ ⟨rfl, rfl⟩ ?_
  refine p_istore3 B dX7_words_6 (by decide) (k := ?_)
  rcases hw : whyR M s1 p with _ | k9
  · obtain ⟨t, q, ht, hs1, hq8, hp1⟩ := why_n hI hw
    subst hs1
    subst hp1
    rw [oI_n]
    refine a_iload_n B dX7_words_7 rfl ?_
    refine a_if_lt 17 B dX7_words_8 (by decide) (fun c8 => ?_) (fun c8 => ?_)
    · refine a_aload_n B dX7_words_17 rfl ?_
      refine a_getR B fl_X7_7 (by decide) rfl rfl dX7_words_18 ?_
      refine a_aload_n B dX7_words_21 rfl ?_
      refine a_getR B fl_X7_16 (by decide) rfl rfl dX7_words_22 ?_
      refine a_callS2v B rfl cf_X7_copies lk_X7_146 st_X7_copies (m_aside M) dX7_words_25 (Nat.le_of_ble_eq_true rfl) ⟨Nat.le_of_ble_eq_true rfl, Nat.le_of_ble_eq_true rfl⟩ ⟨rfl, rfl⟩ ?_
      refine a_iconst (v := 0) B dX7_words_28 (by decide) ?_
      refine p_istore4 B dX7_words_29 (by decide) (k := ?_)
      have hz := hZ t ht
      have et : nn (nI t) = t := nn_nI (by omega)
      have eq8 : nn (nI q) = q := nn_nI (by omega)
      have hfq : fiQR M (nI t) (nI q) = fitQ (M 0) q (tlR M t) (szR M t) := by unfold fiQR; rw [et, eq8]
      have loop : ∀ n k, 42 ≤ k + n → k ≤ 41 → fstN (fitQ (M 0) q (tlR M t) (szR M t)) k = none → AW Pp l Ee (rmK 9 (34 * 9)) Ss Mm Aa Bb Me Cc D (wl A cy 11 TM X) A0 5 0 0 (MQ Bb (QG D (wl A cy 11 TM X) A0 (rR (wrdR M (nI t) (nI q)) M M)) Aa Ss 0 0 A0) 31 [some (.ref (A 0)), some (.int (nI t)), some (.int (nI q)), some (.int (-1)), some (.int (nI k))] [] (AM M (M 0)) := by
        intro n
        induction n with
        | zero => intro k h1 h2; omega
        | succ n ih =>
          intro k h1 h2 h3
          refine a_iload B dX7_words_31 rfl ?_
          refine a_bipush (v := 40) B dX7_words_33 (by decide) ?_
          refine a_icmp_gt 58 B dX7_words_35 (by decide) (fun c35 => ?_) (fun c35 => ?_)
          · have e41 : k = 41 := by have := (nI_ltI (a := 40) (b := k) (by omega) (by omega)).mp c35; omega
            subst e41
            refine a_aload_n B dX7_words_58 rfl ?_
            refine a_iconst (v := 3) B dX7_words_59 (by decide) ?_
            refine a_callV1r B rfl cf_X7_finds lk_X7_109 in_X7_finds se_X7_finds (wl_rc (p0 := 0) (by decide) rfl rfl rfl) (m_finds 3 (by decide) _) dX7_words_60 (Nat.le_of_ble_eq_true rfl) ⟨Nat.le_of_ble_eq_true rfl, Nat.le_of_ble_eq_true rfl⟩ ⟨rfl, rfl⟩ ?_
            exact a_iret B hr hlk dX7_words_63 (rR_r (k := 3) (by unfold wrdR; rw [hw, hfq, h3]; rfl) rfl AM_f)
          have hk40 : k ≤ 40 := Nat.le_of_not_lt (fun q9 => c35 ((nI_ltI (a := 40) (by omega) (by omega)).mpr q9))
          refine a_aload_n B dX7_words_38 rfl ?_
          refine a_iload_n B dX7_words_39 rfl ?_
          refine a_iload_n B dX7_words_40 rfl ?_
          refine a_iload B dX7_words_41 rfl ?_
          refine a_callV3r B rfl cf_X7_isOf lk_X7_181 in_X7_isOf se_X7_isOf (wl_rc (p0 := 0) (by decide) rfl rfl rfl) (m_isOf t q k ht hq8 (by omega) M hI hz) dX7_words_43 (Nat.le_of_ble_eq_true rfl) ⟨Nat.le_of_ble_eq_true rfl, Nat.le_of_ble_eq_true rfl⟩ ⟨rfl, rfl⟩ ?_
          refine a_if_eq 52 B dX7_words_46 (by decide) (fun c46 => ?_) (fun c46 => ?_)
          · have c46 := bI_eq0.mp c46
            refine p_iinc4 1 B dX7_words_52 (by decide) (by decide) (k := ?_)
            refine a_goto 31 B dX7_words_55 (by decide) ?_
            rw [nI_1]
            exact ih (k + 1) (by omega) (by omega) (fst_no h3 c46)
          have c46 := bI_ne0.mp c46
          refine a_iload B dX7_words_49 rfl ?_
          exact a_iret B hr hlk dX7_words_51 (rR_l (by unfold wrdR; rw [hw, hfq, fst_up (fst_yes h3 c46) 41 (by omega)]; rfl) AM_q)
      exact loop 42 0 (by omega) (by omega) rfl
    exact absurd (show (-1 : Int32) < 0 by decide) c8
  · have hk9 := why_lt hw
    rw [oI_s]
    refine a_iload_n B dX7_words_7 rfl ?_
    refine a_if_lt 17 B dX7_words_8 (by decide) (fun c8 => ?_) (fun c8 => ?_)
    · exact absurd c8 (nI_pos (by omega))
    refine a_aload_n B dX7_words_11 rfl ?_
    refine a_iload_n B dX7_words_12 rfl ?_
    refine a_callV1r B rfl cf_X7_finds lk_X7_109 in_X7_finds se_X7_finds (wl_rc (p0 := 0) (by decide) rfl rfl rfl) (m_finds k9 hk9 _) dX7_words_13 (Nat.le_of_ble_eq_true rfl) ⟨Nat.le_of_ble_eq_true rfl, Nat.le_of_ble_eq_true rfl⟩ ⟨rfl, rfl⟩ ?_
    exact a_iret B hr hlk dX7_words_16 (rR_r0 (k := k9) (by unfold wrdR; rw [hw]) rfl rfl)
set_option maxRecDepth 20000 in
theorem m_kinds (s1 p : Int32) (M : Mem) (hI : Inv (M 0)) (hZ : ∀ t, t < 4 → szOkR M t) : CR l sk D cy A X mX7_kinds 9 [.ref (A 0), .int s1, .int p] M (rR (kndR M s1 p) M M) := by
  refine Con.of (lo := [some (.ref (A 0)), some (.int s1), some (.int p), none, none, none]) cf_X7_kinds (fun _ _ => wl_fst) 3 rfl (Nat.le_of_ble_eq_true rfl) (fun Pp Ee Ss Mm Aa Bb Me Cc A0 B hr hlk => ?_)
  have B : BS sk D cy (wl A cy 11 TM X) A0 Pp Ss Mm Aa Cc RX7 cX7_kinds 6 := B
  refine a_aload_n B dX7_kinds_0 rfl ?_
  refine a_iload_n B dX7_kinds_1 rfl ?_
  refine a_iload_n B dX7_kinds_2 rfl ?_
  refine a_callV2r B rfl cf_X7_whyNot lk_X7_178 in_X7_whyNot se_X7_whyNot (wl_rc (p0 := 0) (by decide) rfl rfl rfl) (m_whyNot _ _ _ hI) dX7_kinds_3 (Nat.le_of_ble_eq_true rfl) ⟨Nat.le_of_ble_eq_true rfl, Nat.le_of_ble_eq_true rfl⟩ ⟨rfl, rfl⟩ ?_
  refine p_istore3 B dX7_kinds_6 (by decide) (k := ?_)
  rcases hw : whyR M s1 p with _ | k9
  · obtain ⟨t, q, ht, hs1, hq8, hp1⟩ := why_n hI hw
    subst hs1
    subst hp1
    rw [oI_n]
    refine a_iload_n B dX7_kinds_7 rfl ?_
    refine a_if_lt 17 B dX7_kinds_8 (by decide) (fun c8 => ?_) (fun c8 => ?_)
    · refine a_aload_n B dX7_kinds_17 rfl ?_
      refine a_getR B fl_X7_7 (by decide) rfl rfl dX7_kinds_18 ?_
      refine a_aload_n B dX7_kinds_21 rfl ?_
      refine a_getR B fl_X7_16 (by decide) rfl rfl dX7_kinds_22 ?_
      refine a_callS2v B rfl cf_X7_copies lk_X7_146 st_X7_copies (m_aside M) dX7_kinds_25 (Nat.le_of_ble_eq_true rfl) ⟨Nat.le_of_ble_eq_true rfl, Nat.le_of_ble_eq_true rfl⟩ ⟨rfl, rfl⟩ ?_
      refine a_iconst (v := 0) B dX7_kinds_28 (by decide) ?_
      refine p_istore4 B dX7_kinds_29 (by decide) (k := ?_)
      refine a_iconst (v := 0) B dX7_kinds_31 (by decide) ?_
      refine p_istore5 B dX7_kinds_32 (by decide) (k := ?_)
      have hz := hZ t ht
      have et : nn (nI t) = t := nn_nI (by omega)
      have eq8 : nn (nI q) = q := nn_nI (by omega)
      have hfq : fiQR M (nI t) (nI q) = fitQ (M 0) q (tlR M t) (szR M t) := by unfold fiQR; rw [et, eq8]
      have loop : ∀ n k, 8 ≤ k + n → k ≤ 7 → AW Pp l Ee (rmK 9 (34 * 9)) Ss Mm Aa Bb Me Cc D (wl A cy 11 TM X) A0 6 0 0 (MQ Bb (QG D (wl A cy 11 TM X) A0 (rR (kndR M (nI t) (nI q)) M M)) Aa Ss 0 0 A0) 34 [some (.ref (A 0)), some (.int (nI t)), some (.int (nI q)), some (.int (-1)), some (.int (mskI (knQ (M 0) q (tlR M t) (szR M t)) k)), some (.int (nI k))] [] (AM M (M 0)) := by
        intro n
        induction n with
        | zero => intro k h1 h2; omega
        | succ n ih =>
          intro k h1 h2
          refine a_iload B dX7_kinds_34 rfl ?_
          refine a_bipush (v := 7) B dX7_kinds_36 (by decide) ?_
          refine a_icmp_ge 77 B dX7_kinds_38 (by decide) (fun c38 => ?_) (fun c38 => ?_)
          · have e1 : k = 7 := by have := ge_n (b := 7) c38 rfl rfl (by omega) (by omega); omega
            subst e1
            refine a_iload B dX7_kinds_77 rfl ?_
            exact a_iret B hr hlk dX7_kinds_79 (rR_l (by unfold kndR; rw [hw, et, eq8]) AM_q)
          have hlt0 := lt_n (b := 7) c38 rfl rfl (by omega) (by omega)
          refine a_aload_n B dX7_kinds_41 rfl ?_
          refine a_iload_n B dX7_kinds_42 rfl ?_
          refine a_iconst (v := 0) B dX7_kinds_43 (by decide) ?_
          refine a_iload B dX7_kinds_44 rfl ?_
          refine a_callV3v B rfl cf_X7_sets lk_X7_79 in_X7_sets se_X7_sets (wl_rc (p0 := 0) (by decide) rfl rfl rfl) (m_sets q 0 (12 + q) (by omega) (by decide) (by omega) _ _) dX7_kinds_46 (Nat.le_of_ble_eq_true rfl) ⟨Nat.le_of_ble_eq_true rfl, Nat.le_of_ble_eq_true rfl⟩ ⟨rfl, rfl⟩ ?_
          rw [AM_0, AM_s, show upd (M 0) (12 + q) (nI k) = kinD (M 0) q k from rfl]
          refine a_iload B dX7_kinds_49 rfl ?_
          refine a_aload_n B dX7_kinds_51 rfl ?_
          refine a_iload_n B dX7_kinds_52 rfl ?_
          refine a_iload_n B dX7_kinds_53 rfl ?_
          refine a_callV2r B rfl cf_X7_isTold lk_X7_174 in_X7_isTold se_X7_isTold (wl_rc (p0 := 0) (by decide) rfl rfl rfl) (m_isTold t q ht hq8 M _ (hI.kin hq8 hlt0) (fun x hx => pk_un (by omega)) hz) dX7_kinds_54 (Nat.le_of_ble_eq_true rfl) ⟨Nat.le_of_ble_eq_true rfl, Nat.le_of_ble_eq_true rfl⟩ ⟨rfl, rfl⟩ ?_
          refine a_if_eq 67 B dX7_kinds_57 (by decide) (fun c57 => ?_) (fun c57 => ?_)
          · have c57 := bI_eq0.mp c57
            refine a_iconst (v := 0) B dX7_kinds_67 (by decide) ?_
            refine a_ior B dX7_kinds_68 ?_
            refine p_istore4 B dX7_kinds_69 (by decide) (k := ?_)
            refine p_iinc5 1 B dX7_kinds_71 (by decide) (by decide) (k := ?_)
            refine a_goto 34 B dX7_kinds_74 (by decide) ?_
            rw [nI_1]
            have hc : mskI (knQ (M 0) q (tlR M t) (szR M t)) k ||| 0 = mskI (knQ (M 0) q (tlR M t) (szR M t)) (k + 1) := by rw [mskI, if_neg (by rw [show knQ (M 0) q (tlR M t) (szR M t) k = false from c57]; decide), Int32.or_zero]
            rw [hc]
            exact ih (k + 1) (by omega) (by omega)
          have c57 := bI_ne0.mp c57
          refine a_iconst (v := 1) B dX7_kinds_60 (by decide) ?_
          refine a_iload B dX7_kinds_61 rfl ?_
          refine a_ishl B dX7_kinds_63 ?_
          refine a_goto 68 B dX7_kinds_64 (by decide) ?_
          refine a_ior B dX7_kinds_68 ?_
          refine p_istore4 B dX7_kinds_69 (by decide) (k := ?_)
          refine p_iinc5 1 B dX7_kinds_71 (by decide) (by decide) (k := ?_)
          refine a_goto 34 B dX7_kinds_74 (by decide) ?_
          rw [nI_1]
          have hc : mskI (knQ (M 0) q (tlR M t) (szR M t)) k ||| (1 : Int32) <<< (nI k &&& 31) = mskI (knQ (M 0) q (tlR M t) (szR M t)) (k + 1) := by rw [mskI, if_pos (show knQ (M 0) q (tlR M t) (szR M t) k = true from c57)]
          rw [hc]
          exact ih (k + 1) (by omega) (by omega)
      exact loop 8 0 (by omega) (by omega)
    exact absurd (show (-1 : Int32) < 0 by decide) c8
  · have hk9 := why_lt hw
    rw [oI_s]
    refine a_iload_n B dX7_kinds_7 rfl ?_
    refine a_if_lt 17 B dX7_kinds_8 (by decide) (fun c8 => ?_) (fun c8 => ?_)
    · exact absurd c8 (nI_pos (by omega))
    refine a_aload_n B dX7_kinds_11 rfl ?_
    refine a_iload_n B dX7_kinds_12 rfl ?_
    refine a_callV1r B rfl cf_X7_finds lk_X7_109 in_X7_finds se_X7_finds (wl_rc (p0 := 0) (by decide) rfl rfl rfl) (m_finds k9 hk9 _) dX7_kinds_13 (Nat.le_of_ble_eq_true rfl) ⟨Nat.le_of_ble_eq_true rfl, Nat.le_of_ble_eq_true rfl⟩ ⟨rfl, rfl⟩ ?_
    exact a_iret B hr hlk dX7_kinds_16 (rR_r0 (k := k9) (by unfold kndR; rw [hw]) rfl rfl)
set_option maxRecDepth 20000 in
theorem m_seed (v : Int32) (M : Mem) : CR l sk D cy A X mX7_seed 2 [.ref (A 0), .int v] M (rI (M 0 2) (stB M 0 (upd (M 0) 2 v))) := by
  refine Con.of (lo := [some (.ref (A 0)), some (.int v)]) cf_X7_seed (fun _ _ => wl_fst) 0 rfl (Nat.le_of_ble_eq_true rfl) (fun Pp Ee Ss Mm Aa Bb Me Cc A0 B hr hlk => ?_)
  have B : BS sk D cy (wl A cy 11 TM X) A0 Pp Ss Mm Aa Cc RX7 cX7_seed 2 := B
  refine a_aload_n B dX7_seed_0 rfl ?_
  refine a_iconst (v := 2) B dX7_seed_1 (by decide) ?_
  refine a_iload_n B dX7_seed_2 rfl ?_
  refine a_callV2r B rfl cf_X7_becomes lk_X7_106 in_X7_becomes se_X7_becomes (wl_rc (p0 := 0) (by decide) rfl rfl rfl) (m_becomes 2 (by decide) _ _) dX7_seed_3 (Nat.le_of_ble_eq_true rfl) ⟨Nat.le_of_ble_eq_true rfl, Nat.le_of_ble_eq_true rfl⟩ ⟨rfl, rfl⟩ ?_
  exact a_iret B hr hlk dX7_seed_6 ⟨congrArg (fun z => some (Value.int z)) (rfl), rfl⟩
set_option maxRecDepth 20000 in
theorem m_wipe (M : Mem) : CR l sk D cy A X mX7_wipe 0 [.ref (A 0)] M (rI (M 10 1) (stB M 10 (upd (M 10) 1 0))) := by
  refine Con.of (lo := [some (.ref (A 0)), none]) cf_X7_wipe (fun _ _ => wl_fst) 1 rfl (Nat.le_of_ble_eq_true rfl) (fun Pp Ee Ss Mm Aa Bb Me Cc A0 B hr hlk => ?_)
  have B : BS sk D cy (wl A cy 11 TM X) A0 Pp Ss Mm Aa Cc RX7 cX7_wipe 2 := B
  refine a_aload_n B dX7_wipe_0 rfl ?_
  refine a_getI B fl_X7_191 (by decide) rfl rfl dX7_wipe_1 ?_
  refine p_istore1 B dX7_wipe_4 (by decide) (k := ?_)
  refine a_aload_n B dX7_wipe_5 rfl ?_
  refine a_iconst (v := 0) B dX7_wipe_6 (by decide) ?_
  refine a_putI B twM fl_X7_191 fp_7_7 (by decide) rfl rfl dX7_wipe_7 ?_
  refine a_iload_n B dX7_wipe_10 rfl ?_
  exact a_iret B hr hlk dX7_wipe_11 ⟨congrArg (fun z => some (Value.int z)) (rfl), upB_st⟩
end R10
