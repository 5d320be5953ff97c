section R11

def spcR (d : Dm) : Nat → Int32
  | 0 => 0
  | k + 1 => spcR d k + (if 0 < d (60 + k) then 1 else 0)
def couR (M : Mem) (what : Int32) : Oc := if what = 0 then .inl (M 0 1) else if what = 1 then .inl (M 0 0) else if what = 2 then .inl (onesF (M 0 4)) else if what = 3 then .inl (M 0 5) else if what = 4 then .inl (sumT (M 0) 5 (nOf (M 0))) else if what = 5 then .inl (M 10 1) else if what = 6 then .inl (M 0 2) else if what = 7 then .inl (spcR (M 0) 10) else .inr 0
def staR (M : Mem) (which : Int32) : Oc := if bt which (-1) 6 then (if which < 0 then .inl (sum7 (M 4) 7) else .inl (M 4 (nn which))) else .inr 0
def judR1 (M : Mem) (t i : Nat) : Bool := !(decide (i < nOf (M 0)) && decide (tlR M t i = M 0 (36 + i)))
def judR (M : Mem) (s : Int32) : Oc := match whnR M s with
  | some k => .inr k
  | none => match fstN (judR1 M (nn s)) (szR M (nn s)) with | none => .inl 0 | some i => .inl (1 + nI i)
def imgR (M : Mem) : Mem := stB (stB M 3 (cpD (M 3) (M 0) 70)) 10 (upd (M 10) 0 1)
def undR (M : Mem) : Oc × Mem := if M 10 0 = 0 then (.inr 3, M) else (.inl (M 3 1), stB M 0 (cpD (M 0) (M 3) 70))
def teaR (M : Mem) : Oc × Mem := (.inl (if M 10 0 = 0 then 0 else 1), stB M 10 (upd (M 10) 0 0))
theorem whn_n {M : Mem} {s : Int32} (h : whnR M s = none) : ∃ t, t < 4 ∧ s = nI t := by
  unfold whnR at h
  split at h
  · next hs =>
    obtain ⟨t, ht, et⟩ := wi_T (t := 3) hs (by omega)
    exact ⟨t, by omega, et⟩
  · cases h
theorem whn_lt {M : Mem} {s : Int32} {k : Nat} (h : whnR M s = some k) : k < 7 := why_lt (M := M) (s := s) (v := 0) (by unfold whyR; rw [h])

variable {l : Launch} {sk : (Nat → Nat) × (Nat → Nat)} {D : va_G} {cy : Nat → ClassId} {A : Nat → Nat} {X : va_W}
set_option maxRecDepth 20000 in
theorem m_image (M : Mem) : CR l sk D cy A X mX7_image 2 [.ref (A 0)] M (rR (.inl 1) (imgR M) M) := by
  refine Con.of (lo := [some (.ref (A 0))]) cf_X7_image (fun _ _ => wl_fst) 0 rfl (Nat.le_of_ble_eq_true rfl) (fun Pp Ee Ss Mm Aa Bb Me Cc A0 B hr hlk => ?_)
  have B : BS sk D cy (wl A cy 11 TM X) A0 Pp Ss Mm Aa Cc RX7 cX7_image 1 := B
  refine a_aload_n B dX7_image_0 rfl ?_
  refine a_getR B fl_X7_7 (by decide) rfl rfl dX7_image_1 ?_
  refine a_aload_n B dX7_image_4 rfl ?_
  refine a_getR B fl_X7_19 (by decide) rfl rfl dX7_image_5 ?_
  refine a_callS2v B rfl cf_X7_copies lk_X7_146 st_X7_copies (m_copies 0 3 (by decide) (by decide) (by decide) _) dX7_image_8 (Nat.le_of_ble_eq_true rfl) ⟨Nat.le_of_ble_eq_true rfl, Nat.le_of_ble_eq_true rfl⟩ ⟨rfl, rfl⟩ ?_
  refine a_aload_n B dX7_image_11 rfl ?_
  refine a_iconst (v := 1) B dX7_image_12 (by decide) ?_
  refine a_putZ B twM fl_X7_298 fp_7_4 (by decide) rfl rfl rfl rfl dX7_image_13 ?_
  refine a_iconst (v := 1) B dX7_image_16 (by decide) ?_
  exact a_iret B hr hlk dX7_image_17 (rR_l0 (rfl) (by rw [upB_st, stB_ne (show (10 : Nat) ≠ 3 by decide)]; rfl))
set_option maxRecDepth 20000 in
theorem m_undo (M : Mem) : CR l sk D cy A X mX7_undo 2 [.ref (A 0)] M (rR (undR M).1 (undR M).2 M) := by
  refine Con.of (lo := [some (.ref (A 0))]) cf_X7_undo (fun _ _ => wl_fst) 0 rfl (Nat.le_of_ble_eq_true rfl) (fun Pp Ee Ss Mm Aa Bb Me Cc A0 B hr hlk => ?_)
  have B : BS sk D cy (wl A cy 11 TM X) A0 Pp Ss Mm Aa Cc RX7 cX7_undo 1 := B
  refine a_aload_n B dX7_undo_0 rfl ?_
  refine a_getI B fl_X7_298 (by decide) rfl rfl dX7_undo_1 ?_
  refine a_if_ne 13 B dX7_undo_4 (by decide) (fun c4 => ?_) (fun c4 => ?_)
  · refine a_aload_n B dX7_undo_13 rfl ?_
    refine a_getR B fl_X7_19 (by decide) rfl rfl dX7_undo_14 ?_
    refine a_aload_n B dX7_undo_17 rfl ?_
    refine a_getR B fl_X7_7 (by decide) rfl rfl dX7_undo_18 ?_
    refine a_callS2v B rfl cf_X7_copies lk_X7_146 st_X7_copies (m_copies 3 0 (by decide) (by decide) (by decide) _) dX7_undo_21 (Nat.le_of_ble_eq_true rfl) ⟨Nat.le_of_ble_eq_true rfl, Nat.le_of_ble_eq_true rfl⟩ ⟨rfl, rfl⟩ ?_
    refine a_aload_n B dX7_undo_24 rfl ?_
    refine a_getR B fl_X7_7 (by decide) rfl rfl dX7_undo_25 ?_
    refine a_iconst (v := 1) B dX7_undo_28 (by decide) ?_
    refine a_iald 1 B (by decide) rfl rfl (by omega) (by decide) dX7_undo_29 ?_
    exact a_iret B hr hlk dX7_undo_30 (rR_l0 (by rw [stB_at]; unfold undR; rw [if_neg c4]; rfl) (by unfold undR; rw [if_neg c4]))
  refine a_aload_n B dX7_undo_7 rfl ?_
  refine a_iconst (v := 3) B dX7_undo_8 (by decide) ?_
  refine a_callV1r B rfl cf_X7_finds lk_X7_109 in_X7_finds se_X7_finds (wl_rc (p0 := 0) (by decide) rfl rfl rfl) (m_finds 3 (by decide) _) dX7_undo_9 (Nat.le_of_ble_eq_true rfl) ⟨Nat.le_of_ble_eq_true rfl, Nat.le_of_ble_eq_true rfl⟩ ⟨rfl, rfl⟩ ?_
  exact a_iret B hr hlk dX7_undo_12 (rR_r0 (k := 3) (by unfold undR; rw [if_pos c4]) rfl rfl)
set_option maxRecDepth 20000 in
theorem m_tear (M : Mem) : CR l sk D cy A X mX7_tear 0 [.ref (A 0)] M (rR (teaR M).1 (teaR M).2 M) := by
  refine Con.of (lo := [some (.ref (A 0)), none]) cf_X7_tear (fun _ _ => wl_fst) 1 rfl (Nat.le_of_ble_eq_true rfl) (fun Pp Ee Ss Mm Aa Bb Me Cc A0 B hr hlk => ?_)
  have B : BS sk D cy (wl A cy 11 TM X) A0 Pp Ss Mm Aa Cc RX7 cX7_tear 2 := B
  refine a_aload_n B dX7_tear_0 rfl ?_
  refine a_getI B fl_X7_298 (by decide) rfl rfl dX7_tear_1 ?_
  refine a_if_eq 11 B dX7_tear_4 (by decide) (fun c4 => ?_) (fun c4 => ?_)
  · refine a_iconst (v := 0) B dX7_tear_11 (by decide) ?_
    refine p_istore1 B dX7_tear_12 (by decide) (k := ?_)
    refine a_aload_n B dX7_tear_13 rfl ?_
    refine a_iconst (v := 0) B dX7_tear_14 (by decide) ?_
    refine a_putZ B twM fl_X7_298 fp_7_4 (by decide) rfl rfl rfl rfl dX7_tear_15 ?_
    refine a_iload_n B dX7_tear_18 rfl ?_
    exact a_iret B hr hlk dX7_tear_19 (rR_l0 (by unfold teaR; rw [if_pos c4]) (upB_st))
  refine a_iconst (v := 1) B dX7_tear_7 (by decide) ?_
  refine a_goto 12 B dX7_tear_8 (by decide) ?_
  refine p_istore1 B dX7_tear_12 (by decide) (k := ?_)
  refine a_aload_n B dX7_tear_13 rfl ?_
  refine a_iconst (v := 0) B dX7_tear_14 (by decide) ?_
  refine a_putZ B twM fl_X7_298 fp_7_4 (by decide) rfl rfl rfl rfl dX7_tear_15 ?_
  refine a_iload_n B dX7_tear_18 rfl ?_
  exact a_iret B hr hlk dX7_tear_19 (rR_l0 (by unfold teaR; rw [if_neg c4]) (upB_st))
set_option maxRecDepth 20000 in
set_option maxHeartbeats 4000000 in
theorem m_holding (M : Mem) : CR l sk D cy A X mX7_holding 0 [.ref (A 0)] M (rI (spcR (M 0) 10) M) := by
  refine Con.of (lo := [some (.ref (A 0)), none, none]) cf_X7_holding (fun _ _ => wl_fst) 2 rfl (Nat.le_of_ble_eq_true rfl) (fun Pp Ee Ss Mm Aa Bb Me Cc A0 B hr hlk => ?_)
  have B : BS sk D cy (wl A cy 11 TM X) A0 Pp Ss Mm Aa Cc RX7 cX7_holding 3 := B
  have loop : ∀ n k, 11 ≤ k + n → k ≤ 10 → AW Pp l Ee (rmK 0 (34 * 0)) Ss Mm Aa Bb Me Cc D (wl A cy 11 TM X) A0 3 0 0 (MQ Bb (QG D (wl A cy 11 TM X) A0 (rI (spcR (M 0) 10) M)) Aa Ss 0 0 A0) 4 [some (.ref (A 0)), some (.int (spcR (M 0) k)), some (.int (nI k))] [] (M) := by
    intro n
    induction n with
    | zero => intro k h1 h2; omega
    | succ n ih =>
      intro k h1 h2
      refine a_iload_n B dX7_holding_4 rfl ?_
      refine a_bipush (v := 10) B dX7_holding_5 (by decide) ?_
      refine a_icmp_ge 36 B dX7_holding_7 (by decide) (fun c7 => ?_) (fun c7 => ?_)
      · have e1 : k = 10 := by have := ge_n (b := 10) c7 rfl rfl (by omega) (by omega); omega
        subst e1
        refine a_iload_n B dX7_holding_36 rfl ?_
        exact a_iret B hr hlk dX7_holding_37 ⟨rfl, rfl⟩
      have hlt0 := lt_n (b := 10) c7 rfl rfl (by omega) (by omega)
      refine a_iload_n B dX7_holding_10 rfl ?_
      refine a_aload_n B dX7_holding_11 rfl ?_
      refine a_getR B fl_X7_7 (by decide) rfl rfl dX7_holding_12 ?_
      refine a_bipush (v := 60) B dX7_holding_15 (by decide) ?_
      refine a_iload_n B dX7_holding_17 rfl ?_
      refine a_iadd B dX7_holding_18 ?_
      refine a_iald (60 + k) B (by decide) rfl (nI_add 60 k) (by omega) (by decide) dX7_holding_19 ?_
      refine a_if_le 27 B dX7_holding_20 (by decide) (fun c20 => ?_) (fun c20 => ?_)
      · refine a_iconst (v := 0) B dX7_holding_27 (by decide) ?_
        refine a_iadd B dX7_holding_28 ?_
        refine p_istore1 B dX7_holding_29 (by decide) (k := ?_)
        refine p_iinc2 1 B dX7_holding_30 (by decide) (by decide) (k := ?_)
        refine a_goto 4 B dX7_holding_33 (by decide) ?_
        rw [nI_1]
        have hc : spcR (M 0) k + 0 = spcR (M 0) (k + 1) := by rw [spcR, if_neg (by have h := c20; rw [Nat.zero_add] at h; exact Int32.not_lt.mpr h)]
        rw [hc]
        exact ih (k + 1) (by omega) (by omega)
      refine a_iconst (v := 1) B dX7_holding_23 (by decide) ?_
      refine a_goto 28 B dX7_holding_24 (by decide) ?_
      refine a_iadd B dX7_holding_28 ?_
      refine p_istore1 B dX7_holding_29 (by decide) (k := ?_)
      refine p_iinc2 1 B dX7_holding_30 (by decide) (by decide) (k := ?_)
      refine a_goto 4 B dX7_holding_33 (by decide) ?_
      rw [nI_1]
      have hc : spcR (M 0) k + 1 = spcR (M 0) (k + 1) := by rw [spcR, if_pos (by have h := c20; rw [Nat.zero_add] at h; exact Int32.not_le.mp h)]
      rw [hc]
      exact ih (k + 1) (by omega) (by omega)
  refine a_iconst (v := 0) B dX7_holding_0 (by decide) ?_
  refine p_istore1 B dX7_holding_1 (by decide) (k := ?_)
  refine a_iconst (v := 0) B dX7_holding_2 (by decide) ?_
  refine p_istore2 B dX7_holding_3 (by decide) (k := ?_)
  exact loop 11 0 (by omega) (by omega)
set_option maxRecDepth 20000 in
theorem m_count (what : Int32) (M : Mem) (hI : Inv (M 0)) : CR l sk D cy A X mX7_count 2 [.ref (A 0), .int what] M (rR (couR M what) M M) := by
  refine Con.of (lo := [some (.ref (A 0)), some (.int what)]) cf_X7_count (fun _ _ => wl_fst) 0 rfl (Nat.le_of_ble_eq_true rfl) (fun Pp Ee Ss Mm Aa Bb Me Cc A0 B hr hlk => ?_)
  have B : BS sk D cy (wl A cy 11 TM X) A0 Pp Ss Mm Aa Cc RX7 cX7_count 2 := B
  refine a_iload_n B dX7_count_0 rfl ?_
  by_cases s1_0 : what = 0
  · refine a_tblIn 48 B dX7_count_1 (by rw [s1_0]; decide) (by rw [s1_0]; decide) (by rw [s1_0]; rfl) (by decide) ?_
    refine a_aload_n B dX7_count_48 rfl ?_
    refine a_getR B fl_X7_7 (by decide) rfl rfl dX7_count_49 ?_
    refine a_iconst (v := 1) B dX7_count_52 (by decide) ?_
    refine a_iald 1 B (by decide) rfl rfl (by omega) (by decide) dX7_count_53 ?_
    exact a_iret B hr hlk dX7_count_54 (rR_l0 (by simp only [couR, s1_0]; rfl) (rfl))
  by_cases s1_1 : what = 1
  · refine a_tblIn 55 B dX7_count_1 (by rw [s1_1]; decide) (by rw [s1_1]; decide) (by rw [s1_1]; rfl) (by decide) ?_
    refine a_aload_n B dX7_count_55 rfl ?_
    refine a_getR B fl_X7_7 (by decide) rfl rfl dX7_count_56 ?_
    refine a_iconst (v := 0) B dX7_count_59 (by decide) ?_
    refine a_iald 0 B (by decide) rfl rfl (by omega) (by decide) dX7_count_60 ?_
    exact a_iret B hr hlk dX7_count_61 (rR_l0 (by simp only [couR, s1_0, s1_1]; rfl) (rfl))
  by_cases s1_2 : what = 2
  · refine a_tblIn 62 B dX7_count_1 (by rw [s1_2]; decide) (by rw [s1_2]; decide) (by rw [s1_2]; rfl) (by decide) ?_
    refine a_aload_n B dX7_count_62 rfl ?_
    refine a_getR B fl_X7_7 (by decide) rfl rfl dX7_count_63 ?_
    refine a_iconst (v := 4) B dX7_count_66 (by decide) ?_
    refine a_iald 4 B (by decide) rfl rfl (by omega) (by decide) dX7_count_67 ?_
    refine a_callS1r B rfl cf_X7_ones lk_X7_58 st_X7_ones (m_ones _ _) dX7_count_68 (Nat.le_of_ble_eq_true rfl) ⟨Nat.le_of_ble_eq_true rfl, Nat.le_of_ble_eq_true rfl⟩ ⟨rfl, rfl⟩ ?_
    exact a_iret B hr hlk dX7_count_71 (rR_l0 (by simp only [couR, s1_0, s1_1, s1_2]; rfl) (rfl))
  by_cases s1_3 : what = 3
  · refine a_tblIn 72 B dX7_count_1 (by rw [s1_3]; decide) (by rw [s1_3]; decide) (by rw [s1_3]; rfl) (by decide) ?_
    refine a_aload_n B dX7_count_72 rfl ?_
    refine a_getR B fl_X7_7 (by decide) rfl rfl dX7_count_73 ?_
    refine a_iconst (v := 5) B dX7_count_76 (by decide) ?_
    refine a_iald 5 B (by decide) rfl rfl (by omega) (by decide) dX7_count_77 ?_
    exact a_iret B hr hlk dX7_count_78 (rR_l0 (by simp only [couR, s1_0, s1_1, s1_2, s1_3]; rfl) (rfl))
  by_cases s1_4 : what = 4
  · refine a_tblIn 79 B dX7_count_1 (by rw [s1_4]; decide) (by rw [s1_4]; decide) (by rw [s1_4]; rfl) (by decide) ?_
    refine a_aload_n B dX7_count_79 rfl ?_
    refine a_iconst (v := 5) B dX7_count_80 (by decide) ?_
    refine a_callV1r B rfl cf_X7_sumOf lk_X7_140 in_X7_sumOf se_X7_sumOf (wl_rc (p0 := 0) (by decide) rfl rfl rfl) (m_sumOf 5 (by decide) _ hI) dX7_count_81 (Nat.le_of_ble_eq_true rfl) ⟨Nat.le_of_ble_eq_true rfl, Nat.le_of_ble_eq_true rfl⟩ ⟨rfl, rfl⟩ ?_
    rw [← sum5]
    exact a_iret B hr hlk dX7_count_84 (rR_l0 (by simp only [couR, s1_0, s1_1, s1_2, s1_3, s1_4]; rfl) (rfl))
  by_cases s1_5 : what = 5
  · refine a_tblIn 85 B dX7_count_1 (by rw [s1_5]; decide) (by rw [s1_5]; decide) (by rw [s1_5]; rfl) (by decide) ?_
    refine a_aload_n B dX7_count_85 rfl ?_
    refine a_getI B fl_X7_191 (by decide) rfl rfl dX7_count_86 ?_
    exact a_iret B hr hlk dX7_count_89 (rR_l0 (by simp only [couR, s1_0, s1_1, s1_2, s1_3, s1_4, s1_5]; rfl) (rfl))
  by_cases s1_6 : what = 6
  · refine a_tblIn 90 B dX7_count_1 (by rw [s1_6]; decide) (by rw [s1_6]; decide) (by rw [s1_6]; rfl) (by decide) ?_
    refine a_aload_n B dX7_count_90 rfl ?_
    refine a_getR B fl_X7_7 (by decide) rfl rfl dX7_count_91 ?_
    refine a_iconst (v := 2) B dX7_count_94 (by decide) ?_
    refine a_iald 2 B (by decide) rfl rfl (by omega) (by decide) dX7_count_95 ?_
    exact a_iret B hr hlk dX7_count_96 (rR_l0 (by simp only [couR, s1_0, s1_1, s1_2, s1_3, s1_4, s1_5, s1_6]; rfl) (rfl))
  by_cases s1_7 : what = 7
  · refine a_tblIn 97 B dX7_count_1 (by rw [s1_7]; decide) (by rw [s1_7]; decide) (by rw [s1_7]; rfl) (by decide) ?_
    refine a_aload_n B dX7_count_97 rfl ?_
    refine a_callV0r B rfl cf_X7_holding lk_X7_302 in_X7_holding se_X7_holding (wl_rc (p0 := 0) (by decide) rfl rfl rfl) (m_holding _) dX7_count_98 (Nat.le_of_ble_eq_true rfl) ⟨Nat.le_of_ble_eq_true rfl, Nat.le_of_ble_eq_true rfl⟩ ⟨rfl, rfl⟩ ?_
    exact a_iret B hr hlk dX7_count_101 (rR_l0 (by simp only [couR, s1_0, s1_1, s1_2, s1_3, s1_4, s1_5, s1_6, s1_7]; rfl) (rfl))
  refine a_tblOut 102 B dX7_count_1 (by have h0 := lv_neT s1_0 (show (0 : Int32).toInt = 0 by decide); have h1 := lv_neT s1_1 (show (1 : Int32).toInt = 1 by decide); have h2 := lv_neT s1_2 (show (2 : Int32).toInt = 2 by decide); have h3 := lv_neT s1_3 (show (3 : Int32).toInt = 3 by decide); have h4 := lv_neT s1_4 (show (4 : Int32).toInt = 4 by decide); have h5 := lv_neT s1_5 (show (5 : Int32).toInt = 5 by decide); have h6 := lv_neT s1_6 (show (6 : Int32).toInt = 6 by decide); have h7 := lv_neT s1_7 (show (7 : Int32).toInt = 7 by decide); omega) (by decide) ?_
  refine a_aload_n B dX7_count_102 rfl ?_
  refine a_iconst (v := 0) B dX7_count_103 (by decide) ?_
  refine a_callV1r B rfl cf_X7_finds lk_X7_109 in_X7_finds se_X7_finds (wl_rc (p0 := 0) (by decide) rfl rfl rfl) (m_finds 0 (by decide) _) dX7_count_104 (Nat.le_of_ble_eq_true rfl) ⟨Nat.le_of_ble_eq_true rfl, Nat.le_of_ble_eq_true rfl⟩ ⟨rfl, rfl⟩ ?_
  exact a_iret B hr hlk dX7_count_107 (rR_r0 (k := 0) (by simp [couR, s1_0, s1_1, s1_2, s1_3, s1_4, s1_5, s1_6, s1_7]) rfl rfl)
set_option maxRecDepth 20000 in
theorem m_status (which : Int32) (M : Mem) : CR l sk D cy A X mX7_status 2 [.ref (A 0), .int which] M (rR (staR M which) M M) := by
  refine Con.of (lo := [some (.ref (A 0)), some (.int which), none, none]) cf_X7_status (fun _ _ => wl_fst) 2 rfl (Nat.le_of_ble_eq_true rfl) (fun Pp Ee Ss Mm Aa Bb Me Cc A0 B hr hlk => ?_)
  have B : BS sk D cy (wl A cy 11 TM X) A0 Pp Ss Mm Aa Cc RX7 cX7_status 4 := B
  refine a_iload_n B dX7_status_0 rfl ?_
  refine a_i2l B dX7_status_1 ?_
  refine a_ldc2 B dX7_status_2 kl_X7_288 ?_
  refine a_ldc2 B dX7_status_5 kl_X7_118 ?_
  refine a_callS3r B rfl cf_X7_in lk_X7_42 st_X7_in (m_in which (-1) 6 _ _ (by first | rfl | decide) (by first | rfl | decide) _) dX7_status_8 (Nat.le_of_ble_eq_true rfl) ⟨Nat.le_of_ble_eq_true rfl, Nat.le_of_ble_eq_true rfl⟩ ⟨rfl, rfl⟩ ?_
  refine a_if_ne 20 B dX7_status_11 (by decide) (fun c11 => ?_) (fun c11 => ?_)
  · have c11 := bI_ne0.mp c11
    refine a_iconst (v := 0) B dX7_status_20 (by decide) ?_
    refine p_istore2 B dX7_status_21 (by decide) (k := ?_)
    refine a_iconst (v := 0) B dX7_status_22 (by decide) ?_
    refine p_istore3 B dX7_status_23 (by decide) (k := ?_)
    have loop : ∀ n k, 8 ≤ k + n → k ≤ 7 → AW Pp l Ee (rmK 2 (34 * 2)) Ss Mm Aa Bb Me Cc D (wl A cy 11 TM X) A0 4 0 0 (MQ Bb (QG D (wl A cy 11 TM X) A0 (rR (staR M which) M M)) Aa Ss 0 0 A0) 24 [some (.ref (A 0)), some (.int which), some (.int (sum7 (M 4) k)), some (.int (nI k))] [] (M) := by
      intro n
      induction n with
      | zero => intro k h1 h2; omega
      | succ n ih =>
        intro k h1 h2
        refine a_iload_n B dX7_status_24 rfl ?_
        refine a_bipush (v := 7) B dX7_status_25 (by decide) ?_
        refine a_icmp_ge 45 B dX7_status_27 (by decide) (fun c27 => ?_) (fun c27 => ?_)
        · have e1 : k = 7 := by have := ge_n (b := 7) c27 rfl rfl (by omega) (by omega); omega
          subst e1
          refine a_iload_n B dX7_status_45 rfl ?_
          refine a_if_ge 53 B dX7_status_46 (by decide) (fun c46 => ?_) (fun c46 => ?_)
          · obtain ⟨q, hq0, hqe⟩ := nI_of (Int32.not_lt.mpr c46)
            subst hqe
            have hq7 : q < 7 := by
              have h := c11
              unfold bt at h
              simp only [Bool.and_eq_true, Bool.not_eq_true', decide_eq_false_iff_not] at h
              have := Nat.le_of_not_lt (fun z => h.2 (nI_lt (a := 6) z hq0))
              omega
            refine a_aload_n B dX7_status_53 rfl ?_
            refine a_getR B fl_X7_22 (by decide) rfl rfl dX7_status_54 ?_
            refine a_iload_n B dX7_status_57 rfl ?_
            refine a_iald q B (by decide) rfl rfl (by omega) (by decide) dX7_status_58 ?_
            exact a_iret B hr hlk dX7_status_59 (rR_l0 (by unfold staR; rw [c11, if_pos rfl, if_neg (nI_pos hq0), nn_nI hq0, Nat.zero_add]) (rfl))
          refine a_iload_n B dX7_status_49 rfl ?_
          refine a_goto 59 B dX7_status_50 (by decide) ?_
          exact a_iret B hr hlk dX7_status_59 (rR_l0 (by unfold staR; rw [c11, if_pos rfl, if_pos (Int32.not_le.mp c46)]) (rfl))
        have hlt0 := lt_n (b := 7) c27 rfl rfl (by omega) (by omega)
        refine a_iload_n B dX7_status_30 rfl ?_
        refine a_aload_n B dX7_status_31 rfl ?_
        refine a_getR B fl_X7_22 (by decide) rfl rfl dX7_status_32 ?_
        refine a_iload_n B dX7_status_35 rfl ?_
        refine a_iald k B (by decide) rfl rfl (by omega) (by decide) dX7_status_36 ?_
        refine a_iadd B dX7_status_37 ?_
        refine p_istore2 B dX7_status_38 (by decide) (k := ?_)
        refine p_iinc3 1 B dX7_status_39 (by decide) (by decide) (k := ?_)
        refine a_goto 24 B dX7_status_42 (by decide) ?_
        rw [nI_1]
        rw [Nat.zero_add]
        exact ih (k + 1) (by omega) (by omega)
    exact loop 8 0 (by omega) (by omega)
  have c11 := bI_eq0.mp c11
  refine a_aload_n B dX7_status_14 rfl ?_
  refine a_iconst (v := 0) B dX7_status_15 (by decide) ?_
  refine a_callV1r B rfl cf_X7_finds lk_X7_109 in_X7_finds se_X7_finds (wl_rc (p0 := 0) (by decide) rfl rfl rfl) (m_finds 0 (by decide) _) dX7_status_16 (Nat.le_of_ble_eq_true rfl) ⟨Nat.le_of_ble_eq_true rfl, Nat.le_of_ble_eq_true rfl⟩ ⟨rfl, rfl⟩ ?_
  exact a_iret B hr hlk dX7_status_19 (rR_r0 (k := 0) (by unfold staR; rw [c11]; rfl) rfl rfl)
set_option maxRecDepth 20000 in
theorem m_judge (s1 : Int32) (M : Mem) (hI : Inv (M 0)) (hZ : ∀ t, t < 4 → szOkR M t) : CR l sk D cy A X mX7_judge 3 [.ref (A 0), .int s1] M (rR (judR M s1) M M) := by
  refine Con.of (lo := [some (.ref (A 0)), some (.int s1), none, none]) cf_X7_judge (fun _ _ => wl_fst) 2 rfl (Nat.le_of_ble_eq_true rfl) (fun Pp Ee Ss Mm Aa Bb Me Cc A0 B hr hlk => ?_)
  have B : BS sk D cy (wl A cy 11 TM X) A0 Pp Ss Mm Aa Cc RX7 cX7_judge 4 := B
  refine a_aload_n B dX7_judge_0 rfl ?_
  refine a_iload_n B dX7_judge_1 rfl ?_
  refine a_callV1r B rfl cf_X7_whyNone lk_X7_171 in_X7_whyNone se_X7_whyNone (wl_rc (p0 := 0) (by decide) rfl rfl rfl) (m_whyNone _ _) dX7_judge_2 (Nat.le_of_ble_eq_true rfl) ⟨Nat.le_of_ble_eq_true rfl, Nat.le_of_ble_eq_true rfl⟩ ⟨rfl, rfl⟩ ?_
  refine p_istore2 B dX7_judge_5 (by decide) (k := ?_)
  rcases hw : whnR M s1 with _ | k9
  · obtain ⟨t, ht, hs1⟩ := whn_n hw
    subst hs1
    rw [oI_n]
    refine a_iload_n B dX7_judge_6 rfl ?_
    refine a_if_lt 16 B dX7_judge_7 (by decide) (fun c7 => ?_) (fun c7 => ?_)
    · refine a_iconst (v := 0) B dX7_judge_16 (by decide) ?_
      refine p_istore3 B dX7_judge_17 (by decide) (k := ?_)
      have hz := hZ t ht
      have et : nn (nI t) = t := nn_nI (by omega)
      obtain ⟨hz1, hz2⟩ := hz.e
      obtain ⟨hN0, hN8⟩ := inv_0 hI
      have loop : ∀ n k, szR M t + 1 ≤ k + n → k ≤ szR M t → fstN (judR1 M t) k = none → AW Pp l Ee (rmK 3 (34 * 3)) Ss Mm Aa Bb Me Cc D (wl A cy 11 TM X) A0 4 0 0 (MQ Bb (QG D (wl A cy 11 TM X) A0 (rR (judR M (nI t)) M M)) Aa Ss 0 0 A0) 18 [some (.ref (A 0)), some (.int (nI t)), some (.int (-1)), some (.int (nI k))] [] (M) := by
        intro n
        induction n with
        | zero => intro k h1 h2; omega
        | succ n ih =>
          intro k h1 h2 h3
          refine a_iload_n B dX7_judge_18 rfl ?_
          refine a_aload_n B dX7_judge_19 rfl ?_
          refine a_getR B fl_X7_32 (by decide) rfl rfl dX7_judge_20 ?_
          refine a_iload_n B dX7_judge_23 rfl ?_
          refine a_iald t B (by decide) rfl rfl (by omega) (by decide) dX7_judge_24 ?_
          rw [show M 7 (0 + t) = nI (szR M t) from by rw [Nat.zero_add]; exact hz2]
          refine a_icmp_ge 66 B dX7_judge_25 (by decide) (fun c25 => ?_) (fun c25 => ?_)
          · have e1 : k = szR M t := by have := (nI_leI (a := szR M t) (b := k) (by omega) (by omega)).mp c25; omega
            refine a_iconst (v := 0) B dX7_judge_66 (by decide) ?_
            exact a_iret B hr hlk dX7_judge_67 (rR_l0 (by rw [e1] at h3; unfold judR; rw [hw]; simp only [et, h3]) rfl)
          have hlt0 : k < szR M t := (nI_ltI (a := k) (b := szR M t) (by omega) (by omega)).mp (Int32.not_le.mp c25)
          refine a_aload_n B dX7_judge_28 rfl ?_
          refine a_iload_n B dX7_judge_29 rfl ?_
          refine a_callV1r B rfl cf_X7_isPriest lk_X7_123 in_X7_isPriest se_X7_isPriest (wl_rc (p0 := 0) (by decide) rfl rfl rfl) (m_isPriest _ _ hI) dX7_judge_30 (Nat.le_of_ble_eq_true rfl) ⟨Nat.le_of_ble_eq_true rfl, Nat.le_of_ble_eq_true rfl⟩ ⟨rfl, rfl⟩ ?_
          refine a_if_eq 56 B dX7_judge_33 (by decide) (fun c33 => ?_) (fun c33 => ?_)
          · have c33 := bI_eq0.mp c33
            have hkN : ¬ k < nOf (M 0) := fun h => by
              unfold isP at c33
              rw [decide_eq_false (nI_pos (by omega)), decide_eq_false (fun q => absurd ((nI_leI (a := nOf (M 0)) (b := k) (by omega) (by omega)).mp (hN0 ▸ q)) (by omega))] at c33
              cases c33
            refine a_iconst (v := 1) B dX7_judge_56 (by decide) ?_
            refine a_iload_n B dX7_judge_57 rfl ?_
            refine a_iadd B dX7_judge_58 ?_
            have hjd : judR1 M t k = true := by unfold judR1; rw [decide_eq_false hkN]; rfl
            exact a_iret B hr hlk dX7_judge_59 (rR_l0 (by unfold judR; rw [hw]; simp only [et, fst_up (fst_yes h3 hjd) (szR M t) (by omega)]) rfl)
          have c33 := bI_ne0.mp c33
          have hkN : k < nOf (M 0) := by
            unfold isP at c33
            simp only [Bool.and_eq_true, Bool.not_eq_true', decide_eq_false_iff_not] at c33
            exact Nat.lt_of_not_le (fun q => c33.2 (by rw [hN0]; exact nI_le q (by omega)))
          refine a_aload_n B dX7_judge_36 rfl ?_
          refine a_getR B fl_X7_35 (by decide) rfl rfl dX7_judge_37 ?_
          refine a_bipush (v := 40) B dX7_judge_40 (by decide) ?_
          refine a_iload_n B dX7_judge_42 rfl ?_
          refine a_imul B dX7_judge_43 ?_
          refine a_iload_n B dX7_judge_44 rfl ?_
          refine a_iadd B dX7_judge_45 ?_
          refine a_iald (40 * t + k) B (by decide) rfl (ix_num t k) (by omega) (by decide) dX7_judge_46 ?_
          rw [show M 8 (0 + (40 * t + k)) = tlR M t k from by rw [Nat.zero_add]; rfl]
          refine a_aload_n B dX7_judge_47 rfl ?_
          refine a_iload_n B dX7_judge_48 rfl ?_
          refine a_iconst (v := 3) B dX7_judge_49 (by decide) ?_
          refine a_callV2r B rfl cf_X7_its lk_X7_54 in_X7_its se_X7_its (wl_rc (p0 := 0) (by decide) rfl rfl rfl) (m_its k 3 (36 + k) (by omega) (by decide) (by omega) _) dX7_judge_50 (Nat.le_of_ble_eq_true rfl) ⟨Nat.le_of_ble_eq_true rfl, Nat.le_of_ble_eq_true rfl⟩ ⟨rfl, rfl⟩ ?_
          refine a_icmp_eq 60 B dX7_judge_53 (by decide) (fun c53 => ?_) (fun c53 => ?_)
          · have hjd : judR1 M t k = false := by unfold judR1; rw [decide_eq_true hkN, decide_eq_true (show tlR M t k = M 0 (36 + k) from c53)]; rfl
            refine p_iinc3 1 B dX7_judge_60 (by decide) (by decide) (k := ?_)
            refine a_goto 18 B dX7_judge_63 (by decide) ?_
            rw [nI_1]
            exact ih (k + 1) (by omega) (by omega) (fst_no h3 hjd)
          have hjd : judR1 M t k = true := by unfold judR1; rw [decide_eq_false (show ¬ tlR M t k = M 0 (36 + k) from c53), Bool.and_false]; rfl
          refine a_iconst (v := 1) B dX7_judge_56 (by decide) ?_
          refine a_iload_n B dX7_judge_57 rfl ?_
          refine a_iadd B dX7_judge_58 ?_
          exact a_iret B hr hlk dX7_judge_59 (rR_l0 (by unfold judR; rw [hw]; simp only [et, fst_up (fst_yes h3 hjd) (szR M t) (by omega)]) rfl)
      exact loop (szR M t + 1) 0 (by omega) (by omega) rfl
    exact absurd (show (-1 : Int32) < 0 by decide) c7
  · have hk9 := whn_lt hw
    rw [oI_s]
    refine a_iload_n B dX7_judge_6 rfl ?_
    refine a_if_lt 16 B dX7_judge_7 (by decide) (fun c7 => ?_) (fun c7 => ?_)
    · exact absurd c7 (nI_pos (by omega))
    refine a_aload_n B dX7_judge_10 rfl ?_
    refine a_iload_n B dX7_judge_11 rfl ?_
    refine a_callV1r B rfl cf_X7_finds lk_X7_109 in_X7_finds se_X7_finds (wl_rc (p0 := 0) (by decide) rfl rfl rfl) (m_finds k9 hk9 _) dX7_judge_12 (Nat.le_of_ble_eq_true rfl) ⟨Nat.le_of_ble_eq_true rfl, Nat.le_of_ble_eq_true rfl⟩ ⟨rfl, rfl⟩ ?_
    exact a_iret B hr hlk dX7_judge_15 (rR_r0 (k := k9) (by unfold judR; rw [hw]) rfl rfl)
end R11
