section R7

theorem ch_bt (what : Int32) : chB what = (bt what 1 6 && !decide (what = 2)) := by
  cases h : bt what 1 6 with
  | true =>
    unfold bt at h
    simp only [Bool.and_eq_true, Bool.not_eq_true', decide_eq_false_iff_not] at h
    obtain ⟨t, ht, et⟩ := nI_of (fun q : what < 0 => h.1 (Int32.lt_trans q (by decide)))
    subst et
    have h1 : 1 ≤ t := Nat.le_of_not_lt (fun q => h.1 (nI_lt (b := 1) q (by omega)))
    have h6 : t ≤ 6 := Nat.le_of_not_lt (fun q => h.2 (nI_lt (a := 6) q ht))
    rcases (show t = 1 ∨ t = 2 ∨ t = 3 ∨ t = 4 ∨ t = 5 ∨ t = 6 by omega) with rfl | rfl | rfl | rfl | rfl | rfl <;> rfl
  | false =>
    rw [Bool.false_and]
    unfold chB
    have key : ∀ c : Int32, bt c 1 6 = true → decide (what = c) = false := fun c hc => decide_eq_false (fun e => by rw [e, hc] at h; cases h)
    rw [key 1 (by decide), key 3 (by decide), key 4 (by decide), key 5 (by decide), key 6 (by decide)]
    rfl
theorem bt_16 {what : Int32} (h : bt what 1 6 = true) : ∃ t, 1 ≤ t ∧ t ≤ 6 ∧ what = nI t := by
  unfold bt at h
  simp only [Bool.and_eq_true, Bool.not_eq_true', decide_eq_false_iff_not] at h
  obtain ⟨t, ht, et⟩ := nI_of (fun q : what < 0 => h.1 (Int32.lt_trans q (by decide)))
  subst et
  exact ⟨t, Nat.le_of_not_lt (fun q => h.1 (nI_lt (b := 1) q (by omega))), Nat.le_of_not_lt (fun q => h.2 (nI_lt (a := 6) q ht)), rfl⟩

variable {l : Launch} {sk : (Nat → Nat) × (Nat → Nat)} {D : va_G} {cy : Nat → ClassId} {A : Nat → Nat} {X : va_W}
set_option maxRecDepth 20000 in
theorem m_behind (t : Nat) (ht : t < 100000) (M : Mem) (Y : Dm) (hI : Inv Y) (hY : ∀ j, 70 ≤ j → Y j = M 0 j) (j : Nat) (hj : j < 70) : CR l sk D cy A X mX7_behind 7 [.ref (A 0), .int (nI t), .int (nI j)] (AM M Y) (rI (daysF Y t j) (AM M (M 0))) := by
  refine Con.of (lo := [some (.ref (A 0)), some (.int (nI t)), some (.int (nI j)), none]) cf_X7_behind (fun _ _ => wl_fst) 1 rfl (Nat.le_of_ble_eq_true rfl) (fun Pp Ee Ss Mm Aa Bb Me Cc A0 B hr hlk => ?_)
  have B : BS sk D cy (wl A cy 11 TM X) A0 Pp Ss Mm Aa Cc RX7 cX7_behind 4 := B
  refine a_aload_n B dX7_behind_0 rfl ?_
  refine a_iload_n B dX7_behind_1 rfl ?_
  refine a_callV1v B rfl cf_X7_daysGo lk_X7_134 in_X7_daysGo se_X7_daysGo (wl_rc (p0 := 0) (by decide) rfl rfl rfl) (m_daysA t ht M Y hI) dX7_behind_2 (Nat.le_of_ble_eq_true rfl) ⟨Nat.le_of_ble_eq_true rfl, Nat.le_of_ble_eq_true rfl⟩ ⟨rfl, rfl⟩ ?_
  refine a_aload_n B dX7_behind_5 rfl ?_
  refine a_getR B fl_X7_7 (by decide) rfl rfl dX7_behind_6 ?_
  refine a_iload_n B dX7_behind_9 rfl ?_
  refine a_iald j B (by decide) rfl rfl (by omega) (by decide) dX7_behind_10 ?_
  refine p_istore3 B dX7_behind_11 (by decide) (k := ?_)
  refine a_aload_n B dX7_behind_12 rfl ?_
  refine a_getR B fl_X7_16 (by decide) rfl rfl dX7_behind_13 ?_
  refine a_aload_n B dX7_behind_16 rfl ?_
  refine a_getR B fl_X7_7 (by decide) rfl rfl dX7_behind_17 ?_
  refine a_callS2v B rfl cf_X7_copies lk_X7_146 st_X7_copies (m_back M _ (hi_days hI hY t)) dX7_behind_20 (Nat.le_of_ble_eq_true rfl) ⟨Nat.le_of_ble_eq_true rfl, Nat.le_of_ble_eq_true rfl⟩ ⟨rfl, rfl⟩ ?_
  refine a_iload_n B dX7_behind_23 rfl ?_
  exact a_iret B hr hlk dX7_behind_24 ⟨congrArg (fun z => some (Value.int z)) (by rw [AM_0, Nat.zero_add]), rfl⟩
set_option maxRecDepth 20000 in
theorem m_illBehind (t : Nat) (ht : t < 100000) (M : Mem) (Y : Dm) (hI : Inv Y) (hY : ∀ j, 70 ≤ j → Y j = M 0 j) : CR l sk D cy A X mX7_illBehind 7 [.ref (A 0), .int (nI t)] (AM M Y) (rI (sumF (daysF Y t) 5 (nOf Y)) (AM M (M 0))) := by
  refine Con.of (lo := [some (.ref (A 0)), some (.int (nI t)), none]) cf_X7_illBehind (fun _ _ => wl_fst) 1 rfl (Nat.le_of_ble_eq_true rfl) (fun Pp Ee Ss Mm Aa Bb Me Cc A0 B hr hlk => ?_)
  have B : BS sk D cy (wl A cy 11 TM X) A0 Pp Ss Mm Aa Cc RX7 cX7_illBehind 3 := B
  refine a_aload_n B dX7_illBehind_0 rfl ?_
  refine a_iload_n B dX7_illBehind_1 rfl ?_
  refine a_callV1v B rfl cf_X7_daysGo lk_X7_134 in_X7_daysGo se_X7_daysGo (wl_rc (p0 := 0) (by decide) rfl rfl rfl) (m_daysA t ht M Y hI) dX7_illBehind_2 (Nat.le_of_ble_eq_true rfl) ⟨Nat.le_of_ble_eq_true rfl, Nat.le_of_ble_eq_true rfl⟩ ⟨rfl, rfl⟩ ?_
  refine a_aload_n B dX7_illBehind_5 rfl ?_
  refine a_iconst (v := 5) B dX7_illBehind_6 (by decide) ?_
  refine a_callV1r B rfl cf_X7_sumOf lk_X7_140 in_X7_sumOf se_X7_sumOf (wl_rc (p0 := 0) (by decide) rfl rfl rfl) (m_sumOf 5 (by decide) _ (by rw [AM_0]; exact Inv.vDays hI t)) dX7_illBehind_7 (Nat.le_of_ble_eq_true rfl) ⟨Nat.le_of_ble_eq_true rfl, Nat.le_of_ble_eq_true rfl⟩ ⟨rfl, rfl⟩ ?_
  rw [AM_0, days_n hI t]
  refine p_istore2 B dX7_illBehind_10 (by decide) (k := ?_)
  refine a_aload_n B dX7_illBehind_11 rfl ?_
  refine a_getR B fl_X7_16 (by decide) rfl rfl dX7_illBehind_12 ?_
  refine a_aload_n B dX7_illBehind_15 rfl ?_
  refine a_getR B fl_X7_7 (by decide) rfl rfl dX7_illBehind_16 ?_
  refine a_callS2v B rfl cf_X7_copies lk_X7_146 st_X7_copies (m_back M _ (hi_days hI hY t)) dX7_illBehind_19 (Nat.le_of_ble_eq_true rfl) ⟨Nat.le_of_ble_eq_true rfl, Nat.le_of_ble_eq_true rfl⟩ ⟨rfl, rfl⟩ ?_
  refine a_iload_n B dX7_illBehind_22 rfl ?_
  exact a_iret B hr hlk dX7_illBehind_23 ⟨congrArg (fun z => some (Value.int z)) (rfl), rfl⟩
set_option maxRecDepth 20000 in
theorem m_ahead (p what n1 : Int32) (M : Mem) (hI : Inv (M 0)) : CR l sk D cy A X mX7_ahead 7 [.ref (A 0), .int p, .int what, .int n1] M (rR (aheX (M 0) p what n1) M M) := by
  refine Con.of (lo := [some (.ref (A 0)), some (.int p), some (.int what), some (.int n1), none]) cf_X7_ahead (fun _ _ => wl_fst) 1 rfl (Nat.le_of_ble_eq_true rfl) (fun Pp Ee Ss Mm Aa Bb Me Cc A0 B hr hlk => ?_)
  have B : BS sk D cy (wl A cy 11 TM X) A0 Pp Ss Mm Aa Cc RX7 cX7_ahead 5 := B
  rcases at_cases hI p with ⟨q, hqn, hq8, hvq, hip, hlt⟩ | ⟨hn, hip⟩
  · subst hvq
    refine a_aload_n B dX7_ahead_0 rfl ?_
    refine a_iload_n B dX7_ahead_1 rfl ?_
    refine a_callV1r B rfl cf_X7_isPriest lk_X7_123 in_X7_isPriest se_X7_isPriest (wl_rc (p0 := 0) (by decide) rfl rfl rfl) (m_isPriest _ _ hI) dX7_ahead_2 (Nat.le_of_ble_eq_true rfl) ⟨Nat.le_of_ble_eq_true rfl, Nat.le_of_ble_eq_true rfl⟩ ⟨rfl, rfl⟩ ?_
    refine a_if_eq 37 B dX7_ahead_5 (by decide) (fun c5 => ?_) (fun c5 => ?_)
    · exact absurd (show isP (M 0) (nI q) = false from bI_eq0.mp c5) (by rw [hip]; decide)
    refine a_iload_n B dX7_ahead_8 rfl ?_
    refine a_i2l B dX7_ahead_9 ?_
    refine a_lconst (v := 1) B dX7_ahead_10 (by decide) ?_
    refine a_ldc2 B dX7_ahead_11 kl_X7_118 ?_
    refine a_callS3r B rfl cf_X7_in lk_X7_42 st_X7_in (m_in what 1 6 _ _ (by first | rfl | decide) (by first | rfl | decide) _) dX7_ahead_14 (Nat.le_of_ble_eq_true rfl) ⟨Nat.le_of_ble_eq_true rfl, Nat.le_of_ble_eq_true rfl⟩ ⟨rfl, rfl⟩ ?_
    refine a_if_eq 37 B dX7_ahead_17 (by decide) (fun c17 => ?_) (fun c17 => ?_)
    · have c17 := bI_eq0.mp c17
      have hch : chB what = false := by rw [ch_bt, show bt what 1 6 = false from c17]; rfl
      refine a_aload_n B dX7_ahead_37 rfl ?_
      refine a_iconst (v := 0) B dX7_ahead_38 (by decide) ?_
      refine a_callV1r B rfl cf_X7_finds lk_X7_109 in_X7_finds se_X7_finds (wl_rc (p0 := 0) (by decide) rfl rfl rfl) (m_finds 0 (by decide) _) dX7_ahead_39 (Nat.le_of_ble_eq_true rfl) ⟨Nat.le_of_ble_eq_true rfl, Nat.le_of_ble_eq_true rfl⟩ ⟨rfl, rfl⟩ ?_
      exact a_iret B hr hlk dX7_ahead_42 (rR_r0 (k := 0) (by unfold aheX; rw [hip, hch]; rfl) rfl rfl)
    have c17 := bI_ne0.mp c17
    refine a_iload_n B dX7_ahead_20 rfl ?_
    refine a_iconst (v := 2) B dX7_ahead_21 (by decide) ?_
    refine a_icmp_eq 37 B dX7_ahead_22 (by decide) (fun c22 => ?_) (fun c22 => ?_)
    · have hch : chB what = false := by rw [ch_bt, decide_eq_true c22, Bool.not_true, Bool.and_false]
      refine a_aload_n B dX7_ahead_37 rfl ?_
      refine a_iconst (v := 0) B dX7_ahead_38 (by decide) ?_
      refine a_callV1r B rfl cf_X7_finds lk_X7_109 in_X7_finds se_X7_finds (wl_rc (p0 := 0) (by decide) rfl rfl rfl) (m_finds 0 (by decide) _) dX7_ahead_39 (Nat.le_of_ble_eq_true rfl) ⟨Nat.le_of_ble_eq_true rfl, Nat.le_of_ble_eq_true rfl⟩ ⟨rfl, rfl⟩ ?_
      exact a_iret B hr hlk dX7_ahead_42 (rR_r0 (k := 0) (by unfold aheX; rw [hip, hch]; rfl) rfl rfl)
    have hch : chB what = true := by rw [ch_bt, show bt what 1 6 = true from c17, decide_eq_false c22]; rfl
    refine a_iload_n B dX7_ahead_25 rfl ?_
    refine a_i2l B dX7_ahead_26 ?_
    refine a_lconst (v := 0) B dX7_ahead_27 (by decide) ?_
    refine a_ldc2 B dX7_ahead_28 kl_X7_150 ?_
    refine a_callS3r B rfl cf_X7_in lk_X7_42 st_X7_in (m_in n1 0 100 _ _ (by first | rfl | decide) (by first | rfl | decide) _) dX7_ahead_31 (Nat.le_of_ble_eq_true rfl) ⟨Nat.le_of_ble_eq_true rfl, Nat.le_of_ble_eq_true rfl⟩ ⟨rfl, rfl⟩ ?_
    refine a_if_ne 43 B dX7_ahead_34 (by decide) (fun c34 => ?_) (fun c34 => ?_)
    · have c34 := bI_ne0.mp c34
      obtain ⟨t, ht9, hte⟩ := wi_T (t := 100) (v := n1) c34 (by omega)
      subst hte
      refine a_aload_n B dX7_ahead_43 rfl ?_
      refine a_getR B fl_X7_7 (by decide) rfl rfl dX7_ahead_44 ?_
      refine a_aload_n B dX7_ahead_47 rfl ?_
      refine a_getR B fl_X7_16 (by decide) rfl rfl dX7_ahead_48 ?_
      refine a_callS2v B rfl cf_X7_copies lk_X7_146 st_X7_copies (m_aside M) dX7_ahead_51 (Nat.le_of_ble_eq_true rfl) ⟨Nat.le_of_ble_eq_true rfl, Nat.le_of_ble_eq_true rfl⟩ ⟨rfl, rfl⟩ ?_
      refine a_aload_n B dX7_ahead_54 rfl ?_
      refine a_iload_n B dX7_ahead_55 rfl ?_
      refine a_callV1v B rfl cf_X7_daysGo lk_X7_134 in_X7_daysGo se_X7_daysGo (wl_rc (p0 := 0) (by decide) rfl rfl rfl) (m_daysA t (by omega) M _ hI) dX7_ahead_56 (Nat.le_of_ble_eq_true rfl) ⟨Nat.le_of_ble_eq_true rfl, Nat.le_of_ble_eq_true rfl⟩ ⟨rfl, rfl⟩ ?_
      refine a_iload_n B dX7_ahead_59 rfl ?_
      refine a_bipush (v := 6) B dX7_ahead_60 (by decide) ?_
      refine a_icmp_ne 73 B dX7_ahead_62 (by decide) (fun c62 => ?_) (fun c62 => ?_)
      · obtain ⟨u, hu1, hu2, hue⟩ := bt_16 c17
        subst hue
        have hu6 : u < 6 := by
          have : u ≠ 6 := fun hh => c62 (by rw [hh]; rfl)
          omega
        refine a_aload_n B dX7_ahead_73 rfl ?_
        refine a_iload_n B dX7_ahead_74 rfl ?_
        refine a_iload_n B dX7_ahead_75 rfl ?_
        refine a_callV2r B rfl cf_X7_its lk_X7_54 in_X7_its se_X7_its (wl_rc (p0 := 0) (by decide) rfl rfl rfl) (m_its q u (12 + 8 * u + q) hq8 hu6 rfl _) dX7_ahead_76 (Nat.le_of_ble_eq_true rfl) ⟨Nat.le_of_ble_eq_true rfl, Nat.le_of_ble_eq_true rfl⟩ ⟨rfl, rfl⟩ ?_
        rw [AM_0]
        refine p_istore4 B dX7_ahead_79 (by decide) (k := ?_)
        refine a_aload_n B dX7_ahead_81 rfl ?_
        refine a_getR B fl_X7_16 (by decide) rfl rfl dX7_ahead_82 ?_
        refine a_aload_n B dX7_ahead_85 rfl ?_
        refine a_getR B fl_X7_7 (by decide) rfl rfl dX7_ahead_86 ?_
        refine a_callS2v B rfl cf_X7_copies lk_X7_146 st_X7_copies (m_back M _ (hi_days hI (fun _ _ => rfl) t)) dX7_ahead_89 (Nat.le_of_ble_eq_true rfl) ⟨Nat.le_of_ble_eq_true rfl, Nat.le_of_ble_eq_true rfl⟩ ⟨rfl, rfl⟩ ?_
        refine a_iload B dX7_ahead_92 rfl ?_
        exact a_iret B hr hlk dX7_ahead_94 (rR_l (by unfold aheX; rw [hip, hch, show wi (nI t) 100 = true from c34, if_pos (show (true && true && true) = true from rfl), nn_nI (show q < 2 ^ 31 by omega), nn_nI (show t < 2 ^ 31 by omega)]; rw [tell_its u hu6]) AM_q)
      refine a_aload_n B dX7_ahead_65 rfl ?_
      refine a_iload_n B dX7_ahead_66 rfl ?_
      refine a_callV1r B rfl cf_X7_holds lk_X7_66 in_X7_holds se_X7_holds (wl_rc (p0 := 0) (by decide) rfl rfl rfl) (m_holds q hq8 _) dX7_ahead_67 (Nat.le_of_ble_eq_true rfl) ⟨Nat.le_of_ble_eq_true rfl, Nat.le_of_ble_eq_true rfl⟩ ⟨rfl, rfl⟩ ?_
      rw [AM_0]
      refine a_goto 79 B dX7_ahead_70 (by decide) ?_
      refine p_istore4 B dX7_ahead_79 (by decide) (k := ?_)
      refine a_aload_n B dX7_ahead_81 rfl ?_
      refine a_getR B fl_X7_16 (by decide) rfl rfl dX7_ahead_82 ?_
      refine a_aload_n B dX7_ahead_85 rfl ?_
      refine a_getR B fl_X7_7 (by decide) rfl rfl dX7_ahead_86 ?_
      refine a_callS2v B rfl cf_X7_copies lk_X7_146 st_X7_copies (m_back M _ (hi_days hI (fun _ _ => rfl) t)) dX7_ahead_89 (Nat.le_of_ble_eq_true rfl) ⟨Nat.le_of_ble_eq_true rfl, Nat.le_of_ble_eq_true rfl⟩ ⟨rfl, rfl⟩ ?_
      refine a_iload B dX7_ahead_92 rfl ?_
      exact a_iret B hr hlk dX7_ahead_94 (rR_l (by unfold aheX; rw [hip, hch, show wi (nI t) 100 = true from c34, if_pos (show (true && true && true) = true from rfl), nn_nI (show q < 2 ^ 31 by omega), nn_nI (show t < 2 ^ 31 by omega), c62]; rfl) AM_q)
    have c34 := bI_eq0.mp c34
    refine a_aload_n B dX7_ahead_37 rfl ?_
    refine a_iconst (v := 0) B dX7_ahead_38 (by decide) ?_
    refine a_callV1r B rfl cf_X7_finds lk_X7_109 in_X7_finds se_X7_finds (wl_rc (p0 := 0) (by decide) rfl rfl rfl) (m_finds 0 (by decide) _) dX7_ahead_39 (Nat.le_of_ble_eq_true rfl) ⟨Nat.le_of_ble_eq_true rfl, Nat.le_of_ble_eq_true rfl⟩ ⟨rfl, rfl⟩ ?_
    exact a_iret B hr hlk dX7_ahead_42 (rR_r0 (k := 0) (by unfold aheX; rw [show wi n1 100 = false from c34, Bool.and_false]; rfl) rfl rfl)
  · refine a_aload_n B dX7_ahead_0 rfl ?_
    refine a_iload_n B dX7_ahead_1 rfl ?_
    refine a_callV1r B rfl cf_X7_isPriest lk_X7_123 in_X7_isPriest se_X7_isPriest (wl_rc (p0 := 0) (by decide) rfl rfl rfl) (m_isPriest _ _ hI) dX7_ahead_2 (Nat.le_of_ble_eq_true rfl) ⟨Nat.le_of_ble_eq_true rfl, Nat.le_of_ble_eq_true rfl⟩ ⟨rfl, rfl⟩ ?_
    refine a_if_eq 37 B dX7_ahead_5 (by decide) (fun c5 => ?_) (fun c5 => ?_)
    · refine a_aload_n B dX7_ahead_37 rfl ?_
      refine a_iconst (v := 0) B dX7_ahead_38 (by decide) ?_
      refine a_callV1r B rfl cf_X7_finds lk_X7_109 in_X7_finds se_X7_finds (wl_rc (p0 := 0) (by decide) rfl rfl rfl) (m_finds 0 (by decide) _) dX7_ahead_39 (Nat.le_of_ble_eq_true rfl) ⟨Nat.le_of_ble_eq_true rfl, Nat.le_of_ble_eq_true rfl⟩ ⟨rfl, rfl⟩ ?_
      exact a_iret B hr hlk dX7_ahead_42 (rR_r0 (k := 0) (by unfold aheX; rw [hip]; rfl) rfl rfl)
    exact absurd (show isP (M 0) p = true from bI_ne0.mp c5) (by rw [hip]; decide)
set_option maxRecDepth 20000 in
theorem m_out (sin : Int32) (M : Mem) (hI : Inv (M 0)) : CR l sk D cy A X mX7_out 6 [.ref (A 0), .int sin] M (rR (outX (M 0) sin) M M) := by
  refine Con.of (lo := [some (.ref (A 0)), some (.int sin), none, none]) cf_X7_out (fun _ _ => wl_fst) 2 rfl (Nat.le_of_ble_eq_true rfl) (fun Pp Ee Ss Mm Aa Bb Me Cc A0 B hr hlk => ?_)
  have B : BS sk D cy (wl A cy 11 TM X) A0 Pp Ss Mm Aa Cc RX7 cX7_out 4 := B
  refine a_iload_n B dX7_out_0 rfl ?_
  refine a_callS1r B rfl cf_X7_isSin lk_X7_129 st_X7_isSin (m_isSin _ _) dX7_out_1 (Nat.le_of_ble_eq_true rfl) ⟨Nat.le_of_ble_eq_true rfl, Nat.le_of_ble_eq_true rfl⟩ ⟨rfl, rfl⟩ ?_
  refine a_if_ne 13 B dX7_out_4 (by decide) (fun c4 => ?_) (fun c4 => ?_)
  · have c4 := bI_ne0.mp c4
    refine a_aload_n B dX7_out_13 rfl ?_
    refine a_getR B fl_X7_7 (by decide) rfl rfl dX7_out_14 ?_
    refine a_aload_n B dX7_out_17 rfl ?_
    refine a_getR B fl_X7_16 (by decide) rfl rfl dX7_out_18 ?_
    refine a_callS2v B rfl cf_X7_copies lk_X7_146 st_X7_copies (m_aside M) dX7_out_21 (Nat.le_of_ble_eq_true rfl) ⟨Nat.le_of_ble_eq_true rfl, Nat.le_of_ble_eq_true rfl⟩ ⟨rfl, rfl⟩ ?_
    refine a_iconst (v := 0) B dX7_out_24 (by decide) ?_
    refine p_istore2 B dX7_out_25 (by decide) (k := ?_)
    have loop : ∀ n k, 201 ≤ k + n → k ≤ 200 → fstN (outQ (M 0) sin) k = none → AW Pp l Ee (rmK 6 (34 * 6)) Ss Mm Aa Bb Me Cc D (wl A cy 11 TM X) A0 4 0 0 (MQ Bb (QG D (wl A cy 11 TM X) A0 (rR (outX (M 0) sin) M M)) Aa Ss 0 0 A0) 26 [some (.ref (A 0)), some (.int sin), some (.int (nI k)), none] [] (AM M (daysF (M 0) k)) := by
      intro n
      induction n with
      | zero => intro k h1 h2; omega
      | succ n ih =>
        intro k h1 h2 h3
        refine a_iload_n B dX7_out_26 rfl ?_
        refine a_sipush (v := 200) B dX7_out_27 (by decide) ?_
        refine a_icmp_ge 56 B dX7_out_30 (by decide) (fun c30 => ?_) (fun c30 => ?_)
        · have hk200 : k = 200 := by have := (nI_leI (a := 200) (b := k) (by omega) (by omega)).mp c30; omega
          refine a_aload_n B dX7_out_56 rfl ?_
          refine a_getR B fl_X7_7 (by decide) rfl rfl dX7_out_57 ?_
          refine a_iconst (v := 4) B dX7_out_60 (by decide) ?_
          refine a_iald 4 B (by decide) rfl rfl (by omega) (by decide) dX7_out_61 ?_
          rw [show AM M (daysF (M 0) k) 0 (0 + 4) = daysF (M 0) k 4 from by rw [AM_0]]
          refine a_iload_n B dX7_out_62 rfl ?_
          refine a_ishr B dX7_out_63 ?_
          refine a_iconst (v := 1) B dX7_out_64 (by decide) ?_
          refine a_iand B dX7_out_65 ?_
          refine a_iconst (v := 1) B dX7_out_66 (by decide) ?_
          refine a_icmp_ne 74 B dX7_out_67 (by decide) (fun c67 => ?_) (fun c67 => ?_)
          · have hq : outQ (M 0) sin k = false := decide_eq_false c67
            refine a_iconst (v := 0) B dX7_out_74 (by decide) ?_
            refine p_istore3 B dX7_out_75 (by decide) (k := ?_)
            refine a_aload_n B dX7_out_76 rfl ?_
            refine a_getR B fl_X7_16 (by decide) rfl rfl dX7_out_77 ?_
            refine a_aload_n B dX7_out_80 rfl ?_
            refine a_getR B fl_X7_7 (by decide) rfl rfl dX7_out_81 ?_
            refine a_callS2v B rfl cf_X7_copies lk_X7_146 st_X7_copies (m_back M _ (hi_days hI (fun _ _ => rfl) k)) dX7_out_84 (Nat.le_of_ble_eq_true rfl) ⟨Nat.le_of_ble_eq_true rfl, Nat.le_of_ble_eq_true rfl⟩ ⟨rfl, rfl⟩ ?_
            refine a_iload_n B dX7_out_87 rfl ?_
            refine a_if_eq 95 B dX7_out_88 (by decide) (fun c88 => ?_) (fun c88 => ?_)
            · refine a_aload_n B dX7_out_95 rfl ?_
              refine a_iconst (v := 3) B dX7_out_96 (by decide) ?_
              refine a_callV1r B rfl cf_X7_finds lk_X7_109 in_X7_finds se_X7_finds (wl_rc (p0 := 0) (by decide) rfl rfl rfl) (m_finds 3 (by decide) _) dX7_out_97 (Nat.le_of_ble_eq_true rfl) ⟨Nat.le_of_ble_eq_true rfl, Nat.le_of_ble_eq_true rfl⟩ ⟨rfl, rfl⟩ ?_
              subst hk200
              exact a_iret B hr hlk dX7_out_100 (rR_r (k := 3) (by unfold outX; rw [c4, if_pos rfl]; exact fst_nN h3 hq) rfl AM_f)
            refine a_iload_n B dX7_out_91 rfl ?_
            refine a_goto 100 B dX7_out_92 (by decide) ?_
            exact absurd rfl c88
          have hq : outQ (M 0) sin k = true := decide_eq_true c67
          refine a_iconst (v := 1) B dX7_out_70 (by decide) ?_
          refine a_goto 75 B dX7_out_71 (by decide) ?_
          refine p_istore3 B dX7_out_75 (by decide) (k := ?_)
          refine a_aload_n B dX7_out_76 rfl ?_
          refine a_getR B fl_X7_16 (by decide) rfl rfl dX7_out_77 ?_
          refine a_aload_n B dX7_out_80 rfl ?_
          refine a_getR B fl_X7_7 (by decide) rfl rfl dX7_out_81 ?_
          refine a_callS2v B rfl cf_X7_copies lk_X7_146 st_X7_copies (m_back M _ (hi_days hI (fun _ _ => rfl) k)) dX7_out_84 (Nat.le_of_ble_eq_true rfl) ⟨Nat.le_of_ble_eq_true rfl, Nat.le_of_ble_eq_true rfl⟩ ⟨rfl, rfl⟩ ?_
          refine a_iload_n B dX7_out_87 rfl ?_
          refine a_if_eq 95 B dX7_out_88 (by decide) (fun c88 => ?_) (fun c88 => ?_)
          · refine a_aload_n B dX7_out_95 rfl ?_
            refine a_iconst (v := 3) B dX7_out_96 (by decide) ?_
            refine a_callV1r B rfl cf_X7_finds lk_X7_109 in_X7_finds se_X7_finds (wl_rc (p0 := 0) (by decide) rfl rfl rfl) (m_finds 3 (by decide) _) dX7_out_97 (Nat.le_of_ble_eq_true rfl) ⟨Nat.le_of_ble_eq_true rfl, Nat.le_of_ble_eq_true rfl⟩ ⟨rfl, rfl⟩ ?_
            exact absurd c88 (by decide)
          refine a_iload_n B dX7_out_91 rfl ?_
          refine a_goto 100 B dX7_out_92 (by decide) ?_
          exact a_iret B hr hlk dX7_out_100 (rR_l (by unfold outX; rw [c4, if_pos rfl]; exact fst_nS h3 (by omega) hq) AM_q)
        have hlt0 : k < 200 := (nI_ltI (a := k) (b := 200) (by omega) (by omega)).mp (Int32.not_le.mp c30)
        refine a_aload_n B dX7_out_33 rfl ?_
        refine a_getR B fl_X7_7 (by decide) rfl rfl dX7_out_34 ?_
        refine a_iconst (v := 4) B dX7_out_37 (by decide) ?_
        refine a_iald 4 B (by decide) rfl rfl (by omega) (by decide) dX7_out_38 ?_
        rw [show AM M (daysF (M 0) k) 0 (0 + 4) = daysF (M 0) k 4 from by rw [AM_0]]
        refine a_iload_n B dX7_out_39 rfl ?_
        refine a_ishr B dX7_out_40 ?_
        refine a_iconst (v := 1) B dX7_out_41 (by decide) ?_
        refine a_iand B dX7_out_42 ?_
        refine a_if_ne 56 B dX7_out_43 (by decide) (fun c43 => ?_) (fun c43 => ?_)
        · refine a_aload_n B dX7_out_56 rfl ?_
          refine a_getR B fl_X7_7 (by decide) rfl rfl dX7_out_57 ?_
          refine a_iconst (v := 4) B dX7_out_60 (by decide) ?_
          refine a_iald 4 B (by decide) rfl rfl (by omega) (by decide) dX7_out_61 ?_
          rw [show AM M (daysF (M 0) k) 0 (0 + 4) = daysF (M 0) k 4 from by rw [AM_0]]
          refine a_iload_n B dX7_out_62 rfl ?_
          refine a_ishr B dX7_out_63 ?_
          refine a_iconst (v := 1) B dX7_out_64 (by decide) ?_
          refine a_iand B dX7_out_65 ?_
          refine a_iconst (v := 1) B dX7_out_66 (by decide) ?_
          refine a_icmp_ne 74 B dX7_out_67 (by decide) (fun c67 => ?_) (fun c67 => ?_)
          · have hq : outQ (M 0) sin k = false := decide_eq_false c67
            refine a_iconst (v := 0) B dX7_out_74 (by decide) ?_
            refine p_istore3 B dX7_out_75 (by decide) (k := ?_)
            refine a_aload_n B dX7_out_76 rfl ?_
            refine a_getR B fl_X7_16 (by decide) rfl rfl dX7_out_77 ?_
            refine a_aload_n B dX7_out_80 rfl ?_
            refine a_getR B fl_X7_7 (by decide) rfl rfl dX7_out_81 ?_
            refine a_callS2v B rfl cf_X7_copies lk_X7_146 st_X7_copies (m_back M _ (hi_days hI (fun _ _ => rfl) k)) dX7_out_84 (Nat.le_of_ble_eq_true rfl) ⟨Nat.le_of_ble_eq_true rfl, Nat.le_of_ble_eq_true rfl⟩ ⟨rfl, rfl⟩ ?_
            refine a_iload_n B dX7_out_87 rfl ?_
            refine a_if_eq 95 B dX7_out_88 (by decide) (fun c88 => ?_) (fun c88 => ?_)
            · refine a_aload_n B dX7_out_95 rfl ?_
              refine a_iconst (v := 3) B dX7_out_96 (by decide) ?_
              refine a_callV1r B rfl cf_X7_finds lk_X7_109 in_X7_finds se_X7_finds (wl_rc (p0 := 0) (by decide) rfl rfl rfl) (m_finds 3 (by decide) _) dX7_out_97 (Nat.le_of_ble_eq_true rfl) ⟨Nat.le_of_ble_eq_true rfl, Nat.le_of_ble_eq_true rfl⟩ ⟨rfl, rfl⟩ ?_
              exact absurd (and1_iff.mp c43) c67
            refine a_iload_n B dX7_out_91 rfl ?_
            refine a_goto 100 B dX7_out_92 (by decide) ?_
            exact absurd rfl c88
          have hq : outQ (M 0) sin k = true := decide_eq_true c67
          refine a_iconst (v := 1) B dX7_out_70 (by decide) ?_
          refine a_goto 75 B dX7_out_71 (by decide) ?_
          refine p_istore3 B dX7_out_75 (by decide) (k := ?_)
          refine a_aload_n B dX7_out_76 rfl ?_
          refine a_getR B fl_X7_16 (by decide) rfl rfl dX7_out_77 ?_
          refine a_aload_n B dX7_out_80 rfl ?_
          refine a_getR B fl_X7_7 (by decide) rfl rfl dX7_out_81 ?_
          refine a_callS2v B rfl cf_X7_copies lk_X7_146 st_X7_copies (m_back M _ (hi_days hI (fun _ _ => rfl) k)) dX7_out_84 (Nat.le_of_ble_eq_true rfl) ⟨Nat.le_of_ble_eq_true rfl, Nat.le_of_ble_eq_true rfl⟩ ⟨rfl, rfl⟩ ?_
          refine a_iload_n B dX7_out_87 rfl ?_
          refine a_if_eq 95 B dX7_out_88 (by decide) (fun c88 => ?_) (fun c88 => ?_)
          · refine a_aload_n B dX7_out_95 rfl ?_
            refine a_iconst (v := 3) B dX7_out_96 (by decide) ?_
            refine a_callV1r B rfl cf_X7_finds lk_X7_109 in_X7_finds se_X7_finds (wl_rc (p0 := 0) (by decide) rfl rfl rfl) (m_finds 3 (by decide) _) dX7_out_97 (Nat.le_of_ble_eq_true rfl) ⟨Nat.le_of_ble_eq_true rfl, Nat.le_of_ble_eq_true rfl⟩ ⟨rfl, rfl⟩ ?_
            exact absurd c88 (by decide)
          refine a_iload_n B dX7_out_91 rfl ?_
          refine a_goto 100 B dX7_out_92 (by decide) ?_
          exact a_iret B hr hlk dX7_out_100 (rR_l (by unfold outX; rw [c4, if_pos rfl]; exact fst_nS h3 (by omega) hq) AM_q)
        refine a_aload_n B dX7_out_46 rfl ?_
        refine a_callV0v B rfl cf_X7_dayGoes lk_X7_98 in_X7_dayGoes se_X7_dayGoes (wl_rc (p0 := 0) (by decide) rfl rfl rfl) (m_dayA M _ (Inv.vDays hI k)) dX7_out_47 (Nat.le_of_ble_eq_true rfl) ⟨Nat.le_of_ble_eq_true rfl, Nat.le_of_ble_eq_true rfl⟩ ⟨rfl, rfl⟩ ?_
        refine p_iinc2 1 B dX7_out_50 (by decide) (by decide) (k := ?_)
        refine a_goto 26 B dX7_out_53 (by decide) ?_
        rw [nI_1]
        exact ih (k + 1) (by omega) (by omega) (fst_no h3 (decide_eq_false (and1_0.mp c43)))
    exact loop 201 0 (by omega) (by omega) rfl
  have c4 := bI_eq0.mp c4
  refine a_aload_n B dX7_out_7 rfl ?_
  refine a_iconst (v := 0) B dX7_out_8 (by decide) ?_
  refine a_callV1r B rfl cf_X7_finds lk_X7_109 in_X7_finds se_X7_finds (wl_rc (p0 := 0) (by decide) rfl rfl rfl) (m_finds 0 (by decide) _) dX7_out_9 (Nat.le_of_ble_eq_true rfl) ⟨Nat.le_of_ble_eq_true rfl, Nat.le_of_ble_eq_true rfl⟩ ⟨rfl, rfl⟩ ?_
  exact a_iret B hr hlk dX7_out_12 (rR_r0 (k := 0) (by unfold outX; rw [c4]; rfl) rfl rfl)
set_option maxRecDepth 20000 in
theorem m_wise (p v : Int32) (M : Mem) (hI : Inv (M 0)) : CR l sk D cy A X mX7_wise 6 [.ref (A 0), .int p, .int v] M (rR (wisX (M 0) p v) M M) := by
  refine Con.of (lo := [some (.ref (A 0)), some (.int p), some (.int v), none, none]) cf_X7_wise (fun _ _ => wl_fst) 2 rfl (Nat.le_of_ble_eq_true rfl) (fun Pp Ee Ss Mm Aa Bb Me Cc A0 B hr hlk => ?_)
  have B : BS sk D cy (wl A cy 11 TM X) A0 Pp Ss Mm Aa Cc RX7 cX7_wise 5 := B
  rcases at_cases hI p with ⟨q, hqn, hq8, hvq, hip, hlt⟩ | ⟨hn, hip⟩
  · subst hvq
    refine a_aload_n B dX7_wise_0 rfl ?_
    refine a_iload_n B dX7_wise_1 rfl ?_
    refine a_callV1r B rfl cf_X7_isPriest lk_X7_123 in_X7_isPriest se_X7_isPriest (wl_rc (p0 := 0) (by decide) rfl rfl rfl) (m_isPriest _ _ hI) dX7_wise_2 (Nat.le_of_ble_eq_true rfl) ⟨Nat.le_of_ble_eq_true rfl, Nat.le_of_ble_eq_true rfl⟩ ⟨rfl, rfl⟩ ?_
    refine a_if_eq 20 B dX7_wise_5 (by decide) (fun c5 => ?_) (fun c5 => ?_)
    · exact absurd (show isP (M 0) (nI q) = false from bI_eq0.mp c5) (by rw [hip]; decide)
    refine a_iload_n B dX7_wise_8 rfl ?_
    refine a_i2l B dX7_wise_9 ?_
    refine a_lconst (v := 0) B dX7_wise_10 (by decide) ?_
    refine a_ldc2 B dX7_wise_11 kl_X7_155 ?_
    refine a_callS3r B rfl cf_X7_in lk_X7_42 st_X7_in (m_in v 0 8 _ _ (by first | rfl | decide) (by first | rfl | decide) _) dX7_wise_14 (Nat.le_of_ble_eq_true rfl) ⟨Nat.le_of_ble_eq_true rfl, Nat.le_of_ble_eq_true rfl⟩ ⟨rfl, rfl⟩ ?_
    refine a_if_ne 26 B dX7_wise_17 (by decide) (fun c17 => ?_) (fun c17 => ?_)
    · have c17 := bI_ne0.mp c17
      refine a_aload_n B dX7_wise_26 rfl ?_
      refine a_getR B fl_X7_7 (by decide) rfl rfl dX7_wise_27 ?_
      refine a_aload_n B dX7_wise_30 rfl ?_
      refine a_getR B fl_X7_16 (by decide) rfl rfl dX7_wise_31 ?_
      refine a_callS2v B rfl cf_X7_copies lk_X7_146 st_X7_copies (m_aside M) dX7_wise_34 (Nat.le_of_ble_eq_true rfl) ⟨Nat.le_of_ble_eq_true rfl, Nat.le_of_ble_eq_true rfl⟩ ⟨rfl, rfl⟩ ?_
      refine a_iconst (v := 0) B dX7_wise_37 (by decide) ?_
      refine p_istore3 B dX7_wise_38 (by decide) (k := ?_)
      have loop : ∀ n k, 201 ≤ k + n → k ≤ 200 → fstN (wisQ (M 0) q v) k = none → AW Pp l Ee (rmK 6 (34 * 6)) Ss Mm Aa Bb Me Cc D (wl A cy 11 TM X) A0 5 0 0 (MQ Bb (QG D (wl A cy 11 TM X) A0 (rR (wisX (M 0) (nI q) v) M M)) Aa Ss 0 0 A0) 39 [some (.ref (A 0)), some (.int (nI q)), some (.int v), some (.int (nI k)), none] [] (AM M (daysF (M 0) k)) := by
        intro n
        induction n with
        | zero => intro k h1 h2; omega
        | succ n ih =>
          intro k h1 h2 h3
          refine a_iload_n B dX7_wise_39 rfl ?_
          refine a_sipush (v := 200) B dX7_wise_40 (by decide) ?_
          refine a_icmp_ge 69 B dX7_wise_43 (by decide) (fun c43 => ?_) (fun c43 => ?_)
          · have hk200 : k = 200 := by have := (nI_leI (a := 200) (b := k) (by omega) (by omega)).mp c43; omega
            refine a_aload_n B dX7_wise_69 rfl ?_
            refine a_iload_n B dX7_wise_70 rfl ?_
            refine a_iconst (v := 3) B dX7_wise_71 (by decide) ?_
            refine a_callV2r B rfl cf_X7_its lk_X7_54 in_X7_its se_X7_its (wl_rc (p0 := 0) (by decide) rfl rfl rfl) (m_its q 3 (36 + q) (by omega) (by decide) (by omega) _) dX7_wise_72 (Nat.le_of_ble_eq_true rfl) ⟨Nat.le_of_ble_eq_true rfl, Nat.le_of_ble_eq_true rfl⟩ ⟨rfl, rfl⟩ ?_
            rw [AM_0]
            refine a_callS1r B rfl cf_X7_ones lk_X7_58 st_X7_ones (m_ones _ _) dX7_wise_75 (Nat.le_of_ble_eq_true rfl) ⟨Nat.le_of_ble_eq_true rfl, Nat.le_of_ble_eq_true rfl⟩ ⟨rfl, rfl⟩ ?_
            refine a_iload_n B dX7_wise_78 rfl ?_
            refine a_icmp_lt 86 B dX7_wise_79 (by decide) (fun c79 => ?_) (fun c79 => ?_)
            · have hq : wisQ (M 0) q v k = false := by unfold wisQ; rw [decide_eq_true c79]; rfl
              refine a_iconst (v := 0) B dX7_wise_86 (by decide) ?_
              refine p_istore4 B dX7_wise_87 (by decide) (k := ?_)
              refine a_aload_n B dX7_wise_89 rfl ?_
              refine a_getR B fl_X7_16 (by decide) rfl rfl dX7_wise_90 ?_
              refine a_aload_n B dX7_wise_93 rfl ?_
              refine a_getR B fl_X7_7 (by decide) rfl rfl dX7_wise_94 ?_
              refine a_callS2v B rfl cf_X7_copies lk_X7_146 st_X7_copies (m_back M _ (hi_days hI (fun _ _ => rfl) k)) dX7_wise_97 (Nat.le_of_ble_eq_true rfl) ⟨Nat.le_of_ble_eq_true rfl, Nat.le_of_ble_eq_true rfl⟩ ⟨rfl, rfl⟩ ?_
              refine a_iload B dX7_wise_100 rfl ?_
              refine a_if_eq 109 B dX7_wise_102 (by decide) (fun c102 => ?_) (fun c102 => ?_)
              · refine a_aload_n B dX7_wise_109 rfl ?_
                refine a_iconst (v := 3) B dX7_wise_110 (by decide) ?_
                refine a_callV1r B rfl cf_X7_finds lk_X7_109 in_X7_finds se_X7_finds (wl_rc (p0 := 0) (by decide) rfl rfl rfl) (m_finds 3 (by decide) _) dX7_wise_111 (Nat.le_of_ble_eq_true rfl) ⟨Nat.le_of_ble_eq_true rfl, Nat.le_of_ble_eq_true rfl⟩ ⟨rfl, rfl⟩ ?_
                subst hk200
                exact a_iret B hr hlk dX7_wise_114 (rR_r (k := 3) (by unfold wisX; rw [hip, show wi v 8 = true from c17, if_pos (show (true && true) = true from rfl), nn_nI (show q < 2 ^ 31 by omega)]; exact fst_nN h3 hq) rfl AM_f)
              refine a_iload_n B dX7_wise_105 rfl ?_
              refine a_goto 114 B dX7_wise_106 (by decide) ?_
              exact absurd rfl c102
            have hq : wisQ (M 0) q v k = true := by unfold wisQ; rw [decide_eq_false c79]; rfl
            refine a_iconst (v := 1) B dX7_wise_82 (by decide) ?_
            refine a_goto 87 B dX7_wise_83 (by decide) ?_
            refine p_istore4 B dX7_wise_87 (by decide) (k := ?_)
            refine a_aload_n B dX7_wise_89 rfl ?_
            refine a_getR B fl_X7_16 (by decide) rfl rfl dX7_wise_90 ?_
            refine a_aload_n B dX7_wise_93 rfl ?_
            refine a_getR B fl_X7_7 (by decide) rfl rfl dX7_wise_94 ?_
            refine a_callS2v B rfl cf_X7_copies lk_X7_146 st_X7_copies (m_back M _ (hi_days hI (fun _ _ => rfl) k)) dX7_wise_97 (Nat.le_of_ble_eq_true rfl) ⟨Nat.le_of_ble_eq_true rfl, Nat.le_of_ble_eq_true rfl⟩ ⟨rfl, rfl⟩ ?_
            refine a_iload B dX7_wise_100 rfl ?_
            refine a_if_eq 109 B dX7_wise_102 (by decide) (fun c102 => ?_) (fun c102 => ?_)
            · refine a_aload_n B dX7_wise_109 rfl ?_
              refine a_iconst (v := 3) B dX7_wise_110 (by decide) ?_
              refine a_callV1r B rfl cf_X7_finds lk_X7_109 in_X7_finds se_X7_finds (wl_rc (p0 := 0) (by decide) rfl rfl rfl) (m_finds 3 (by decide) _) dX7_wise_111 (Nat.le_of_ble_eq_true rfl) ⟨Nat.le_of_ble_eq_true rfl, Nat.le_of_ble_eq_true rfl⟩ ⟨rfl, rfl⟩ ?_
              exact absurd c102 (by decide)
            refine a_iload_n B dX7_wise_105 rfl ?_
            refine a_goto 114 B dX7_wise_106 (by decide) ?_
            exact a_iret B hr hlk dX7_wise_114 (rR_l (by unfold wisX; rw [hip, show wi v 8 = true from c17, if_pos (show (true && true) = true from rfl), nn_nI (show q < 2 ^ 31 by omega)]; exact fst_nS h3 (by omega) hq) AM_q)
          have hlt0 : k < 200 := (nI_ltI (a := k) (b := 200) (by omega) (by omega)).mp (Int32.not_le.mp c43)
          refine a_aload_n B dX7_wise_46 rfl ?_
          refine a_iload_n B dX7_wise_47 rfl ?_
          refine a_iconst (v := 3) B dX7_wise_48 (by decide) ?_
          refine a_callV2r B rfl cf_X7_its lk_X7_54 in_X7_its se_X7_its (wl_rc (p0 := 0) (by decide) rfl rfl rfl) (m_its q 3 (36 + q) (by omega) (by decide) (by omega) _) dX7_wise_49 (Nat.le_of_ble_eq_true rfl) ⟨Nat.le_of_ble_eq_true rfl, Nat.le_of_ble_eq_true rfl⟩ ⟨rfl, rfl⟩ ?_
          rw [AM_0]
          refine a_callS1r B rfl cf_X7_ones lk_X7_58 st_X7_ones (m_ones _ _) dX7_wise_52 (Nat.le_of_ble_eq_true rfl) ⟨Nat.le_of_ble_eq_true rfl, Nat.le_of_ble_eq_true rfl⟩ ⟨rfl, rfl⟩ ?_
          refine a_iload_n B dX7_wise_55 rfl ?_
          refine a_icmp_ge 69 B dX7_wise_56 (by decide) (fun c56 => ?_) (fun c56 => ?_)
          · refine a_aload_n B dX7_wise_69 rfl ?_
            refine a_iload_n B dX7_wise_70 rfl ?_
            refine a_iconst (v := 3) B dX7_wise_71 (by decide) ?_
            refine a_callV2r B rfl cf_X7_its lk_X7_54 in_X7_its se_X7_its (wl_rc (p0 := 0) (by decide) rfl rfl rfl) (m_its q 3 (36 + q) (by omega) (by decide) (by omega) _) dX7_wise_72 (Nat.le_of_ble_eq_true rfl) ⟨Nat.le_of_ble_eq_true rfl, Nat.le_of_ble_eq_true rfl⟩ ⟨rfl, rfl⟩ ?_
            rw [AM_0]
            refine a_callS1r B rfl cf_X7_ones lk_X7_58 st_X7_ones (m_ones _ _) dX7_wise_75 (Nat.le_of_ble_eq_true rfl) ⟨Nat.le_of_ble_eq_true rfl, Nat.le_of_ble_eq_true rfl⟩ ⟨rfl, rfl⟩ ?_
            refine a_iload_n B dX7_wise_78 rfl ?_
            refine a_icmp_lt 86 B dX7_wise_79 (by decide) (fun c79 => ?_) (fun c79 => ?_)
            · have hq : wisQ (M 0) q v k = false := by unfold wisQ; rw [decide_eq_true c79]; rfl
              refine a_iconst (v := 0) B dX7_wise_86 (by decide) ?_
              refine p_istore4 B dX7_wise_87 (by decide) (k := ?_)
              refine a_aload_n B dX7_wise_89 rfl ?_
              refine a_getR B fl_X7_16 (by decide) rfl rfl dX7_wise_90 ?_
              refine a_aload_n B dX7_wise_93 rfl ?_
              refine a_getR B fl_X7_7 (by decide) rfl rfl dX7_wise_94 ?_
              refine a_callS2v B rfl cf_X7_copies lk_X7_146 st_X7_copies (m_back M _ (hi_days hI (fun _ _ => rfl) k)) dX7_wise_97 (Nat.le_of_ble_eq_true rfl) ⟨Nat.le_of_ble_eq_true rfl, Nat.le_of_ble_eq_true rfl⟩ ⟨rfl, rfl⟩ ?_
              refine a_iload B dX7_wise_100 rfl ?_
              refine a_if_eq 109 B dX7_wise_102 (by decide) (fun c102 => ?_) (fun c102 => ?_)
              · refine a_aload_n B dX7_wise_109 rfl ?_
                refine a_iconst (v := 3) B dX7_wise_110 (by decide) ?_
                refine a_callV1r B rfl cf_X7_finds lk_X7_109 in_X7_finds se_X7_finds (wl_rc (p0 := 0) (by decide) rfl rfl rfl) (m_finds 3 (by decide) _) dX7_wise_111 (Nat.le_of_ble_eq_true rfl) ⟨Nat.le_of_ble_eq_true rfl, Nat.le_of_ble_eq_true rfl⟩ ⟨rfl, rfl⟩ ?_
                exact absurd c79 (Int32.not_lt.mpr c56)
              refine a_iload_n B dX7_wise_105 rfl ?_
              refine a_goto 114 B dX7_wise_106 (by decide) ?_
              exact absurd rfl c102
            have hq : wisQ (M 0) q v k = true := by unfold wisQ; rw [decide_eq_false c79]; rfl
            refine a_iconst (v := 1) B dX7_wise_82 (by decide) ?_
            refine a_goto 87 B dX7_wise_83 (by decide) ?_
            refine p_istore4 B dX7_wise_87 (by decide) (k := ?_)
            refine a_aload_n B dX7_wise_89 rfl ?_
            refine a_getR B fl_X7_16 (by decide) rfl rfl dX7_wise_90 ?_
            refine a_aload_n B dX7_wise_93 rfl ?_
            refine a_getR B fl_X7_7 (by decide) rfl rfl dX7_wise_94 ?_
            refine a_callS2v B rfl cf_X7_copies lk_X7_146 st_X7_copies (m_back M _ (hi_days hI (fun _ _ => rfl) k)) dX7_wise_97 (Nat.le_of_ble_eq_true rfl) ⟨Nat.le_of_ble_eq_true rfl, Nat.le_of_ble_eq_true rfl⟩ ⟨rfl, rfl⟩ ?_
            refine a_iload B dX7_wise_100 rfl ?_
            refine a_if_eq 109 B dX7_wise_102 (by decide) (fun c102 => ?_) (fun c102 => ?_)
            · refine a_aload_n B dX7_wise_109 rfl ?_
              refine a_iconst (v := 3) B dX7_wise_110 (by decide) ?_
              refine a_callV1r B rfl cf_X7_finds lk_X7_109 in_X7_finds se_X7_finds (wl_rc (p0 := 0) (by decide) rfl rfl rfl) (m_finds 3 (by decide) _) dX7_wise_111 (Nat.le_of_ble_eq_true rfl) ⟨Nat.le_of_ble_eq_true rfl, Nat.le_of_ble_eq_true rfl⟩ ⟨rfl, rfl⟩ ?_
              exact absurd c102 (by decide)
            refine a_iload_n B dX7_wise_105 rfl ?_
            refine a_goto 114 B dX7_wise_106 (by decide) ?_
            exact a_iret B hr hlk dX7_wise_114 (rR_l (by unfold wisX; rw [hip, show wi v 8 = true from c17, if_pos (show (true && true) = true from rfl), nn_nI (show q < 2 ^ 31 by omega)]; exact fst_nS h3 (by omega) hq) AM_q)
          refine a_aload_n B dX7_wise_59 rfl ?_
          refine a_callV0v B rfl cf_X7_dayGoes lk_X7_98 in_X7_dayGoes se_X7_dayGoes (wl_rc (p0 := 0) (by decide) rfl rfl rfl) (m_dayA M _ (Inv.vDays hI k)) dX7_wise_60 (Nat.le_of_ble_eq_true rfl) ⟨Nat.le_of_ble_eq_true rfl, Nat.le_of_ble_eq_true rfl⟩ ⟨rfl, rfl⟩ ?_
          refine p_iinc3 1 B dX7_wise_63 (by decide) (by decide) (k := ?_)
          refine a_goto 39 B dX7_wise_66 (by decide) ?_
          rw [nI_1]
          exact ih (k + 1) (by omega) (by omega) (fst_no h3 (by unfold wisQ; rw [decide_eq_true (Int32.not_le.mp c56)]; rfl))
      exact loop 201 0 (by omega) (by omega) rfl
    have c17 := bI_eq0.mp c17
    refine a_aload_n B dX7_wise_20 rfl ?_
    refine a_iconst (v := 0) B dX7_wise_21 (by decide) ?_
    refine a_callV1r B rfl cf_X7_finds lk_X7_109 in_X7_finds se_X7_finds (wl_rc (p0 := 0) (by decide) rfl rfl rfl) (m_finds 0 (by decide) _) dX7_wise_22 (Nat.le_of_ble_eq_true rfl) ⟨Nat.le_of_ble_eq_true rfl, Nat.le_of_ble_eq_true rfl⟩ ⟨rfl, rfl⟩ ?_
    exact a_iret B hr hlk dX7_wise_25 (rR_r0 (k := 0) (by unfold wisX; rw [show wi v 8 = false from c17, Bool.and_false]; rfl) rfl rfl)
  · refine a_aload_n B dX7_wise_0 rfl ?_
    refine a_iload_n B dX7_wise_1 rfl ?_
    refine a_callV1r B rfl cf_X7_isPriest lk_X7_123 in_X7_isPriest se_X7_isPriest (wl_rc (p0 := 0) (by decide) rfl rfl rfl) (m_isPriest _ _ hI) dX7_wise_2 (Nat.le_of_ble_eq_true rfl) ⟨Nat.le_of_ble_eq_true rfl, Nat.le_of_ble_eq_true rfl⟩ ⟨rfl, rfl⟩ ?_
    refine a_if_eq 20 B dX7_wise_5 (by decide) (fun c5 => ?_) (fun c5 => ?_)
    · refine a_aload_n B dX7_wise_20 rfl ?_
      refine a_iconst (v := 0) B dX7_wise_21 (by decide) ?_
      refine a_callV1r B rfl cf_X7_finds lk_X7_109 in_X7_finds se_X7_finds (wl_rc (p0 := 0) (by decide) rfl rfl rfl) (m_finds 0 (by decide) _) dX7_wise_22 (Nat.le_of_ble_eq_true rfl) ⟨Nat.le_of_ble_eq_true rfl, Nat.le_of_ble_eq_true rfl⟩ ⟨rfl, rfl⟩ ?_
      exact a_iret B hr hlk dX7_wise_25 (rR_r0 (k := 0) (by unfold wisX; rw [hip]; rfl) rfl rfl)
    exact absurd (show isP (M 0) p = true from bI_ne0.mp c5) (by rw [hip]; decide)
end R7
