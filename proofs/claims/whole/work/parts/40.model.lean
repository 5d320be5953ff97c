section R1

theorem toL_lt {a b : Int32} : a.toInt64 < b.toInt64 ↔ a < b := by
  rw [Int64.lt_iff_toInt_lt, Int32.lt_iff_toInt_lt, Int32.toInt_toInt64, Int32.toInt_toInt64]
theorem cmp_l {a b : Int32} : (lg_cmp a.toInt64 b.toInt64 < 0) ↔ a < b := by
  unfold lg_cmp
  by_cases h : b.toInt64 < a.toInt64
  · rw [if_pos h]
    have h2 := toL_lt.mp h
    exact ⟨fun q => absurd q (by decide), fun q => absurd (Int32.lt_trans q h2) (fun q2 => Int32.lt_irrefl q2)⟩
  · rw [if_neg h]
    by_cases h3 : a.toInt64 = b.toInt64
    · rw [if_pos h3]
      refine ⟨fun q => absurd q (by decide), fun q => ?_⟩
      have h4 := toL_lt.mpr q
      rw [h3] at h4
      exact (Int64.lt_irrefl h4).elim
    · rw [if_neg h3]
      refine ⟨fun _ => ?_, fun _ => by decide⟩
      refine toL_lt.mp ?_
      rw [Int64.lt_iff_toInt_lt] at h ⊢
      have h5 : a.toInt64.toInt ≠ b.toInt64.toInt := fun q => h3 (Int64.toInt_inj.mp q)
      omega
theorem cmp_g {a b : Int32} : (0 < lg_cmp a.toInt64 b.toInt64) ↔ b < a := by
  unfold lg_cmp
  by_cases h : b.toInt64 < a.toInt64
  · rw [if_pos h]
    exact ⟨fun _ => toL_lt.mp h, fun _ => by decide⟩
  · rw [if_neg h]
    refine ⟨fun q => ?_, fun q => absurd (toL_lt.mpr q) h⟩
    split at q <;> exact absurd q (by decide)
def bt (v lo hi : Int32) : Bool := !decide (v < lo) && !decide (hi < v)
theorem lv_pred0 (N : Nat) (hN : N ≤ 8) (v : Int32) : (!decide (v < 0) && !decide (nI N - 1 < v)) = (!decide (v < 0) && !decide (nI N ≤ v)) := by
  by_cases h : v < 0
  · rw [decide_eq_true h]; rfl
  · obtain ⟨q, hq, eq⟩ := nI_of h
    subst eq
    have e : (nI N - 1 < nI q) ↔ (nI N ≤ nI q) := by
      cases N with
      | zero => exact ⟨fun _ => nI_pos' hq, fun _ => Int32.lt_of_lt_of_le (b := 0) (by decide) (nI_pos' hq)⟩
      | succ m =>
        rw [show (1 : Int32) = nI 1 from rfl, pk_sub (by omega), Nat.add_sub_cancel, nI_ltI (by omega) hq, nI_leI (by omega) hq]
        omega
    simp only [e]
theorem icB_eq (v : Int32) : icB v = (wi v 740 && !decide (40 < rmI v 100)) := by
  rcases wi_cases (t := 740) v (by omega) with ⟨n, hn, rfl, hw⟩ | hw
  · have hw : wi (nI n) 740 = true := hw
    rw [hw]
    unfold icB
    rw [decide_eq_false (nI_pos (by omega)), show nI n / 100 = nI (n / 100) from pk_div (d := 100) (by omega) (by omega) (by omega), decide_eq_false (show ¬ (8 : Int32) ≤ nI (n / 100) from fun q => absurd ((nI_leI (a := 8) (b := n / 100) (by omega) (by omega)).mp q) (by omega))]
    rfl
  · have hw : wi v 740 = false := hw
    rw [hw, Bool.false_and]
    cases h : icB v with
    | false => rfl
    | true =>
      obtain ⟨n, h1, h2, h3⟩ := ic_parts h
      have h4 : wi v (nI 740) = true := by rw [h3]; exact wi_in h1 (by omega)
      exact absurd (hw.symm.trans h4) (by decide)
theorem bt_wi {v t : Int32} : bt v 0 t = wi v t := rfl
theorem ix_its (p w : Nat) : (12 : Int32) + 8 * nI w + nI p = nI (12 + 8 * w + p) := by
  rw [show (12 : Int32) = nI 12 from rfl, show (8 : Int32) = nI 8 from rfl, pk_mul, nI_add, nI_add]

variable {l : Launch} {sk : (Nat → Nat) × (Nat → Nat)} {D : va_G} {cy : Nat → ClassId} {A : Nat → Nat} {X : va_W}
set_option maxRecDepth 20000 in
theorem m_in (v lo hi : Int32) (a b : Int64) (ha : a = lo.toInt64) (hb : b = hi.toInt64) (M : Mem) : CR l sk D cy A X mX7_in 0 [.long v.toInt64, .long a, .long b] M (rI (bI (bt v lo hi)) M) := by
  refine Con.of (lo := [some (.long v.toInt64), none, some (.long a), none, some (.long b), none]) cf_X7_in (fun _ _ => wl_fst) 0 rfl (Nat.le_of_ble_eq_true rfl) (fun Pp Ee Ss Mm Aa Bb Me Cc A0 B hr hlk => ?_)
  have B : BS sk D cy (wl A cy 11 TM X) A0 Pp Ss Mm Aa Cc RX7 cX7_in 6 := B
  subst ha
  subst hb
  refine a_lload_n B dX7_in_0 rfl ?_
  refine a_lload_n B dX7_in_1 rfl ?_
  refine a_lcmp B dX7_in_2 ?_
  refine a_if_lt 17 B dX7_in_3 (by decide) (fun c3 => ?_) (fun c3 => ?_)
  · refine a_iconst (v := 0) B dX7_in_17 (by decide) ?_
    exact a_zret B hr hlk rfl dX7_in_18 ⟨by unfold bt; rw [decide_eq_true (cmp_l.mp c3)]; rfl, rfl⟩
  refine a_lload_n B dX7_in_6 rfl ?_
  refine a_lload B dX7_in_7 rfl ?_
  refine a_lcmp B dX7_in_9 ?_
  refine a_if_gt 17 B dX7_in_10 (by decide) (fun c10 => ?_) (fun c10 => ?_)
  · refine a_iconst (v := 0) B dX7_in_17 (by decide) ?_
    exact a_zret B hr hlk rfl dX7_in_18 ⟨by unfold bt; rw [decide_eq_false (fun q => c3 (cmp_l.mpr q)), decide_eq_true (cmp_g.mp c10)]; rfl, rfl⟩
  refine a_iconst (v := 1) B dX7_in_13 (by decide) ?_
  refine a_goto 18 B dX7_in_14 (by decide) ?_
  exact a_zret B hr hlk rfl dX7_in_18 ⟨by unfold bt; rw [decide_eq_false (fun q => c3 (cmp_l.mpr q)), decide_eq_false (fun q => c10 (cmp_g.mpr q))]; rfl, rfl⟩
set_option maxRecDepth 20000 in
theorem m_held (v lo hi : Int32) (M : Mem) : CR l sk D cy A X mX7_held 0 [.int v, .int lo, .int hi] M (rI (hld v lo hi) M) := by
  refine Con.of (lo := [some (.int v), some (.int lo), some (.int hi)]) cf_X7_held (fun _ _ => wl_fst) 0 rfl (Nat.le_of_ble_eq_true rfl) (fun Pp Ee Ss Mm Aa Bb Me Cc A0 B hr hlk => ?_)
  have B : BS sk D cy (wl A cy 11 TM X) A0 Pp Ss Mm Aa Cc RX7 cX7_held 3 := B
  refine a_iload_n B dX7_held_0 rfl ?_
  refine a_iload_n B dX7_held_1 rfl ?_
  refine a_icmp_ge 9 B dX7_held_2 (by decide) (fun c2 => ?_) (fun c2 => ?_)
  · refine a_iload_n B dX7_held_9 rfl ?_
    refine a_iload_n B dX7_held_10 rfl ?_
    refine a_icmp_le 18 B dX7_held_11 (by decide) (fun c11 => ?_) (fun c11 => ?_)
    · refine a_iload_n B dX7_held_18 rfl ?_
      exact a_iret B hr hlk dX7_held_19 ⟨by unfold hld; rw [if_neg (Int32.not_lt.mpr c2), if_neg (Int32.not_lt.mpr c11)], rfl⟩
    refine a_iload_n B dX7_held_14 rfl ?_
    refine a_goto 19 B dX7_held_15 (by decide) ?_
    exact a_iret B hr hlk dX7_held_19 ⟨by unfold hld; rw [if_neg (Int32.not_lt.mpr c2), if_pos (Int32.not_le.mp c11)], rfl⟩
  refine a_iload_n B dX7_held_5 rfl ?_
  refine a_goto 19 B dX7_held_6 (by decide) ?_
  exact a_iret B hr hlk dX7_held_19 ⟨by unfold hld; rw [if_pos (Int32.not_le.mp c2)], rfl⟩
set_option maxRecDepth 20000 in
theorem m_isSin (v : Int32) (M : Mem) : CR l sk D cy A X mX7_isSin 1 [.int v] M (rI (bI (wi v 7)) M) := by
  refine Con.of (lo := [some (.int v)]) cf_X7_isSin (fun _ _ => wl_fst) 0 rfl (Nat.le_of_ble_eq_true rfl) (fun Pp Ee Ss Mm Aa Bb Me Cc A0 B hr hlk => ?_)
  have B : BS sk D cy (wl A cy 11 TM X) A0 Pp Ss Mm Aa Cc RX7 cX7_isSin 1 := B
  refine a_iload_n B dX7_isSin_0 rfl ?_
  refine a_i2l B dX7_isSin_1 ?_
  refine a_lconst (v := 0) B dX7_isSin_2 (by decide) ?_
  refine a_ldc2 B dX7_isSin_3 kl_X7_46 ?_
  refine a_callS3r B rfl cf_X7_in lk_X7_42 st_X7_in (m_in v 0 7 _ _ (by first | rfl | decide) (by first | rfl | decide) _) dX7_isSin_6 (Nat.le_of_ble_eq_true rfl) ⟨Nat.le_of_ble_eq_true rfl, Nat.le_of_ble_eq_true rfl⟩ ⟨rfl, rfl⟩ ?_
  exact a_zret B hr hlk (nar_b _) dX7_isSin_9 ⟨rfl, rfl⟩
set_option maxRecDepth 20000 in
theorem m_isPlace (v : Int32) (M : Mem) : CR l sk D cy A X mX7_isPlace 1 [.int v] M (rI (bI (wi v 5)) M) := by
  refine Con.of (lo := [some (.int v)]) cf_X7_isPlace (fun _ _ => wl_fst) 0 rfl (Nat.le_of_ble_eq_true rfl) (fun Pp Ee Ss Mm Aa Bb Me Cc A0 B hr hlk => ?_)
  have B : BS sk D cy (wl A cy 11 TM X) A0 Pp Ss Mm Aa Cc RX7 cX7_isPlace 1 := B
  refine a_iload_n B dX7_isPlace_0 rfl ?_
  refine a_i2l B dX7_isPlace_1 ?_
  refine a_lconst (v := 0) B dX7_isPlace_2 (by decide) ?_
  refine a_ldc2 B dX7_isPlace_3 kl_X7_48 ?_
  refine a_callS3r B rfl cf_X7_in lk_X7_42 st_X7_in (m_in v 0 5 _ _ (by first | rfl | decide) (by first | rfl | decide) _) dX7_isPlace_6 (Nat.le_of_ble_eq_true rfl) ⟨Nat.le_of_ble_eq_true rfl, Nat.le_of_ble_eq_true rfl⟩ ⟨rfl, rfl⟩ ?_
  exact a_zret B hr hlk (nar_b _) dX7_isPlace_9 ⟨rfl, rfl⟩
set_option maxRecDepth 20000 in
theorem m_areSins (v : Int32) (M : Mem) : CR l sk D cy A X mX7_areSins 1 [.int v] M (rI (bI (wi v 255)) M) := by
  refine Con.of (lo := [some (.int v)]) cf_X7_areSins (fun _ _ => wl_fst) 0 rfl (Nat.le_of_ble_eq_true rfl) (fun Pp Ee Ss Mm Aa Bb Me Cc A0 B hr hlk => ?_)
  have B : BS sk D cy (wl A cy 11 TM X) A0 Pp Ss Mm Aa Cc RX7 cX7_areSins 1 := B
  refine a_iload_n B dX7_areSins_0 rfl ?_
  refine a_i2l B dX7_areSins_1 ?_
  refine a_lconst (v := 0) B dX7_areSins_2 (by decide) ?_
  refine a_ldc2 B dX7_areSins_3 kl_X7_50 ?_
  refine a_callS3r B rfl cf_X7_in lk_X7_42 st_X7_in (m_in v 0 255 _ _ (by first | rfl | decide) (by first | rfl | decide) _) dX7_areSins_6 (Nat.le_of_ble_eq_true rfl) ⟨Nat.le_of_ble_eq_true rfl, Nat.le_of_ble_eq_true rfl⟩ ⟨rfl, rfl⟩ ?_
  exact a_zret B hr hlk (nar_b _) dX7_areSins_9 ⟨rfl, rfl⟩
set_option maxRecDepth 20000 in
theorem m_isShort (v : Int32) (M : Mem) : CR l sk D cy A X mX7_isShort 1 [.int v] M (rI (bI (wi v 60)) M) := by
  refine Con.of (lo := [some (.int v)]) cf_X7_isShort (fun _ _ => wl_fst) 0 rfl (Nat.le_of_ble_eq_true rfl) (fun Pp Ee Ss Mm Aa Bb Me Cc A0 B hr hlk => ?_)
  have B : BS sk D cy (wl A cy 11 TM X) A0 Pp Ss Mm Aa Cc RX7 cX7_isShort 1 := B
  refine a_iload_n B dX7_isShort_0 rfl ?_
  refine a_i2l B dX7_isShort_1 ?_
  refine a_lconst (v := 0) B dX7_isShort_2 (by decide) ?_
  refine a_ldc2 B dX7_isShort_3 kl_X7_132 ?_
  refine a_callS3r B rfl cf_X7_in lk_X7_42 st_X7_in (m_in v 0 60 _ _ (by first | rfl | decide) (by first | rfl | decide) _) dX7_isShort_6 (Nat.le_of_ble_eq_true rfl) ⟨Nat.le_of_ble_eq_true rfl, Nat.le_of_ble_eq_true rfl⟩ ⟨rfl, rfl⟩ ?_
  exact a_zret B hr hlk (nar_b _) dX7_isShort_9 ⟨rfl, rfl⟩
set_option maxRecDepth 20000 in
theorem m_isSheet (v : Int32) (M : Mem) : CR l sk D cy A X mX7_isSheet 1 [.int v] M (rI (bI (wi v 3)) M) := by
  refine Con.of (lo := [some (.int v)]) cf_X7_isSheet (fun _ _ => wl_fst) 0 rfl (Nat.le_of_ble_eq_true rfl) (fun Pp Ee Ss Mm Aa Bb Me Cc A0 B hr hlk => ?_)
  have B : BS sk D cy (wl A cy 11 TM X) A0 Pp Ss Mm Aa Cc RX7 cX7_isSheet 1 := B
  refine a_iload_n B dX7_isSheet_0 rfl ?_
  refine a_i2l B dX7_isSheet_1 ?_
  refine a_lconst (v := 0) B dX7_isSheet_2 (by decide) ?_
  refine a_ldc2 B dX7_isSheet_3 kl_X7_293 ?_
  refine a_callS3r B rfl cf_X7_in lk_X7_42 st_X7_in (m_in v 0 3 _ _ (by first | rfl | decide) (by first | rfl | decide) _) dX7_isSheet_6 (Nat.le_of_ble_eq_true rfl) ⟨Nat.le_of_ble_eq_true rfl, Nat.le_of_ble_eq_true rfl⟩ ⟨rfl, rfl⟩ ?_
  exact a_zret B hr hlk (nar_b _) dX7_isSheet_9 ⟨rfl, rfl⟩
set_option maxRecDepth 20000 in
theorem m_isPriest (v : Int32) (M : Mem) (hI : Inv (M 0)) : CR l sk D cy A X mX7_isPriest 1 [.ref (A 0), .int v] M (rI (bI (isP (M 0) v)) M) := by
  refine Con.of (lo := [some (.ref (A 0)), some (.int v)]) cf_X7_isPriest (fun _ _ => wl_fst) 0 rfl (Nat.le_of_ble_eq_true rfl) (fun Pp Ee Ss Mm Aa Bb Me Cc A0 B hr hlk => ?_)
  have B : BS sk D cy (wl A cy 11 TM X) A0 Pp Ss Mm Aa Cc RX7 cX7_isPriest 2 := B
  obtain ⟨N, hN, eN, eNo⟩ := hI.n
  have hz : (!decide (v < 0) && !decide (M 0 0 - 1 < v)) = isP (M 0) v := by
    unfold isP
    rw [eN, lv_pred0 N hN v]
  refine a_iload_n B dX7_isPriest_0 rfl ?_
  refine a_i2l B dX7_isPriest_1 ?_
  refine a_lconst (v := 0) B dX7_isPriest_2 (by decide) ?_
  refine a_aload_n B dX7_isPriest_3 rfl ?_
  refine a_getR B fl_X7_7 (by decide) rfl rfl dX7_isPriest_4 ?_
  refine a_iconst (v := 0) B dX7_isPriest_7 (by decide) ?_
  refine a_iald 0 B (by decide) rfl rfl (by omega) (by decide) dX7_isPriest_8 ?_
  refine a_iconst (v := 1) B dX7_isPriest_9 (by decide) ?_
  refine a_isub B dX7_isPriest_10 ?_
  refine a_i2l B dX7_isPriest_11 ?_
  refine a_callS3r B rfl cf_X7_in lk_X7_42 st_X7_in (m_in v 0 (M 0 0 - 1) _ _ (by first | rfl | decide) rfl _) dX7_isPriest_12 (Nat.le_of_ble_eq_true rfl) ⟨Nat.le_of_ble_eq_true rfl, Nat.le_of_ble_eq_true rfl⟩ ⟨rfl, rfl⟩ ?_
  exact a_zret B hr hlk (nar_b _) dX7_isPriest_15 ⟨by unfold bt; rw [hz], rfl⟩
set_option maxRecDepth 20000 in
theorem m_isConfession (v : Int32) (M : Mem) : CR l sk D cy A X mX7_isConfession 1 [.int v] M (rI (bI (icB v)) M) := by
  refine Con.of (lo := [some (.int v)]) cf_X7_isConfession (fun _ _ => wl_fst) 0 rfl (Nat.le_of_ble_eq_true rfl) (fun Pp Ee Ss Mm Aa Bb Me Cc A0 B hr hlk => ?_)
  have B : BS sk D cy (wl A cy 11 TM X) A0 Pp Ss Mm Aa Cc RX7 cX7_isConfession 1 := B
  refine a_iload_n B dX7_isConfession_0 rfl ?_
  refine a_i2l B dX7_isConfession_1 ?_
  refine a_lconst (v := 0) B dX7_isConfession_2 (by decide) ?_
  refine a_ldc2 B dX7_isConfession_3 kl_X7_52 ?_
  refine a_callS3r B rfl cf_X7_in lk_X7_42 st_X7_in (m_in v 0 740 _ _ (by first | rfl | decide) (by first | rfl | decide) _) dX7_isConfession_6 (Nat.le_of_ble_eq_true rfl) ⟨Nat.le_of_ble_eq_true rfl, Nat.le_of_ble_eq_true rfl⟩ ⟨rfl, rfl⟩ ?_
  refine a_if_eq 25 B dX7_isConfession_9 (by decide) (fun c9 => ?_) (fun c9 => ?_)
  · have c9 := bI_eq0.mp c9
    refine a_iconst (v := 0) B dX7_isConfession_25 (by decide) ?_
    exact a_zret B hr hlk (rfl) dX7_isConfession_26 ⟨congrArg (fun z => some (Value.int z)) (by rw [icB_eq, show wi v 740 = false from c9]; rfl), rfl⟩
  have c9 := bI_ne0.mp c9
  refine a_iload_n B dX7_isConfession_12 rfl ?_
  refine a_bipush (v := 100) B dX7_isConfession_13 (by decide) ?_
  refine a_irem B dX7_isConfession_15 (by decide) ?_
  refine a_bipush (v := 40) B dX7_isConfession_16 (by decide) ?_
  refine a_icmp_gt 25 B dX7_isConfession_18 (by decide) (fun c18 => ?_) (fun c18 => ?_)
  · refine a_iconst (v := 0) B dX7_isConfession_25 (by decide) ?_
    exact a_zret B hr hlk (rfl) dX7_isConfession_26 ⟨congrArg (fun z => some (Value.int z)) (by rw [icB_eq, decide_eq_true (show 40 < rmI v 100 from c18), Bool.not_true, Bool.and_false]; rfl), rfl⟩
  refine a_iconst (v := 1) B dX7_isConfession_21 (by decide) ?_
  refine a_goto 26 B dX7_isConfession_22 (by decide) ?_
  exact a_zret B hr hlk (rfl) dX7_isConfession_26 ⟨congrArg (fun z => some (Value.int z)) (by rw [icB_eq, show wi v 740 = true from c9, decide_eq_false (show ¬ 40 < rmI v 100 from c18)]; rfl), rfl⟩
set_option maxRecDepth 20000 in
theorem m_its (p w j : Nat) (hp : p < 8) (hw : w < 6) (hj : 12 + 8 * w + p = j) (M : Mem) : CR l sk D cy A X mX7_its 0 [.ref (A 0), .int (nI p), .int (nI w)] M (rI (M 0 j) M) := by
  refine Con.of (lo := [some (.ref (A 0)), some (.int (nI p)), some (.int (nI w))]) cf_X7_its (fun _ _ => wl_fst) 0 rfl (Nat.le_of_ble_eq_true rfl) (fun Pp Ee Ss Mm Aa Bb Me Cc A0 B hr hlk => ?_)
  have B : BS sk D cy (wl A cy 11 TM X) A0 Pp Ss Mm Aa Cc RX7 cX7_its 3 := B
  refine a_aload_n B dX7_its_0 rfl ?_
  refine a_getR B fl_X7_7 (by decide) rfl rfl dX7_its_1 ?_
  refine a_bipush (v := 12) B dX7_its_4 (by decide) ?_
  refine a_bipush (v := 8) B dX7_its_6 (by decide) ?_
  refine a_iload_n B dX7_its_8 rfl ?_
  refine a_imul B dX7_its_9 ?_
  refine a_iadd B dX7_its_10 ?_
  refine a_iload_n B dX7_its_11 rfl ?_
  refine a_iadd B dX7_its_12 ?_
  refine a_iald j B (by decide) rfl ((ix_its p w).trans (by rw [hj])) (by omega) (by decide) dX7_its_13 ?_
  exact a_iret B hr hlk dX7_its_14 ⟨congrArg (fun z => some (Value.int z)) (by first | rfl | rw [Nat.zero_add]), rfl⟩
set_option maxRecDepth 20000 in
theorem m_sets (p w j : Nat) (hp : p < 8) (hw : w < 6) (hj : 12 + 8 * w + p = j) (v : Int32) (M : Mem) : CR l sk D cy A X mX7_sets 0 [.ref (A 0), .int (nI p), .int (nI w), .int v] M (rV (stB M 0 (upd (M 0) j v))) := by
  refine Con.of (lo := [some (.ref (A 0)), some (.int (nI p)), some (.int (nI w)), some (.int v)]) cf_X7_sets (fun _ _ => wl_fst) 0 rfl (Nat.le_of_ble_eq_true rfl) (fun Pp Ee Ss Mm Aa Bb Me Cc A0 B hr hlk => ?_)
  have B : BS sk D cy (wl A cy 11 TM X) A0 Pp Ss Mm Aa Cc RX7 cX7_sets 4 := B
  refine a_aload_n B dX7_sets_0 rfl ?_
  refine a_getR B fl_X7_7 (by decide) rfl rfl dX7_sets_1 ?_
  refine a_bipush (v := 12) B dX7_sets_4 (by decide) ?_
  refine a_bipush (v := 8) B dX7_sets_6 (by decide) ?_
  refine a_iload_n B dX7_sets_8 rfl ?_
  refine a_imul B dX7_sets_9 ?_
  refine a_iadd B dX7_sets_10 ?_
  refine a_iload_n B dX7_sets_11 rfl ?_
  refine a_iadd B dX7_sets_12 ?_
  refine a_iload_n B dX7_sets_13 rfl ?_
  refine a_iast j B twM (by decide) rfl ((ix_its p w).trans (by rw [hj])) (by omega) (by decide) dX7_sets_14 ?_
  exact a_vret B hr hlk dX7_sets_15 ⟨rfl, by rw [Nat.zero_add]; exact upB_st⟩
set_option maxRecDepth 20000 in
theorem m_becomes (j : Nat) (hj : j < 70) (v : Int32) (M : Mem) : CR l sk D cy A X mX7_becomes 0 [.ref (A 0), .int (nI j), .int v] M (rI (M 0 j) (stB M 0 (upd (M 0) j v))) := by
  refine Con.of (lo := [some (.ref (A 0)), some (.int (nI j)), some (.int v), none]) cf_X7_becomes (fun _ _ => wl_fst) 1 rfl (Nat.le_of_ble_eq_true rfl) (fun Pp Ee Ss Mm Aa Bb Me Cc A0 B hr hlk => ?_)
  have B : BS sk D cy (wl A cy 11 TM X) A0 Pp Ss Mm Aa Cc RX7 cX7_becomes 4 := B
  refine a_aload_n B dX7_becomes_0 rfl ?_
  refine a_getR B fl_X7_7 (by decide) rfl rfl dX7_becomes_1 ?_
  refine a_iload_n B dX7_becomes_4 rfl ?_
  refine a_iald j B (by decide) rfl rfl (by omega) (by decide) dX7_becomes_5 ?_
  refine p_istore3 B dX7_becomes_6 (by decide) (k := ?_)
  refine a_aload_n B dX7_becomes_7 rfl ?_
  refine a_getR B fl_X7_7 (by decide) rfl rfl dX7_becomes_8 ?_
  refine a_iload_n B dX7_becomes_11 rfl ?_
  refine a_iload_n B dX7_becomes_12 rfl ?_
  refine a_iast j B twM (by decide) rfl rfl (by omega) (by decide) dX7_becomes_13 ?_
  refine a_iload_n B dX7_becomes_14 rfl ?_
  exact a_iret B hr hlk dX7_becomes_15 ⟨congrArg (fun z => some (Value.int z)) (by first | rfl | rw [Nat.zero_add]), by rw [Nat.zero_add]; exact upB_st⟩
set_option maxRecDepth 20000 in
theorem m_finds (k : Nat) (hk : k < 7) (M : Mem) : CR l sk D cy A X mX7_finds 0 [.ref (A 0), .int (nI k)] M (rI (fnd k) (stB M 4 (upd (M 4) k (M 4 k + 1)))) := by
  refine Con.of (lo := [some (.ref (A 0)), some (.int (nI k))]) cf_X7_finds (fun _ _ => wl_fst) 0 rfl (Nat.le_of_ble_eq_true rfl) (fun Pp Ee Ss Mm Aa Bb Me Cc A0 B hr hlk => ?_)
  have B : BS sk D cy (wl A cy 11 TM X) A0 Pp Ss Mm Aa Cc RX7 cX7_finds 2 := B
  refine a_aload_n B dX7_finds_0 rfl ?_
  refine a_getR B fl_X7_22 (by decide) rfl rfl dX7_finds_1 ?_
  refine a_iload_n B dX7_finds_4 rfl ?_
  refine a_dup2 B dX7_finds_5 rfl rfl ?_
  refine a_iald k B (by decide) rfl rfl (by omega) (by decide) dX7_finds_6 ?_
  refine a_iconst (v := 1) B dX7_finds_7 (by decide) ?_
  refine a_iadd B dX7_finds_8 ?_
  refine a_iast k B twM (by decide) rfl rfl (by omega) (by decide) dX7_finds_9 ?_
  refine a_ldc B dX7_finds_10 kc_X7_41 ?_
  refine a_iload_n B dX7_finds_12 rfl ?_
  refine a_isub B dX7_finds_13 ?_
  exact a_iret B hr hlk dX7_finds_14 ⟨congrArg (fun z => some (Value.int z)) (by unfold fnd; rfl), by rw [Nat.zero_add]; exact upB_st⟩
set_option maxRecDepth 20000 in
set_option maxHeartbeats 4000000 in
theorem m_ones (s : Int32) (M : Mem) : CR l sk D cy A X mX7_ones 0 [.int s] M (rI (onesF s) M) := by
  refine Con.of (lo := [some (.int s), none, none]) cf_X7_ones (fun _ _ => wl_fst) 2 rfl (Nat.le_of_ble_eq_true rfl) (fun Pp Ee Ss Mm Aa Bb Me Cc A0 B hr hlk => ?_)
  have B : BS sk D cy (wl A cy 11 TM X) A0 Pp Ss Mm Aa Cc RX7 cX7_ones 3 := B
  have loop : ∀ n k, 9 ≤ k + n → k ≤ 8 → AW Pp l Ee (rmK 0 (34 * 0)) Ss Mm Aa Bb Me Cc D (wl A cy 11 TM X) A0 3 0 0 (MQ Bb (QG D (wl A cy 11 TM X) A0 (rI (onesF s) M)) Aa Ss 0 0 A0) 4 [some (.int s), some (.int (onesN s k)), some (.int (nI k))] [] (M) := by
    intro n
    induction n with
    | zero => intro k h1 h2; omega
    | succ n ih =>
      intro k h1 h2
      refine a_iload_n B dX7_ones_4 rfl ?_
      refine a_bipush (v := 8) B dX7_ones_5 (by decide) ?_
      refine a_icmp_ge 24 B dX7_ones_7 (by decide) (fun c7 => ?_) (fun c7 => ?_)
      · have e1 : k = 8 := by have := ge_n (b := 8) c7 rfl rfl (by omega) (by omega); omega
        subst e1
        refine a_iload_n B dX7_ones_24 rfl ?_
        exact a_iret B hr hlk dX7_ones_25 ⟨rfl, rfl⟩
      have hlt0 := lt_n (b := 8) c7 rfl rfl (by omega) (by omega)
      refine a_iload_n B dX7_ones_10 rfl ?_
      refine a_iload_n B dX7_ones_11 rfl ?_
      refine a_iload_n B dX7_ones_12 rfl ?_
      refine a_ishr B dX7_ones_13 ?_
      refine a_iconst (v := 1) B dX7_ones_14 (by decide) ?_
      refine a_iand B dX7_ones_15 ?_
      refine a_iadd B dX7_ones_16 ?_
      refine p_istore1 B dX7_ones_17 (by decide) (k := ?_)
      refine p_iinc2 1 B dX7_ones_18 (by decide) (by decide) (k := ?_)
      refine a_goto 4 B dX7_ones_21 (by decide) ?_
      rw [nI_1]
      exact ih (k + 1) (by omega) (by omega)
  refine a_iconst (v := 0) B dX7_ones_0 (by decide) ?_
  refine p_istore1 B dX7_ones_1 (by decide) (k := ?_)
  refine a_iconst (v := 0) B dX7_ones_2 (by decide) ?_
  refine p_istore2 B dX7_ones_3 (by decide) (k := ?_)
  exact loop 9 0 (by omega) (by omega)
theorem tmD : ∀ a, a < 4 → TM (1 + a) = .inr (.inl (0, a, 0, 70)) := by intro a h; rcases (show a = 0 ∨ a = 1 ∨ a = 2 ∨ a = 3 by omega) with rfl | rfl | rfl | rfl <;> rfl
def cpD (e d : Dm) (k : Nat) : Dm := fun j => if j < k then d j else e j
theorem cp_s {e d : Dm} {k : Nat} : upd (cpD e d k) k (d k) = cpD e d (k + 1) := by
  funext j
  unfold upd cpD
  by_cases h : j = k
  · subst h; rw [if_pos rfl, if_pos (by omega)]
  · rw [if_neg h]
    by_cases h2 : j < k
    · rw [if_pos h2, if_pos (by omega)]
    · rw [if_neg h2, if_neg (by omega)]
set_option maxRecDepth 20000 in
set_option maxHeartbeats 4000000 in
theorem m_copies (a b : Nat) (ha : a < 4) (hb : b < 4) (hab : a ≠ b) (M : Mem) : CR l sk D cy A X mX7_copies 0 [.ref (A (1 + a)), .ref (A (1 + b))] M (rV (stB M b (cpD (M b) (M a) 70))) := by
  refine Con.of (lo := [some (.ref (A (1 + a))), some (.ref (A (1 + b))), none]) cf_X7_copies (fun _ _ => wl_fst) 1 rfl (Nat.le_of_ble_eq_true rfl) (fun Pp Ee Ss Mm Aa Bb Me Cc A0 B hr hlk => ?_)
  have B : BS sk D cy (wl A cy 11 TM X) A0 Pp Ss Mm Aa Cc RX7 cX7_copies 3 := B
  have loop : ∀ n k, 71 ≤ k + n → k ≤ 70 → AW Pp l Ee (rmK 0 (34 * 0)) Ss Mm Aa Bb Me Cc D (wl A cy 11 TM X) A0 3 0 0 (MQ Bb (QG D (wl A cy 11 TM X) A0 (rV (stB M b (cpD (M b) (M a) 70)))) Aa Ss 0 0 A0) 2 [some (.ref (A (1 + a))), some (.ref (A (1 + b))), some (.int (nI k))] [] (stB M b (cpD (M b) (M a) k)) := by
    intro n
    induction n with
    | zero => intro k h1 h2; omega
    | succ n ih =>
      intro k h1 h2
      refine a_iload_n B dX7_copies_2 rfl ?_
      refine a_bipush (v := 70) B dX7_copies_3 (by decide) ?_
      refine a_icmp_ge 20 B dX7_copies_5 (by decide) (fun c5 => ?_) (fun c5 => ?_)
      · have e1 : k = 70 := by have := ge_n (b := 70) c5 rfl rfl (by omega) (by omega); omega
        subst e1
        exact a_vret B hr hlk dX7_copies_20 ⟨rfl, rfl⟩
      have hlt0 := lt_n (b := 70) c5 rfl rfl (by omega) (by omega)
      refine a_aload_n B dX7_copies_8 rfl ?_
      refine a_iload_n B dX7_copies_9 rfl ?_
      refine a_aload_n B dX7_copies_10 rfl ?_
      refine a_iload_n B dX7_copies_11 rfl ?_
      refine a_iald k B (by omega) (tmD a ha) rfl hlt0 (by decide) dX7_copies_12 ?_
      refine a_iast k B twM (by omega) (tmD b hb) rfl hlt0 (by decide) dX7_copies_13 ?_
      refine p_iinc2 1 B dX7_copies_14 (by decide) (by decide) (k := ?_)
      refine a_goto 2 B dX7_copies_17 (by decide) ?_
      rw [nI_1]
      refine a_mem ?_ (ih (k + 1) (by omega) (by omega))
      rw [Nat.zero_add, stB_ne hab, upB_stB, cp_s]
  refine a_iconst (v := 0) B dX7_copies_0 (by decide) ?_
  refine p_istore2 B dX7_copies_1 (by decide) (k := ?_)
  refine a_mem ?_ (loop 71 0 (by omega) (by omega))
  exact (stB_id (M := M) (b := b)).symm
end R1
