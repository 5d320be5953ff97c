section C14

theorem sh2 (s : Int32) : (∃ t, t < 4 ∧ s = nI t ∧ wi s 3 = true) ∨ wi s 3 = false := by
  rcases wi_cases (t := 3) s (by omega) with ⟨t, ht3, hse, hs⟩ | hs
  · exact Or.inl ⟨t, by omega, hse, hs⟩
  · exact Or.inr hs
theorem sh3 (M : Mem) (s : Int32) : (∃ t, t < 4 ∧ s = nI t ∧ wi s 3 = true ∧ M (7 + t) 0 = 0) ∨ (∃ t, t < 4 ∧ s = nI t ∧ wi s 3 = true ∧ ¬ M (7 + t) 0 = 0) ∨ wi s 3 = false := by
  rcases sh2 s with ⟨t, ht, hse, hs⟩ | hs
  · by_cases h0 : M (7 + t) 0 = 0
    · exact Or.inl ⟨t, ht, hse, hs, h0⟩
    · exact Or.inr (Or.inl ⟨t, ht, hse, hs, h0⟩)
  · exact Or.inr (Or.inr hs)
theorem iv7 {M : Mem} {t : Nat} {d : Dm} (h : Inv (M 2)) : Inv ((stB M (7 + t) d) 2) := by rw [stB_ne (by omega)]; exact h

variable {l : Launch} {sk : (Nat → Nat) × (Nat → Nat)} {D : va_G} {cy : Nat → ClassId} {A : Nat → Nat} {X : va_W}
set_option maxRecDepth 20000 in
theorem k_X6_sheet (s1 b n1 : Int32) (M : Mem) (hJ : CI M) : CC l sk D cy A X mX6_sheet 2 [.ref (A 0), .int s1, .int b, .int n1] M (rQ (sheX M s1 b n1).1 (sheX M s1 b n1).2 M) := by
  refine Con.of (lo := [some (.ref (A 0)), some (.int s1), some (.int b), some (.int n1), none]) cf_X6_sheet (fun _ _ => wl_fst) 1 rfl (Nat.le_of_ble_eq_true rfl) (fun Pp Ee Ss Mm Aa Bb Me Cc A0 B hr hlk => ?_)
  have B : BS sk D cy (wl A cy 51 TC X) A0 Pp Ss Mm Aa Cc RX6 cX6_sheet 5 := B
  obtain ⟨hI0, hI1, hI2, hT, hZ⟩ := hJ
  rcases sh2 s1 with ⟨t, ht, hse, hs⟩ | hs
  · subst hse
    have ent : nn (nI t) = t := nn_nI (by omega)
    refine a_aload_n B dX6_sheet_0 rfl ?_
    refine a_iload_n B dX6_sheet_1 rfl ?_
    refine a_callV1r B rfl cf_X6_sheetAt lk_X6_180 in_X6_sheetAt se_X6_sheetAt (wl_rc (p0 := 0) (by decide) rfl rfl rfl) (k_X6_sheetAt t ht _) dX6_sheet_2 (Nat.le_of_ble_eq_true rfl) ⟨Nat.le_of_ble_eq_true rfl, Nat.le_of_ble_eq_true rfl⟩ ⟨rfl, rfl⟩ ?_
    refine p_astore4 B dX6_sheet_5 (by decide) (k := ?_)
    refine a_aload B dX6_sheet_7 rfl ?_
    refine a_ifnull B dX6_sheet_9 ?_
    refine a_iload_n B dX6_sheet_12 rfl ?_
    refine a_callS1r B rfl cf_X4_mayHaveBits lk_X6_270 st_X4_mayHaveBits (k_X4_mayHaveBits _ _) dX6_sheet_13 (Nat.le_of_ble_eq_true rfl) ⟨Nat.le_of_ble_eq_true rfl, Nat.le_of_ble_eq_true rfl⟩ ⟨rfl, rfl⟩ ?_
    refine a_if_ne 26 B dX6_sheet_16 (by decide) (fun c16 => ?_) (fun c16 => ?_)
    · have c16 := bI_ne0.mp c16
      refine a_iload_n B dX6_sheet_26 rfl ?_
      refine a_if_ge 38 B dX6_sheet_27 (by decide) (fun c27 => ?_) (fun c27 => ?_)
      · refine a_iload_n B dX6_sheet_38 rfl ?_
        refine a_bipush (v := 40) B dX6_sheet_39 (by decide) ?_
        refine a_icmp_le 51 B dX6_sheet_41 (by decide) (fun c41 => ?_) (fun c41 => ?_)
        · refine a_aload B dX6_sheet_51 rfl ?_
          refine a_iload_n B dX6_sheet_53 rfl ?_
          refine a_iload_n B dX6_sheet_54 rfl ?_
          refine a_callV2v B rfl cf_X4_begin lk_X6_274 in_X4_begin se_X4_begin (wl_rc (p0 := 43 + 2 * t) (by omega) (tcT t ht) rfl rfl) (k_X4_begin t ht _ _ _) dX6_sheet_55 (Nat.le_of_ble_eq_true rfl) ⟨Nat.le_of_ble_eq_true rfl, Nat.le_of_ble_eq_true rfl⟩ ⟨rfl, rfl⟩ ?_
          refine a_aload B dX6_sheet_58 rfl ?_
          refine a_getI B fl_X6_277 (by omega) (tcT t ht) rfl dX6_sheet_60 ?_
          exact a_iret B hr hlk dX6_sheet_63 (rQl0 (by unfold sheX; rw [hs, show bitsOk b = true from c16]; rw [if_pos (by rfl), if_neg (Int32.not_lt.mpr c27), if_neg (Int32.not_lt.mpr c41)]; rw [stB_at]; rfl) (by unfold sheX; rw [hs, show bitsOk b = true from c16]; rw [if_pos (by rfl), if_neg (Int32.not_lt.mpr c27), if_neg (Int32.not_lt.mpr c41), ent]; exact iv7 hI2) (by unfold sheX; rw [hs, show bitsOk b = true from c16]; rw [if_pos (by rfl), if_neg (Int32.not_lt.mpr c27), if_neg (Int32.not_lt.mpr c41), ent]))
        refine a_aload_n B dX6_sheet_44 rfl ?_
        refine a_ldc B dX6_sheet_45 kc_X6_59 ?_
        refine a_callV1r B rfl cf_X6_tell lk_X6_60 in_X6_tell se_X6_tell (wl_rc (p0 := 0) (by decide) rfl rfl rfl) (k_X6_tell 0 (by decide) _ (by decide) _) dX6_sheet_47 (Nat.le_of_ble_eq_true rfl) ⟨Nat.le_of_ble_eq_true rfl, Nat.le_of_ble_eq_true rfl⟩ ⟨rfl, rfl⟩ ?_
        exact a_iret B hr hlk dX6_sheet_50 (rQr0 (k := 0) (by unfold sheX; rw [hs, show bitsOk b = true from c16]; rw [if_pos (by rfl), if_neg (Int32.not_lt.mpr c27), if_pos (Int32.not_le.mp c41)]) (by decide) hI2 rfl)
      refine a_aload_n B dX6_sheet_30 rfl ?_
      refine a_ldcw B dX6_sheet_31 kc_X6_273 ?_
      refine a_callV1r B rfl cf_X6_tell lk_X6_60 in_X6_tell se_X6_tell (wl_rc (p0 := 0) (by decide) rfl rfl rfl) (k_X6_tell 6 (by decide) _ (by decide) _) dX6_sheet_34 (Nat.le_of_ble_eq_true rfl) ⟨Nat.le_of_ble_eq_true rfl, Nat.le_of_ble_eq_true rfl⟩ ⟨rfl, rfl⟩ ?_
      exact a_iret B hr hlk dX6_sheet_37 (rQr0 (k := 6) (by unfold sheX; rw [hs, show bitsOk b = true from c16]; rw [if_pos (by rfl), if_pos (Int32.not_le.mp c27)]) (by decide) hI2 rfl)
    have c16 := bI_eq0.mp c16
    refine a_aload_n B dX6_sheet_19 rfl ?_
    refine a_ldc B dX6_sheet_20 kc_X6_59 ?_
    refine a_callV1r B rfl cf_X6_tell lk_X6_60 in_X6_tell se_X6_tell (wl_rc (p0 := 0) (by decide) rfl rfl rfl) (k_X6_tell 0 (by decide) _ (by decide) _) dX6_sheet_22 (Nat.le_of_ble_eq_true rfl) ⟨Nat.le_of_ble_eq_true rfl, Nat.le_of_ble_eq_true rfl⟩ ⟨rfl, rfl⟩ ?_
    exact a_iret B hr hlk dX6_sheet_25 (rQr0 (k := 0) (by unfold sheX; rw [hs, show bitsOk b = false from c16]; rfl) (by decide) hI2 rfl)
  · refine a_aload_n B dX6_sheet_0 rfl ?_
    refine a_iload_n B dX6_sheet_1 rfl ?_
    refine a_callV1r B rfl cf_X6_sheetAt lk_X6_180 in_X6_sheetAt se_X6_sheetAt (wl_rc (p0 := 0) (by decide) rfl rfl rfl) (k_X6_sheetAtN _ hs _) dX6_sheet_2 (Nat.le_of_ble_eq_true rfl) ⟨Nat.le_of_ble_eq_true rfl, Nat.le_of_ble_eq_true rfl⟩ ⟨rfl, rfl⟩ ?_
    refine p_astoreN4 B dX6_sheet_5 (by decide) (k := ?_)
    refine a_aloadN B dX6_sheet_7 rfl ?_
    refine a_ifnullN 19 B dX6_sheet_9 (by decide) ?_
    refine a_aload_n B dX6_sheet_19 rfl ?_
    refine a_ldc B dX6_sheet_20 kc_X6_59 ?_
    refine a_callV1r B rfl cf_X6_tell lk_X6_60 in_X6_tell se_X6_tell (wl_rc (p0 := 0) (by decide) rfl rfl rfl) (k_X6_tell 0 (by decide) _ (by decide) _) dX6_sheet_22 (Nat.le_of_ble_eq_true rfl) ⟨Nat.le_of_ble_eq_true rfl, Nat.le_of_ble_eq_true rfl⟩ ⟨rfl, rfl⟩ ?_
    exact a_iret B hr hlk dX6_sheet_25 (rQr0 (k := 0) (by unfold sheX; rw [hs]; rfl) (by decide) hI2 rfl)
theorem pk_ce {a b : Int32} (h : (!decide (a < 0) && !decide (b ≤ a)) = false) : a < 0 ∨ b ≤ a := by
  by_cases h1 : a < 0
  · exact Or.inl h1
  · by_cases h2 : b ≤ a
    · exact Or.inr h2
    · rw [decide_eq_false h1, decide_eq_false h2] at h; cases h
theorem pk_cf {a b : Int32} (h : (!decide (a < 0) && !decide (b ≤ a)) = true) : ¬ (a < 0 ∨ b ≤ a) := by
  simp only [Bool.and_eq_true, Bool.not_eq_true', decide_eq_false_iff_not] at h
  exact fun q => q.elim h.1 h.2
set_option maxRecDepth 20000 in
theorem k_X6_write (s1 j v : Int32) (M : Mem) (hJ : CI M) : CC l sk D cy A X mX6_write 2 [.ref (A 0), .int s1, .int j, .int v] M (rQ (wriX M s1 j v).1 (wriX M s1 j v).2 M) := by
  refine Con.of (lo := [some (.ref (A 0)), some (.int s1), some (.int j), some (.int v), none, none]) cf_X6_write (fun _ _ => wl_fst) 2 rfl (Nat.le_of_ble_eq_true rfl) (fun Pp Ee Ss Mm Aa Bb Me Cc A0 B hr hlk => ?_)
  have B : BS sk D cy (wl A cy 51 TC X) A0 Pp Ss Mm Aa Cc RX6 cX6_write 6 := B
  obtain ⟨hI0, hI1, hI2, hT, hZ⟩ := hJ
  rcases sh3 M s1 with ⟨t, ht, hse, hs, h0⟩ | ⟨t, ht, hse, hs, h0⟩ | hs
  · subst hse
    have ent : nn (nI t) = t := nn_nI (by omega)
    refine a_aload_n B dX6_write_0 rfl ?_
    refine a_iload_n B dX6_write_1 rfl ?_
    refine a_callV1r B rfl cf_X6_sheetAt lk_X6_180 in_X6_sheetAt se_X6_sheetAt (wl_rc (p0 := 0) (by decide) rfl rfl rfl) (k_X6_sheetAt t ht _) dX6_write_2 (Nat.le_of_ble_eq_true rfl) ⟨Nat.le_of_ble_eq_true rfl, Nat.le_of_ble_eq_true rfl⟩ ⟨rfl, rfl⟩ ?_
    refine p_astore4 B dX6_write_5 (by decide) (k := ?_)
    refine a_aload B dX6_write_7 rfl ?_
    refine a_callS1r B rfl cf_X6_wrongSheet lk_X6_280 st_X6_wrongSheet (k_X6_wrongSheet t ht _) dX6_write_9 (Nat.le_of_ble_eq_true rfl) ⟨Nat.le_of_ble_eq_true rfl, Nat.le_of_ble_eq_true rfl⟩ ⟨rfl, rfl⟩ ?_
    rw [if_pos h0]
    refine p_istore5 B dX6_write_12 (by decide) (k := ?_)
    refine a_aload B dX6_write_14 rfl ?_
    refine a_ifnull B dX6_write_16 ?_
    refine a_iload B dX6_write_19 rfl ?_
    refine a_if_eq 31 B dX6_write_21 (by decide) (fun c21 => ?_) (fun c21 => ?_)
    · exact absurd c21 (by decide)
    refine a_aload_n B dX6_write_24 rfl ?_
    refine a_iload B dX6_write_25 rfl ?_
    refine a_callV1r B rfl cf_X6_tell lk_X6_60 in_X6_tell se_X6_tell (wl_rc (p0 := 0) (by decide) rfl rfl rfl) (k_X6_tell 5 (by decide) _ rfl _) dX6_write_27 (Nat.le_of_ble_eq_true rfl) ⟨Nat.le_of_ble_eq_true rfl, Nat.le_of_ble_eq_true rfl⟩ ⟨rfl, rfl⟩ ?_
    exact a_iret B hr hlk dX6_write_30 (rQr0 (k := 5) (by unfold wriX; rw [hs]; rw [if_pos rfl, ent, if_pos h0]) (by decide) hI2 rfl)
  · subst hse
    have ent : nn (nI t) = t := nn_nI (by omega)
    refine a_aload_n B dX6_write_0 rfl ?_
    refine a_iload_n B dX6_write_1 rfl ?_
    refine a_callV1r B rfl cf_X6_sheetAt lk_X6_180 in_X6_sheetAt se_X6_sheetAt (wl_rc (p0 := 0) (by decide) rfl rfl rfl) (k_X6_sheetAt t ht _) dX6_write_2 (Nat.le_of_ble_eq_true rfl) ⟨Nat.le_of_ble_eq_true rfl, Nat.le_of_ble_eq_true rfl⟩ ⟨rfl, rfl⟩ ?_
    refine p_astore4 B dX6_write_5 (by decide) (k := ?_)
    refine a_aload B dX6_write_7 rfl ?_
    refine a_callS1r B rfl cf_X6_wrongSheet lk_X6_280 st_X6_wrongSheet (k_X6_wrongSheet t ht _) dX6_write_9 (Nat.le_of_ble_eq_true rfl) ⟨Nat.le_of_ble_eq_true rfl, Nat.le_of_ble_eq_true rfl⟩ ⟨rfl, rfl⟩ ?_
    rw [if_neg h0]
    refine p_istore5 B dX6_write_12 (by decide) (k := ?_)
    refine a_aload B dX6_write_14 rfl ?_
    refine a_ifnull B dX6_write_16 ?_
    refine a_iload B dX6_write_19 rfl ?_
    refine a_if_eq 31 B dX6_write_21 (by decide) (fun c21 => ?_) (fun c21 => ?_)
    · refine a_aload B dX6_write_31 rfl ?_
      refine a_iload_n B dX6_write_33 rfl ?_
      refine a_iload_n B dX6_write_34 rfl ?_
      refine a_callV2r B rfl cf_X4_put lk_X6_284 in_X4_put se_X4_put (wl_rc (p0 := 43 + 2 * t) (by omega) (tcT t ht) rfl rfl) (k_X4_put t ht _ _ _ (hZ t ht)) dX6_write_35 (Nat.le_of_ble_eq_true rfl) ⟨Nat.le_of_ble_eq_true rfl, Nat.le_of_ble_eq_true rfl⟩ ⟨rfl, rfl⟩ ?_
      refine a_if_eq 45 B dX6_write_38 (by decide) (fun c38 => ?_) (fun c38 => ?_)
      · have c38 := bI_eq0.mp c38
        have hX : wriX M (nI t) j v = if j < 0 ∨ M (7 + t) 1 ≤ j then (.inr 0, M) else (.inl 1, putM M t j v) := by unfold wriX; rw [hs, if_pos rfl, ent, if_neg h0]
        rw [show putM M t j v = M from by unfold putM; rw [if_pos (pk_ce c38)]]
        refine a_aload_n B dX6_write_45 rfl ?_
        refine a_ldc B dX6_write_46 kc_X6_59 ?_
        refine a_callV1r B rfl cf_X6_tell lk_X6_60 in_X6_tell se_X6_tell (wl_rc (p0 := 0) (by decide) rfl rfl rfl) (k_X6_tell 0 (by decide) _ (by decide) _) dX6_write_48 (Nat.le_of_ble_eq_true rfl) ⟨Nat.le_of_ble_eq_true rfl, Nat.le_of_ble_eq_true rfl⟩ ⟨rfl, rfl⟩ ?_
        exact a_iret B hr hlk dX6_write_51 (rQr0 (k := 0) (by rw [hX, if_pos (pk_ce c38)]) (by decide) hI2 rfl)
      have c38 := bI_ne0.mp c38
      have hX : wriX M (nI t) j v = if j < 0 ∨ M (7 + t) 1 ≤ j then (.inr 0, M) else (.inl 1, putM M t j v) := by unfold wriX; rw [hs, if_pos rfl, ent, if_neg h0]
      refine a_iconst (v := 1) B dX6_write_41 (by decide) ?_
      refine a_goto 51 B dX6_write_42 (by decide) ?_
      exact a_iret B hr hlk dX6_write_51 (rQl0 (by rw [hX, if_neg (pk_cf c38)]) (by rw [hX, if_neg (pk_cf c38)]; unfold putM; rw [if_neg (pk_cf c38)]; exact iv7 hI2) (by rw [hX, if_neg (pk_cf c38)]))
    exact absurd rfl c21
  · refine a_aload_n B dX6_write_0 rfl ?_
    refine a_iload_n B dX6_write_1 rfl ?_
    refine a_callV1r B rfl cf_X6_sheetAt lk_X6_180 in_X6_sheetAt se_X6_sheetAt (wl_rc (p0 := 0) (by decide) rfl rfl rfl) (k_X6_sheetAtN _ hs _) dX6_write_2 (Nat.le_of_ble_eq_true rfl) ⟨Nat.le_of_ble_eq_true rfl, Nat.le_of_ble_eq_true rfl⟩ ⟨rfl, rfl⟩ ?_
    refine p_astoreN4 B dX6_write_5 (by decide) (k := ?_)
    refine a_aloadN B dX6_write_7 rfl ?_
    refine a_callS1r B rfl cf_X6_wrongSheet lk_X6_280 st_X6_wrongSheet (k_X6_wrongSheetN _) dX6_write_9 (Nat.le_of_ble_eq_true rfl) ⟨Nat.le_of_ble_eq_true rfl, Nat.le_of_ble_eq_true rfl⟩ ⟨rfl, rfl⟩ ?_
    refine p_istore5 B dX6_write_12 (by decide) (k := ?_)
    refine a_aloadN B dX6_write_14 rfl ?_
    refine a_ifnullN 24 B dX6_write_16 (by decide) ?_
    refine a_aload_n B dX6_write_24 rfl ?_
    refine a_iload B dX6_write_25 rfl ?_
    refine a_callV1r B rfl cf_X6_tell lk_X6_60 in_X6_tell se_X6_tell (wl_rc (p0 := 0) (by decide) rfl rfl rfl) (k_X6_tell 0 (by decide) _ rfl _) dX6_write_27 (Nat.le_of_ble_eq_true rfl) ⟨Nat.le_of_ble_eq_true rfl, Nat.le_of_ble_eq_true rfl⟩ ⟨rfl, rfl⟩ ?_
    exact a_iret B hr hlk dX6_write_30 (rQr0 (k := 0) (by unfold wriX; rw [hs]; rfl) (by decide) hI2 rfl)
set_option maxRecDepth 20000 in
theorem k_X6_load (s1 : Int32) (M : Mem) (hJ : CI M) : CC l sk D cy A X mX6_load 2 [.ref (A 0), .int s1] M (rQ (loaX M s1).1 (loaX M s1).2 M) := by
  refine Con.of (lo := [some (.ref (A 0)), some (.int s1), none, none, none]) cf_X6_load (fun _ _ => wl_fst) 3 rfl (Nat.le_of_ble_eq_true rfl) (fun Pp Ee Ss Mm Aa Bb Me Cc A0 B hr hlk => ?_)
  have B : BS sk D cy (wl A cy 51 TC X) A0 Pp Ss Mm Aa Cc RX6 cX6_load 5 := B
  obtain ⟨hI0, hI1, hI2, hT, hZ⟩ := hJ
  rcases sh3 M s1 with ⟨t, ht, hse, hs, h0⟩ | ⟨t, ht, hse, hs, h0⟩ | hs
  · subst hse
    have ent : nn (nI t) = t := nn_nI (by omega)
    refine a_aload_n B dX6_load_0 rfl ?_
    refine a_iload_n B dX6_load_1 rfl ?_
    refine a_callV1r B rfl cf_X6_sheetAt lk_X6_180 in_X6_sheetAt se_X6_sheetAt (wl_rc (p0 := 0) (by decide) rfl rfl rfl) (k_X6_sheetAt t ht _) dX6_load_2 (Nat.le_of_ble_eq_true rfl) ⟨Nat.le_of_ble_eq_true rfl, Nat.le_of_ble_eq_true rfl⟩ ⟨rfl, rfl⟩ ?_
    refine p_astore2 B dX6_load_5 (by decide) (k := ?_)
    refine a_aload_n B dX6_load_6 rfl ?_
    refine a_callS1r B rfl cf_X6_wrongSheet lk_X6_280 st_X6_wrongSheet (k_X6_wrongSheet t ht _) dX6_load_7 (Nat.le_of_ble_eq_true rfl) ⟨Nat.le_of_ble_eq_true rfl, Nat.le_of_ble_eq_true rfl⟩ ⟨rfl, rfl⟩ ?_
    rw [if_pos h0]
    refine p_istore3 B dX6_load_10 (by decide) (k := ?_)
    refine a_aload_n B dX6_load_11 rfl ?_
    refine a_ifnull B dX6_load_12 ?_
    refine a_iload_n B dX6_load_15 rfl ?_
    refine a_if_eq 25 B dX6_load_16 (by decide) (fun c16 => ?_) (fun c16 => ?_)
    · exact absurd c16 (by decide)
    refine a_aload_n B dX6_load_19 rfl ?_
    refine a_iload_n B dX6_load_20 rfl ?_
    refine a_callV1r B rfl cf_X6_tell lk_X6_60 in_X6_tell se_X6_tell (wl_rc (p0 := 0) (by decide) rfl rfl rfl) (k_X6_tell 5 (by decide) _ rfl _) dX6_load_21 (Nat.le_of_ble_eq_true rfl) ⟨Nat.le_of_ble_eq_true rfl, Nat.le_of_ble_eq_true rfl⟩ ⟨rfl, rfl⟩ ?_
    exact a_iret B hr hlk dX6_load_24 (rQr0 (k := 5) (by unfold loaX; rw [hs]; rw [if_pos rfl, ent, if_pos h0]) (by decide) hI2 rfl)
  · subst hse
    have ent : nn (nI t) = t := nn_nI (by omega)
    refine a_aload_n B dX6_load_0 rfl ?_
    refine a_iload_n B dX6_load_1 rfl ?_
    refine a_callV1r B rfl cf_X6_sheetAt lk_X6_180 in_X6_sheetAt se_X6_sheetAt (wl_rc (p0 := 0) (by decide) rfl rfl rfl) (k_X6_sheetAt t ht _) dX6_load_2 (Nat.le_of_ble_eq_true rfl) ⟨Nat.le_of_ble_eq_true rfl, Nat.le_of_ble_eq_true rfl⟩ ⟨rfl, rfl⟩ ?_
    refine p_astore2 B dX6_load_5 (by decide) (k := ?_)
    refine a_aload_n B dX6_load_6 rfl ?_
    refine a_callS1r B rfl cf_X6_wrongSheet lk_X6_280 st_X6_wrongSheet (k_X6_wrongSheet t ht _) dX6_load_7 (Nat.le_of_ble_eq_true rfl) ⟨Nat.le_of_ble_eq_true rfl, Nat.le_of_ble_eq_true rfl⟩ ⟨rfl, rfl⟩ ?_
    rw [if_neg h0]
    refine p_istore3 B dX6_load_10 (by decide) (k := ?_)
    refine a_aload_n B dX6_load_11 rfl ?_
    refine a_ifnull B dX6_load_12 ?_
    refine a_iload_n B dX6_load_15 rfl ?_
    refine a_if_eq 25 B dX6_load_16 (by decide) (fun c16 => ?_) (fun c16 => ?_)
    · refine a_iconst (v := 0) B dX6_load_25 (by decide) ?_
      refine p_istore4 B dX6_load_26 (by decide) (k := ?_)
      obtain ⟨hz1, hz2⟩ := (hZ t ht).e
      have loop : ∀ n k, 7 ≤ k + n → k ≤ 6 → fstN (loaQ M t) k = none → AW Pp l Ee (rmK 2 (34 * 2)) Ss Mm Aa Bb Me Cc D (wl A cy 51 TC X) A0 5 0 0 (MQ Bb (QG D (wl A cy 51 TC X) A0 (rQ (loaX M (nI t)).1 (loaX M (nI t)).2 M)) Aa Ss 0 0 A0) 28 [some (.ref (A 0)), some (.int (nI t)), some (.ref (A (43 + 2 * t))), some (.int 0), some (.int (nI k))] [] (stB M 0 (loaD (M 0) (tlS M t) k)) := by
        intro n
        induction n with
        | zero => intro k h1 h2; omega
        | succ n ih =>
          intro k h1 h2 h3
          have hML1 : (stB M 0 (loaD (M 0) (tlS M t) k)) (7 + t) 1 = nI (szN M t) := by rw [stB_ne (by omega)]; exact hz2
          have hML2 : (stB M 0 (loaD (M 0) (tlS M t) k)) (7 + t) (2 + k) = tlS M t k := by rw [stB_ne (by omega)]; rfl
          refine a_iload B dX6_load_28 rfl ?_
          refine a_bipush (v := 6) B dX6_load_30 (by decide) ?_
          refine a_icmp_ge 80 B dX6_load_32 (by decide) (fun c32 => ?_) (fun c32 => ?_)
          · refine a_iload B dX6_load_80 rfl ?_
            have e1 : k = 6 := by have := ge_n (b := 6) c32 rfl rfl (by omega) (by omega); omega
            subst e1
            have e2 : loaN M t = 6 := by unfold loaN; rw [h3]
            have hX : loaX M (nI t) = (.inl (nI 6), stB M 0 (loaD (M 0) (tlS M t) 6)) := by unfold loaX; rw [hs, if_pos rfl, ent, if_neg h0, e2]
            exact a_iret B hr hlk dX6_load_82 (rQl0 (by rw [hX]) (by rw [hX]; exact hD0 (b := 0) (d := loaD (M 0) (tlS M t) 6) hI2 (by decide)) (by rw [hX]))
          have hlt0 := lt_n (b := 6) c32 rfl rfl (by omega) (by omega)
          refine a_iload B dX6_load_35 rfl ?_
          refine a_aload_n B dX6_load_37 rfl ?_
          refine a_getI B fl_X6_277 (by omega) (tcT t ht) rfl dX6_load_38 ?_
          rw [hML1]
          refine a_icmp_ge 80 B dX6_load_41 (by decide) (fun c41 => ?_) (fun c41 => ?_)
          · have c41x : ¬ k < szN M t := fun hh => absurd ((nI_ltI (by omega) (by omega)).mpr hh) (Int32.not_lt.mpr c41)
            refine a_iload B dX6_load_80 rfl ?_
            have e2 : loaN M t = k := by unfold loaN; rw [fst_up (fst_yes h3 (show loaQ M t k = true by unfold loaQ; rw [decide_eq_false (fun hh : k < szN M t => c41x hh)]; rfl)) 6 (by omega)]
            have hX : loaX M (nI t) = (.inl (nI k), stB M 0 (loaD (M 0) (tlS M t) k)) := by unfold loaX; rw [hs, if_pos rfl, ent, if_neg h0, e2]
            exact a_iret B hr hlk dX6_load_82 (rQl0 (by rw [hX]) (by rw [hX]; exact hD0 (b := 0) (d := loaD (M 0) (tlS M t) k) hI2 (by decide)) (by rw [hX]))
          have hk2 : k < szN M t := (nI_ltI (by omega) (by omega)).mp (Int32.not_le.mp c41)
          refine a_aload_n B dX6_load_44 rfl ?_
          refine a_getR B fl_X6_296 (by omega) (tcT t ht) rfl dX6_load_45 ?_
          refine a_iload B dX6_load_48 rfl ?_
          refine a_iald k B (by omega) (tcN t ht) rfl (by omega) (by decide) dX6_load_50 ?_
          rw [hML2]
          refine a_callS1r B rfl cf_X6_isConfession lk_X6_64 st_X6_isConfession (k_X6_isConfession _ _) dX6_load_51 (Nat.le_of_ble_eq_true rfl) ⟨Nat.le_of_ble_eq_true rfl, Nat.le_of_ble_eq_true rfl⟩ ⟨rfl, rfl⟩ ?_
          refine a_if_eq 80 B dX6_load_54 (by decide) (fun c54 => ?_) (fun c54 => ?_)
          · have c54 := bI_eq0.mp c54
            refine a_iload B dX6_load_80 rfl ?_
            have e2 : loaN M t = k := by unfold loaN; rw [fst_up (fst_yes h3 (show loaQ M t k = true by unfold loaQ; rw [show icB (tlS M t k) = false from c54, Bool.and_false]; rfl)) 6 (by omega)]
            have hX : loaX M (nI t) = (.inl (nI k), stB M 0 (loaD (M 0) (tlS M t) k)) := by unfold loaX; rw [hs, if_pos rfl, ent, if_neg h0, e2]
            exact a_iret B hr hlk dX6_load_82 (rQl0 (by rw [hX]) (by rw [hX]; exact hD0 (b := 0) (d := loaD (M 0) (tlS M t) k) hI2 (by decide)) (by rw [hX]))
          have c54 := bI_ne0.mp c54
          refine a_aload_n B dX6_load_57 rfl ?_
          refine a_getR B fl_X6_12 (by decide) rfl rfl dX6_load_58 ?_
          refine a_getR B fl_X6_68 (by decide) rfl rfl dX6_load_61 ?_
          refine a_iload B dX6_load_64 rfl ?_
          refine a_aload_n B dX6_load_66 rfl ?_
          refine a_getR B fl_X6_296 (by omega) (tcT t ht) rfl dX6_load_67 ?_
          refine a_iload B dX6_load_70 rfl ?_
          refine a_iald k B (by omega) (tcN t ht) rfl (by omega) (by decide) dX6_load_72 ?_
          rw [hML2]
          refine a_iast k B twC (by decide) rfl rfl (by omega) (by decide) dX6_load_73 ?_
          refine p_iinc4 1 B dX6_load_74 (by decide) (by decide) (k := ?_)
          refine a_goto 28 B dX6_load_77 (by decide) ?_
          rw [nI_1]
          refine a_mem ?_ (ih (k + 1) (by omega) (by omega) (fst_no h3 (show loaQ M t k = false by unfold loaQ; rw [decide_eq_true hk2, show icB (tlS M t k) = true from c54]; rfl)))
          rw [upB_st, stB_at, stB_st]
          rfl
      refine a_mem ?_ (loop 7 0 (by omega) (by omega) rfl)
      exact (stB_id (M := M) (b := 0)).symm
    exact absurd rfl c16
  · refine a_aload_n B dX6_load_0 rfl ?_
    refine a_iload_n B dX6_load_1 rfl ?_
    refine a_callV1r B rfl cf_X6_sheetAt lk_X6_180 in_X6_sheetAt se_X6_sheetAt (wl_rc (p0 := 0) (by decide) rfl rfl rfl) (k_X6_sheetAtN _ hs _) dX6_load_2 (Nat.le_of_ble_eq_true rfl) ⟨Nat.le_of_ble_eq_true rfl, Nat.le_of_ble_eq_true rfl⟩ ⟨rfl, rfl⟩ ?_
    refine p_astoreN2 B dX6_load_5 (by decide) (k := ?_)
    refine a_aload_nN B dX6_load_6 rfl ?_
    refine a_callS1r B rfl cf_X6_wrongSheet lk_X6_280 st_X6_wrongSheet (k_X6_wrongSheetN _) dX6_load_7 (Nat.le_of_ble_eq_true rfl) ⟨Nat.le_of_ble_eq_true rfl, Nat.le_of_ble_eq_true rfl⟩ ⟨rfl, rfl⟩ ?_
    refine p_istore3 B dX6_load_10 (by decide) (k := ?_)
    refine a_aload_nN B dX6_load_11 rfl ?_
    refine a_ifnullN 19 B dX6_load_12 (by decide) ?_
    refine a_aload_n B dX6_load_19 rfl ?_
    refine a_iload_n B dX6_load_20 rfl ?_
    refine a_callV1r B rfl cf_X6_tell lk_X6_60 in_X6_tell se_X6_tell (wl_rc (p0 := 0) (by decide) rfl rfl rfl) (k_X6_tell 0 (by decide) _ rfl _) dX6_load_21 (Nat.le_of_ble_eq_true rfl) ⟨Nat.le_of_ble_eq_true rfl, Nat.le_of_ble_eq_true rfl⟩ ⟨rfl, rfl⟩ ?_
    exact a_iret B hr hlk dX6_load_24 (rQr0 (k := 0) (by unfold loaX; rw [hs]; rfl) (by decide) hI2 rfl)
set_option maxRecDepth 20000 in
theorem k_X6_judge (s1 : Int32) (M : Mem) (hJ : CI M) : CC l sk D cy A X mX6_judge 2 [.ref (A 0), .int s1] M (rQ (judX M s1) M M) := by
  refine Con.of (lo := [some (.ref (A 0)), some (.int s1), none, none, none, none]) cf_X6_judge (fun _ _ => wl_fst) 4 rfl (Nat.le_of_ble_eq_true rfl) (fun Pp Ee Ss Mm Aa Bb Me Cc A0 B hr hlk => ?_)
  have B : BS sk D cy (wl A cy 51 TC X) A0 Pp Ss Mm Aa Cc RX6 cX6_judge 6 := B
  obtain ⟨hI0, hI1, hI2, hT, hZ⟩ := hJ
  rcases sh3 M s1 with ⟨t, ht, hse, hs, h0⟩ | ⟨t, ht, hse, hs, h0⟩ | hs
  · subst hse
    have ent : nn (nI t) = t := nn_nI (by omega)
    refine a_aload_n B dX6_judge_0 rfl ?_
    refine a_iload_n B dX6_judge_1 rfl ?_
    refine a_callV1r B rfl cf_X6_sheetAt lk_X6_180 in_X6_sheetAt se_X6_sheetAt (wl_rc (p0 := 0) (by decide) rfl rfl rfl) (k_X6_sheetAt t ht _) dX6_judge_2 (Nat.le_of_ble_eq_true rfl) ⟨Nat.le_of_ble_eq_true rfl, Nat.le_of_ble_eq_true rfl⟩ ⟨rfl, rfl⟩ ?_
    refine p_astore2 B dX6_judge_5 (by decide) (k := ?_)
    refine a_aload_n B dX6_judge_6 rfl ?_
    refine a_callS1r B rfl cf_X6_wrongSheet lk_X6_280 st_X6_wrongSheet (k_X6_wrongSheet t ht _) dX6_judge_7 (Nat.le_of_ble_eq_true rfl) ⟨Nat.le_of_ble_eq_true rfl, Nat.le_of_ble_eq_true rfl⟩ ⟨rfl, rfl⟩ ?_
    rw [if_pos h0]
    refine p_istore3 B dX6_judge_10 (by decide) (k := ?_)
    refine a_aload_n B dX6_judge_11 rfl ?_
    refine a_ifnull B dX6_judge_12 ?_
    refine a_iload_n B dX6_judge_15 rfl ?_
    refine a_if_eq 25 B dX6_judge_16 (by decide) (fun c16 => ?_) (fun c16 => ?_)
    · exact absurd c16 (by decide)
    refine a_aload_n B dX6_judge_19 rfl ?_
    refine a_iload_n B dX6_judge_20 rfl ?_
    refine a_callV1r B rfl cf_X6_tell lk_X6_60 in_X6_tell se_X6_tell (wl_rc (p0 := 0) (by decide) rfl rfl rfl) (k_X6_tell 5 (by decide) _ rfl _) dX6_judge_21 (Nat.le_of_ble_eq_true rfl) ⟨Nat.le_of_ble_eq_true rfl, Nat.le_of_ble_eq_true rfl⟩ ⟨rfl, rfl⟩ ?_
    exact a_iret B hr hlk dX6_judge_24 (rQr0 (k := 5) (by unfold judX; rw [hs]; rw [if_pos rfl, ent, if_pos h0]) (by decide) hI2 rfl)
  · subst hse
    have ent : nn (nI t) = t := nn_nI (by omega)
    refine a_aload_n B dX6_judge_0 rfl ?_
    refine a_iload_n B dX6_judge_1 rfl ?_
    refine a_callV1r B rfl cf_X6_sheetAt lk_X6_180 in_X6_sheetAt se_X6_sheetAt (wl_rc (p0 := 0) (by decide) rfl rfl rfl) (k_X6_sheetAt t ht _) dX6_judge_2 (Nat.le_of_ble_eq_true rfl) ⟨Nat.le_of_ble_eq_true rfl, Nat.le_of_ble_eq_true rfl⟩ ⟨rfl, rfl⟩ ?_
    refine p_astore2 B dX6_judge_5 (by decide) (k := ?_)
    refine a_aload_n B dX6_judge_6 rfl ?_
    refine a_callS1r B rfl cf_X6_wrongSheet lk_X6_280 st_X6_wrongSheet (k_X6_wrongSheet t ht _) dX6_judge_7 (Nat.le_of_ble_eq_true rfl) ⟨Nat.le_of_ble_eq_true rfl, Nat.le_of_ble_eq_true rfl⟩ ⟨rfl, rfl⟩ ?_
    rw [if_neg h0]
    refine p_istore3 B dX6_judge_10 (by decide) (k := ?_)
    refine a_aload_n B dX6_judge_11 rfl ?_
    refine a_ifnull B dX6_judge_12 ?_
    refine a_iload_n B dX6_judge_15 rfl ?_
    refine a_if_eq 25 B dX6_judge_16 (by decide) (fun c16 => ?_) (fun c16 => ?_)
    · refine a_iconst (v := 0) B dX6_judge_25 (by decide) ?_
      refine p_istore4 B dX6_judge_26 (by decide) (k := ?_)
      obtain ⟨N, hN, eN, eNo⟩ := hI0.n
      obtain ⟨hz1, hz2⟩ := (hZ t ht).e
      have loop : ∀ n k, szN M t + 1 ≤ k + n → k ≤ szN M t → fstN (jud1 M t) k = none → ∀ o5 : Option Value, AW Pp l Ee (rmK 2 (34 * 2)) Ss Mm Aa Bb Me Cc D (wl A cy 51 TC X) A0 6 0 0 (MQ Bb (QG D (wl A cy 51 TC X) A0 (rQ (judX M (nI t)) M M)) Aa Ss 0 0 A0) 28 [some (.ref (A 0)), some (.int (nI t)), some (.ref (A (43 + 2 * t))), some (.int 0), some (.int (nI k)), o5] [] (M) := by
        intro n
        induction n with
        | zero => intro k h1 h2; omega
        | succ n ih =>
          intro k h1 h2 h3 o5
          refine a_iload B dX6_judge_28 rfl ?_
          refine a_aload_n B dX6_judge_30 rfl ?_
          refine a_getI B fl_X6_277 (by omega) (tcT t ht) rfl dX6_judge_31 ?_
          rw [hz2]
          refine a_icmp_ge 79 B dX6_judge_34 (by decide) (fun c34 => ?_) (fun c34 => ?_)
          · refine a_iconst (v := 0) B dX6_judge_79 (by decide) ?_
            have e1 : k = szN M t := by have := mt (nI_ltI (a := k) (b := szN M t) (by omega) (by omega)).mpr (Int32.not_lt.mpr c34); omega
            subst e1
            exact a_iret B hr hlk dX6_judge_80 (rQl0 (by unfold judX; rw [hs, if_pos rfl, ent, if_neg h0, h3]) hI2 rfl)
          have hlt0 : k < szN M t := (nI_ltI (by omega) (by omega)).mp (Int32.not_le.mp c34)
          have eN2 : nOf (M 0) = N := eNo
          by_cases hkN : k < N
          · have hq8 : k < 8 := by omega
            refine a_aload_n B dX6_judge_37 rfl ?_
            refine a_getR B fl_X6_12 (by decide) rfl rfl dX6_judge_38 ?_
            refine a_iload B dX6_judge_41 rfl ?_
            refine a_callV1r B rfl cf_X0_at lk_X6_81 in_X0_at se_X0_at (wl_rc (p0 := 1) (by decide) rfl rfl rfl) (k_X0_at 0 k (by decide) hq8 _ (by rw [eN]; exact nI_lt hkN (by omega))) dX6_judge_43 (Nat.le_of_ble_eq_true rfl) ⟨Nat.le_of_ble_eq_true rfl, Nat.le_of_ble_eq_true rfl⟩ ⟨rfl, rfl⟩ ?_
            refine p_astore5 B dX6_judge_46 (by decide) (k := ?_)
            refine a_aload B dX6_judge_48 rfl ?_
            refine a_ifnull B dX6_judge_50 ?_
            refine a_aload_n B dX6_judge_53 rfl ?_
            refine a_getR B fl_X6_296 (by omega) (tcT t ht) rfl dX6_judge_54 ?_
            refine a_iload B dX6_judge_57 rfl ?_
            refine a_iald k B (by omega) (tcN t ht) rfl (by omega) (by decide) dX6_judge_59 ?_
            refine a_aload B dX6_judge_60 rfl ?_
            refine a_getI B fl_X6_305 (by omega) (tcP 0 (by decide) k hq8) rfl dX6_judge_62 ?_
            refine a_icmp_eq 73 B dX6_judge_65 (by decide) (fun c65 => ?_) (fun c65 => ?_)
            · have hjd : jud1 M t k = false := by unfold jud1; rw [eN2, decide_eq_true hkN, decide_eq_true (show tlS M t k = M 0 (36 + k) from c65)]; rfl
              refine p_iinc4 1 B dX6_judge_73 (by decide) (by decide) (k := ?_)
              refine a_goto 28 B dX6_judge_76 (by decide) ?_
              rw [nI_1]
              exact ih (k + 1) (by omega) (by omega) (fst_no h3 hjd) _
            have hjd : jud1 M t k = true := by unfold jud1; rw [decide_eq_false (show ¬ tlS M t k = M 0 (36 + k) from c65), Bool.and_false]; rfl
            refine a_iconst (v := 1) B dX6_judge_68 (by decide) ?_
            refine a_iload B dX6_judge_69 rfl ?_
            refine a_iadd B dX6_judge_71 ?_
            exact a_iret B hr hlk dX6_judge_72 (rQl0 (by unfold judX; rw [hs, if_pos rfl, ent, if_neg h0, fst_up (fst_yes h3 hjd) (szN M t) (by omega)]) hI2 rfl)
          · have hjd : jud1 M t k = true := by unfold jud1; rw [eN2, decide_eq_false hkN]; rfl
            refine a_aload_n B dX6_judge_37 rfl ?_
            refine a_getR B fl_X6_12 (by decide) rfl rfl dX6_judge_38 ?_
            refine a_iload B dX6_judge_41 rfl ?_
            refine a_callV1r B rfl cf_X0_at lk_X6_81 in_X0_at se_X0_at (wl_rc (p0 := 1) (by decide) rfl rfl rfl) (k_X0_atN 0 (by decide) _ _ (Or.inr (Or.inl (by rw [eN]; exact nI_le (Nat.le_of_not_lt hkN) (by omega))))) dX6_judge_43 (Nat.le_of_ble_eq_true rfl) ⟨Nat.le_of_ble_eq_true rfl, Nat.le_of_ble_eq_true rfl⟩ ⟨rfl, rfl⟩ ?_
            refine p_astoreN5 B dX6_judge_46 (by decide) (k := ?_)
            refine a_aloadN B dX6_judge_48 rfl ?_
            refine a_ifnullN 68 B dX6_judge_50 (by decide) ?_
            refine a_iconst (v := 1) B dX6_judge_68 (by decide) ?_
            refine a_iload B dX6_judge_69 rfl ?_
            refine a_iadd B dX6_judge_71 ?_
            exact a_iret B hr hlk dX6_judge_72 (rQl0 (by unfold judX; rw [hs, if_pos rfl, ent, if_neg h0, fst_up (fst_yes h3 hjd) (szN M t) (by omega)]) hI2 rfl)
      exact loop (szN M t + 1) 0 (by omega) (by omega) rfl _
    exact absurd rfl c16
  · refine a_aload_n B dX6_judge_0 rfl ?_
    refine a_iload_n B dX6_judge_1 rfl ?_
    refine a_callV1r B rfl cf_X6_sheetAt lk_X6_180 in_X6_sheetAt se_X6_sheetAt (wl_rc (p0 := 0) (by decide) rfl rfl rfl) (k_X6_sheetAtN _ hs _) dX6_judge_2 (Nat.le_of_ble_eq_true rfl) ⟨Nat.le_of_ble_eq_true rfl, Nat.le_of_ble_eq_true rfl⟩ ⟨rfl, rfl⟩ ?_
    refine p_astoreN2 B dX6_judge_5 (by decide) (k := ?_)
    refine a_aload_nN B dX6_judge_6 rfl ?_
    refine a_callS1r B rfl cf_X6_wrongSheet lk_X6_280 st_X6_wrongSheet (k_X6_wrongSheetN _) dX6_judge_7 (Nat.le_of_ble_eq_true rfl) ⟨Nat.le_of_ble_eq_true rfl, Nat.le_of_ble_eq_true rfl⟩ ⟨rfl, rfl⟩ ?_
    refine p_istore3 B dX6_judge_10 (by decide) (k := ?_)
    refine a_aload_nN B dX6_judge_11 rfl ?_
    refine a_ifnullN 19 B dX6_judge_12 (by decide) ?_
    refine a_aload_n B dX6_judge_19 rfl ?_
    refine a_iload_n B dX6_judge_20 rfl ?_
    refine a_callV1r B rfl cf_X6_tell lk_X6_60 in_X6_tell se_X6_tell (wl_rc (p0 := 0) (by decide) rfl rfl rfl) (k_X6_tell 0 (by decide) _ rfl _) dX6_judge_21 (Nat.le_of_ble_eq_true rfl) ⟨Nat.le_of_ble_eq_true rfl, Nat.le_of_ble_eq_true rfl⟩ ⟨rfl, rfl⟩ ?_
    exact a_iret B hr hlk dX6_judge_24 (rQr0 (k := 0) (by unfold judX; rw [hs]; rfl) (by decide) hI2 rfl)
theorem has_T2 {sz : Nat} {fr n : Int32} (hs : sz ≤ 40) (h : hasV (nI sz) fr n = true) : ∃ a, a + nn n ≤ sz ∧ fr = nI a ∧ n = nI (nn n) := by
  obtain ⟨a, b, hab, ea, eb⟩ := has_T hs h
  have e1 : nn n = b := by rw [eb, nn_nI (by omega)]
  exact ⟨a, by omega, ea, by rw [e1]; exact eb⟩
theorem cp_2 {M : Mem} {b0 s0 b1 d0 n : Nat} (h : 2 ≠ b1) : cpB M b0 s0 b1 d0 n 2 = M 2 := by rw [cpB_st, stB_ne h]
set_option maxRecDepth 20000 in
theorem k_X6_copy (s1 fr t1 to n1 : Int32) (M : Mem) (hJ : CI M) : CC l sk D cy A X mX6_copy 2 [.ref (A 0), .int s1, .int fr, .int t1, .int to, .int n1] M (rQ (copX M s1 fr t1 to n1).1 (copX M s1 fr t1 to n1).2 M) := by
  refine Con.of (lo := [some (.ref (A 0)), some (.int s1), some (.int fr), some (.int t1), some (.int to), some (.int n1), none, none]) cf_X6_copy (fun _ _ => wl_fst) 2 rfl (Nat.le_of_ble_eq_true rfl) (fun Pp Ee Ss Mm Aa Bb Me Cc A0 B hr hlk => ?_)
  have B : BS sk D cy (wl A cy 51 TC X) A0 Pp Ss Mm Aa Cc RX6 cX6_copy 8 := B
  obtain ⟨hI0, hI1, hI2, hT, hZ⟩ := hJ
  rcases sh2 s1 with ⟨t, ht, hse, hs⟩ | hs <;> rcases sh2 t1 with ⟨u, hu, hue, hu2⟩ | hu2
  · subst hse
    have ent : nn (nI t) = t := nn_nI (by omega)
    subst hue
    have enu : nn (nI u) = u := nn_nI (by omega)
    obtain ⟨hz1, hz2⟩ := (hZ t ht).e
    obtain ⟨hy1, hy2⟩ := (hZ u hu).e
    refine a_aload_n B dX6_copy_0 rfl ?_
    refine a_iload_n B dX6_copy_1 rfl ?_
    refine a_callV1r B rfl cf_X6_sheetAt lk_X6_180 in_X6_sheetAt se_X6_sheetAt (wl_rc (p0 := 0) (by decide) rfl rfl rfl) (k_X6_sheetAt t ht _) dX6_copy_2 (Nat.le_of_ble_eq_true rfl) ⟨Nat.le_of_ble_eq_true rfl, Nat.le_of_ble_eq_true rfl⟩ ⟨rfl, rfl⟩ ?_
    refine p_astore6 B dX6_copy_5 (by decide) (k := ?_)
    refine a_aload_n B dX6_copy_7 rfl ?_
    refine a_iload_n B dX6_copy_8 rfl ?_
    refine a_callV1r B rfl cf_X6_sheetAt lk_X6_180 in_X6_sheetAt se_X6_sheetAt (wl_rc (p0 := 0) (by decide) rfl rfl rfl) (k_X6_sheetAt u hu _) dX6_copy_9 (Nat.le_of_ble_eq_true rfl) ⟨Nat.le_of_ble_eq_true rfl, Nat.le_of_ble_eq_true rfl⟩ ⟨rfl, rfl⟩ ?_
    refine p_astore7 B dX6_copy_12 (by decide) (k := ?_)
    refine a_aload B dX6_copy_14 rfl ?_
    refine a_ifnull B dX6_copy_16 ?_
    refine a_aload B dX6_copy_19 rfl ?_
    refine a_ifnonnull 31 B dX6_copy_21 (by decide) ?_
    refine a_aload B dX6_copy_31 rfl ?_
    refine a_callV0r B rfl cf_X4_isMissing lk_X6_286 in_X4_isMissing se_X4_isMissing (wl_rc (p0 := 43 + 2 * t) (by omega) (tcT t ht) rfl rfl) (k_X4_isMissing t ht _) dX6_copy_33 (Nat.le_of_ble_eq_true rfl) ⟨Nat.le_of_ble_eq_true rfl, Nat.le_of_ble_eq_true rfl⟩ ⟨rfl, rfl⟩ ?_
    refine a_if_ne 47 B dX6_copy_36 (by decide) (fun c36 => ?_) (fun c36 => ?_)
    · have c36 := bI_ne0.mp c36
      refine a_aload_n B dX6_copy_47 rfl ?_
      refine a_ldcw B dX6_copy_48 kc_X6_265 ?_
      refine a_callV1r B rfl cf_X6_tell lk_X6_60 in_X6_tell se_X6_tell (wl_rc (p0 := 0) (by decide) rfl rfl rfl) (k_X6_tell 5 (by decide) _ (by decide) _) dX6_copy_51 (Nat.le_of_ble_eq_true rfl) ⟨Nat.le_of_ble_eq_true rfl, Nat.le_of_ble_eq_true rfl⟩ ⟨rfl, rfl⟩ ?_
      exact a_iret B hr hlk dX6_copy_54 (rQr0 (k := 5) (by unfold copX; rw [hs, hu2, if_pos (show (true && true) = true from rfl), ent, enu, if_pos (Or.inl (of_decide_eq_true c36))]) (by decide) hI2 rfl)
    have c36 := bI_eq0.mp c36
    refine a_aload B dX6_copy_39 rfl ?_
    refine a_callV0r B rfl cf_X4_isMissing lk_X6_286 in_X4_isMissing se_X4_isMissing (wl_rc (p0 := 43 + 2 * u) (by omega) (tcT u hu) rfl rfl) (k_X4_isMissing u hu _) dX6_copy_41 (Nat.le_of_ble_eq_true rfl) ⟨Nat.le_of_ble_eq_true rfl, Nat.le_of_ble_eq_true rfl⟩ ⟨rfl, rfl⟩ ?_
    refine a_if_eq 55 B dX6_copy_44 (by decide) (fun c44 => ?_) (fun c44 => ?_)
    · have c44 := bI_eq0.mp c44
      refine a_aload B dX6_copy_55 rfl ?_
      refine a_getI B fl_X6_290 (by omega) (tcT t ht) rfl dX6_copy_57 ?_
      refine a_aload B dX6_copy_60 rfl ?_
      refine a_getI B fl_X6_290 (by omega) (tcT u hu) rfl dX6_copy_62 ?_
      refine a_icmp_eq 76 B dX6_copy_65 (by decide) (fun c65 => ?_) (fun c65 => ?_)
      · refine a_aload B dX6_copy_76 rfl ?_
        refine a_iload_n B dX6_copy_78 rfl ?_
        refine a_iload B dX6_copy_79 rfl ?_
        refine a_callV2r B rfl cf_X4_has lk_X6_293 in_X4_has se_X4_has (wl_rc (p0 := 43 + 2 * t) (by omega) (tcT t ht) rfl rfl) (k_X4_has t ht _ _ _) dX6_copy_81 (Nat.le_of_ble_eq_true rfl) ⟨Nat.le_of_ble_eq_true rfl, Nat.le_of_ble_eq_true rfl⟩ ⟨rfl, rfl⟩ ?_
        refine a_if_eq 99 B dX6_copy_84 (by decide) (fun c84 => ?_) (fun c84 => ?_)
        · have c84 := bI_eq0.mp c84
          refine a_aload_n B dX6_copy_99 rfl ?_
          refine a_ldc B dX6_copy_100 kc_X6_59 ?_
          refine a_callV1r B rfl cf_X6_tell lk_X6_60 in_X6_tell se_X6_tell (wl_rc (p0 := 0) (by decide) rfl rfl rfl) (k_X6_tell 0 (by decide) _ (by decide) _) dX6_copy_102 (Nat.le_of_ble_eq_true rfl) ⟨Nat.le_of_ble_eq_true rfl, Nat.le_of_ble_eq_true rfl⟩ ⟨rfl, rfl⟩ ?_
          exact a_iret B hr hlk dX6_copy_105 (rQr0 (k := 0) (by unfold copX; rw [hs, hu2, if_pos (show (true && true) = true from rfl), ent, enu, if_neg (fun q => q.elim (of_decide_eq_false c36) (of_decide_eq_false c44)), if_pos c65, if_neg (fun q => by rw [c84] at q; cases q)]) (by decide) hI2 rfl)
        have c84 := bI_ne0.mp c84
        obtain ⟨a, hab, ea, en1⟩ := has_T2 hz1 (hz2 ▸ c84)
        refine a_aload B dX6_copy_87 rfl ?_
        refine a_iload B dX6_copy_89 rfl ?_
        refine a_iload B dX6_copy_91 rfl ?_
        refine a_callV2r B rfl cf_X4_has lk_X6_293 in_X4_has se_X4_has (wl_rc (p0 := 43 + 2 * u) (by omega) (tcT u hu) rfl rfl) (k_X4_has u hu _ _ _) dX6_copy_93 (Nat.le_of_ble_eq_true rfl) ⟨Nat.le_of_ble_eq_true rfl, Nat.le_of_ble_eq_true rfl⟩ ⟨rfl, rfl⟩ ?_
        refine a_if_ne 106 B dX6_copy_96 (by decide) (fun c96 => ?_) (fun c96 => ?_)
        · have c96 := bI_ne0.mp c96
          obtain ⟨b, hbb, eb, -⟩ := has_T2 hy1 (hy2 ▸ c96)
          refine a_aload B dX6_copy_106 rfl ?_
          refine a_getR B fl_X6_296 (by omega) (tcT t ht) rfl dX6_copy_108 ?_
          refine a_iload_n B dX6_copy_111 rfl ?_
          refine a_aload B dX6_copy_112 rfl ?_
          refine a_getR B fl_X6_296 (by omega) (tcT u hu) rfl dX6_copy_114 ?_
          refine a_iload B dX6_copy_117 rfl ?_
          refine a_iload B dX6_copy_119 rfl ?_
          refine a_acopy a b (nn n1) B twC (by omega) (tcN t ht) (by omega) (tcN u hu) ea eb en1 (by omega) (by omega) (by decide) (by decide) lk_X6_299 ac_nat ac_st ii_J10 (by decide) (by decide) dX6_copy_121 ?_
          refine a_iload B dX6_copy_124 rfl ?_
          have hX : copX M (nI t) fr (nI u) to n1 = (.inl n1, cpB M (7 + t) (2 + a) (7 + u) (2 + b) (nn n1)) := by unfold copX; rw [hs, hu2, if_pos (show (true && true) = true from rfl), ent, enu, if_neg (fun q => q.elim (of_decide_eq_false c36) (of_decide_eq_false c44)), if_pos c65, if_pos (show (hasV (M (7 + t) 1) fr n1 && hasV (M (7 + u) 1) to n1) = true by rw [c84, c96]; rfl), ea, eb, nn_nI (show a < 2 ^ 31 by omega), nn_nI (show b < 2 ^ 31 by omega)]
          exact a_iret B hr hlk dX6_copy_126 (rQl0 (by rw [hX]) (by rw [hX]; show Inv (cpB M _ _ _ _ _ 2); rw [cp_2 (by omega)]; exact hI2) (by rw [hX]))
        have c96 := bI_eq0.mp c96
        refine a_aload_n B dX6_copy_99 rfl ?_
        refine a_ldc B dX6_copy_100 kc_X6_59 ?_
        refine a_callV1r B rfl cf_X6_tell lk_X6_60 in_X6_tell se_X6_tell (wl_rc (p0 := 0) (by decide) rfl rfl rfl) (k_X6_tell 0 (by decide) _ (by decide) _) dX6_copy_102 (Nat.le_of_ble_eq_true rfl) ⟨Nat.le_of_ble_eq_true rfl, Nat.le_of_ble_eq_true rfl⟩ ⟨rfl, rfl⟩ ?_
        exact a_iret B hr hlk dX6_copy_105 (rQr0 (k := 0) (by unfold copX; rw [hs, hu2, if_pos (show (true && true) = true from rfl), ent, enu, if_neg (fun q => q.elim (of_decide_eq_false c36) (of_decide_eq_false c44)), if_pos c65, if_neg (fun q => by rw [c96, Bool.and_false] at q; cases q)]) (by decide) hI2 rfl)
      refine a_aload_n B dX6_copy_68 rfl ?_
      refine a_ldcw B dX6_copy_69 kc_X6_269 ?_
      refine a_callV1r B rfl cf_X6_tell lk_X6_60 in_X6_tell se_X6_tell (wl_rc (p0 := 0) (by decide) rfl rfl rfl) (k_X6_tell 2 (by decide) _ (by decide) _) dX6_copy_72 (Nat.le_of_ble_eq_true rfl) ⟨Nat.le_of_ble_eq_true rfl, Nat.le_of_ble_eq_true rfl⟩ ⟨rfl, rfl⟩ ?_
      exact a_iret B hr hlk dX6_copy_75 (rQr0 (k := 2) (by unfold copX; rw [hs, hu2, if_pos (show (true && true) = true from rfl), ent, enu, if_neg (fun q => q.elim (of_decide_eq_false c36) (of_decide_eq_false c44)), if_neg c65]) (by decide) hI2 rfl)
    have c44 := bI_ne0.mp c44
    refine a_aload_n B dX6_copy_47 rfl ?_
    refine a_ldcw B dX6_copy_48 kc_X6_265 ?_
    refine a_callV1r B rfl cf_X6_tell lk_X6_60 in_X6_tell se_X6_tell (wl_rc (p0 := 0) (by decide) rfl rfl rfl) (k_X6_tell 5 (by decide) _ (by decide) _) dX6_copy_51 (Nat.le_of_ble_eq_true rfl) ⟨Nat.le_of_ble_eq_true rfl, Nat.le_of_ble_eq_true rfl⟩ ⟨rfl, rfl⟩ ?_
    exact a_iret B hr hlk dX6_copy_54 (rQr0 (k := 5) (by unfold copX; rw [hs, hu2, if_pos (show (true && true) = true from rfl), ent, enu, if_pos (Or.inr (of_decide_eq_true c44))]) (by decide) hI2 rfl)
  · subst hse
    have ent : nn (nI t) = t := nn_nI (by omega)
    refine a_aload_n B dX6_copy_0 rfl ?_
    refine a_iload_n B dX6_copy_1 rfl ?_
    refine a_callV1r B rfl cf_X6_sheetAt lk_X6_180 in_X6_sheetAt se_X6_sheetAt (wl_rc (p0 := 0) (by decide) rfl rfl rfl) (k_X6_sheetAt t ht _) dX6_copy_2 (Nat.le_of_ble_eq_true rfl) ⟨Nat.le_of_ble_eq_true rfl, Nat.le_of_ble_eq_true rfl⟩ ⟨rfl, rfl⟩ ?_
    refine p_astore6 B dX6_copy_5 (by decide) (k := ?_)
    refine a_aload_n B dX6_copy_7 rfl ?_
    refine a_iload_n B dX6_copy_8 rfl ?_
    refine a_callV1r B rfl cf_X6_sheetAt lk_X6_180 in_X6_sheetAt se_X6_sheetAt (wl_rc (p0 := 0) (by decide) rfl rfl rfl) (k_X6_sheetAtN _ hu2 _) dX6_copy_9 (Nat.le_of_ble_eq_true rfl) ⟨Nat.le_of_ble_eq_true rfl, Nat.le_of_ble_eq_true rfl⟩ ⟨rfl, rfl⟩ ?_
    refine p_astoreN7 B dX6_copy_12 (by decide) (k := ?_)
    refine a_aload B dX6_copy_14 rfl ?_
    refine a_ifnull B dX6_copy_16 ?_
    refine a_aloadN B dX6_copy_19 rfl ?_
    refine a_ifnonnullN B dX6_copy_21 ?_
    refine a_aload_n B dX6_copy_24 rfl ?_
    refine a_ldc B dX6_copy_25 kc_X6_59 ?_
    refine a_callV1r B rfl cf_X6_tell lk_X6_60 in_X6_tell se_X6_tell (wl_rc (p0 := 0) (by decide) rfl rfl rfl) (k_X6_tell 0 (by decide) _ (by decide) _) dX6_copy_27 (Nat.le_of_ble_eq_true rfl) ⟨Nat.le_of_ble_eq_true rfl, Nat.le_of_ble_eq_true rfl⟩ ⟨rfl, rfl⟩ ?_
    exact a_iret B hr hlk dX6_copy_30 (rQr0 (k := 0) (by unfold copX; rw [hs, hu2]; rfl) (by decide) hI2 rfl)
  · subst hue
    refine a_aload_n B dX6_copy_0 rfl ?_
    refine a_iload_n B dX6_copy_1 rfl ?_
    refine a_callV1r B rfl cf_X6_sheetAt lk_X6_180 in_X6_sheetAt se_X6_sheetAt (wl_rc (p0 := 0) (by decide) rfl rfl rfl) (k_X6_sheetAtN _ hs _) dX6_copy_2 (Nat.le_of_ble_eq_true rfl) ⟨Nat.le_of_ble_eq_true rfl, Nat.le_of_ble_eq_true rfl⟩ ⟨rfl, rfl⟩ ?_
    refine p_astoreN6 B dX6_copy_5 (by decide) (k := ?_)
    refine a_aload_n B dX6_copy_7 rfl ?_
    refine a_iload_n B dX6_copy_8 rfl ?_
    refine a_callV1r B rfl cf_X6_sheetAt lk_X6_180 in_X6_sheetAt se_X6_sheetAt (wl_rc (p0 := 0) (by decide) rfl rfl rfl) (k_X6_sheetAt u hu _) dX6_copy_9 (Nat.le_of_ble_eq_true rfl) ⟨Nat.le_of_ble_eq_true rfl, Nat.le_of_ble_eq_true rfl⟩ ⟨rfl, rfl⟩ ?_
    refine p_astore7 B dX6_copy_12 (by decide) (k := ?_)
    refine a_aloadN B dX6_copy_14 rfl ?_
    refine a_ifnullN 24 B dX6_copy_16 (by decide) ?_
    refine a_aload_n B dX6_copy_24 rfl ?_
    refine a_ldc B dX6_copy_25 kc_X6_59 ?_
    refine a_callV1r B rfl cf_X6_tell lk_X6_60 in_X6_tell se_X6_tell (wl_rc (p0 := 0) (by decide) rfl rfl rfl) (k_X6_tell 0 (by decide) _ (by decide) _) dX6_copy_27 (Nat.le_of_ble_eq_true rfl) ⟨Nat.le_of_ble_eq_true rfl, Nat.le_of_ble_eq_true rfl⟩ ⟨rfl, rfl⟩ ?_
    exact a_iret B hr hlk dX6_copy_30 (rQr0 (k := 0) (by unfold copX; rw [hs, hu2]; rfl) (by decide) hI2 rfl)
  · refine a_aload_n B dX6_copy_0 rfl ?_
    refine a_iload_n B dX6_copy_1 rfl ?_
    refine a_callV1r B rfl cf_X6_sheetAt lk_X6_180 in_X6_sheetAt se_X6_sheetAt (wl_rc (p0 := 0) (by decide) rfl rfl rfl) (k_X6_sheetAtN _ hs _) dX6_copy_2 (Nat.le_of_ble_eq_true rfl) ⟨Nat.le_of_ble_eq_true rfl, Nat.le_of_ble_eq_true rfl⟩ ⟨rfl, rfl⟩ ?_
    refine p_astoreN6 B dX6_copy_5 (by decide) (k := ?_)
    refine a_aload_n B dX6_copy_7 rfl ?_
    refine a_iload_n B dX6_copy_8 rfl ?_
    refine a_callV1r B rfl cf_X6_sheetAt lk_X6_180 in_X6_sheetAt se_X6_sheetAt (wl_rc (p0 := 0) (by decide) rfl rfl rfl) (k_X6_sheetAtN _ hu2 _) dX6_copy_9 (Nat.le_of_ble_eq_true rfl) ⟨Nat.le_of_ble_eq_true rfl, Nat.le_of_ble_eq_true rfl⟩ ⟨rfl, rfl⟩ ?_
    refine p_astoreN7 B dX6_copy_12 (by decide) (k := ?_)
    refine a_aloadN B dX6_copy_14 rfl ?_
    refine a_ifnullN 24 B dX6_copy_16 (by decide) ?_
    refine a_aload_n B dX6_copy_24 rfl ?_
    refine a_ldc B dX6_copy_25 kc_X6_59 ?_
    refine a_callV1r B rfl cf_X6_tell lk_X6_60 in_X6_tell se_X6_tell (wl_rc (p0 := 0) (by decide) rfl rfl rfl) (k_X6_tell 0 (by decide) _ (by decide) _) dX6_copy_27 (Nat.le_of_ble_eq_true rfl) ⟨Nat.le_of_ble_eq_true rfl, Nat.le_of_ble_eq_true rfl⟩ ⟨rfl, rfl⟩ ?_
    exact a_iret B hr hlk dX6_copy_30 (rQr0 (k := 0) (by unfold copX; rw [hs, hu2]; rfl) (by decide) hI2 rfl)
end C14
