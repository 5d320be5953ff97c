section R13

def bitsOkR (b : Int32) : Bool := bitsOk b
def shnD (q : Dm) (t k : Nat) : Dm := fun j => if 40 * t ≤ j ∧ j < 40 * t + k then 0 else q j
theorem shn_s {q : Dm} {t k : Nat} : upd (shnD q t k) (40 * t + k) 0 = shnD q t (k + 1) := by
  funext j
  unfold upd shnD
  by_cases h : j = 40 * t + k
  · rw [if_pos h, if_pos (by omega)]
  · rw [if_neg h]
    by_cases h2 : 40 * t ≤ j ∧ j < 40 * t + k
    · rw [if_pos h2, if_pos (by omega)]
    · rw [if_neg h2, if_neg (by omega)]
theorem shn_0 {q : Dm} {t : Nat} : shnD q t 0 = q := by
  funext j
  unfold shnD
  rw [if_neg (by omega)]
def sheM (M : Mem) (t : Nat) (b n : Int32) : Mem := stB (stB (stB M 6 (upd (M 6) t b)) 7 (upd (M 7) t (if b = 0 then 0 else n))) 8 (shnD (M 8) t 40)
def sheR (M : Mem) (s b n : Int32) : Oc × Mem := if wi s 3 && bitsOk b then (if n < 0 then (.inr 6, M) else if 40 < n then (.inr 0, M) else (.inl (if b = 0 then 0 else n), sheM M (nn s) b n)) else (.inr 0, M)
theorem bo_no {b : Int32} (h0 : ¬ b = 0) (h1 : ¬ b = 8) (h2 : ¬ b = 16) (h3 : ¬ b = 32) : bitsOk b = false := by
  unfold bitsOk
  rw [decide_eq_false h0, decide_eq_false h1, decide_eq_false h2, decide_eq_false h3]
  rfl
theorem bo_yes {b : Int32} (h : b = 0 ∨ b = 8 ∨ b = 16 ∨ b = 32) : bitsOk b = true := by
  rcases h with rfl | rfl | rfl | rfl <;> rfl

variable {l : Launch} {sk : (Nat → Nat) × (Nat → Nat)} {D : va_G} {cy : Nat → ClassId} {A : Nat → Nat} {X : va_W}
set_option maxRecDepth 20000 in
theorem m_as (sp kind : Int32) (M : Mem) (hI : Inv (M 0)) (hS : spOk (M 0)) : CR l sk D cy A X mX7_as 2 [.ref (A 0), .int sp, .int kind] M (rR (asR (M 0) sp kind) M M) := by
  refine Con.of (lo := [some (.ref (A 0)), some (.int sp), some (.int kind), none, none]) cf_X7_as (fun _ _ => wl_fst) 2 rfl (Nat.le_of_ble_eq_true rfl) (fun Pp Ee Ss Mm Aa Bb Me Cc A0 B hr hlk => ?_)
  have B : BS sk D cy (wl A cy 11 TM X) A0 Pp Ss Mm Aa Cc RX7 cX7_as 5 := B
  refine a_iload_n B dX7_as_0 rfl ?_
  refine a_i2l B dX7_as_1 ?_
  refine a_lconst (v := 0) B dX7_as_2 (by decide) ?_
  refine a_ldc2 B dX7_as_3 kl_X7_101 ?_
  refine a_callS3r B rfl cf_X7_in lk_X7_42 st_X7_in (m_in sp 0 9 _ _ (by first | rfl | decide) (by first | rfl | decide) _) dX7_as_6 (Nat.le_of_ble_eq_true rfl) ⟨Nat.le_of_ble_eq_true rfl, Nat.le_of_ble_eq_true rfl⟩ ⟨rfl, rfl⟩ ?_
  refine a_if_eq 24 B dX7_as_9 (by decide) (fun c9 => ?_) (fun c9 => ?_)
  · have c9 := bI_eq0.mp c9
    refine a_aload_n B dX7_as_24 rfl ?_
    refine a_iconst (v := 0) B dX7_as_25 (by decide) ?_
    refine a_callV1r B rfl cf_X7_finds lk_X7_109 in_X7_finds se_X7_finds (wl_rc (p0 := 0) (by decide) rfl rfl rfl) (m_finds 0 (by decide) _) dX7_as_26 (Nat.le_of_ble_eq_true rfl) ⟨Nat.le_of_ble_eq_true rfl, Nat.le_of_ble_eq_true rfl⟩ ⟨rfl, rfl⟩ ?_
    exact a_iret B hr hlk dX7_as_29 (rR_r0 (k := 0) (by unfold asR; rw [show wi sp 9 = false from c9]; rfl) rfl rfl)
  have c9 := bI_ne0.mp c9
  obtain ⟨z, hzt, hze⟩ := wi_T (t := 9) c9 (by omega)
  subst hze
  have ez : nn (nI z) = z := nn_nI (by omega)
  refine a_iload_n B dX7_as_12 rfl ?_
  refine a_i2l B dX7_as_13 ?_
  refine a_lconst (v := 0) B dX7_as_14 (by decide) ?_
  refine a_ldc2 B dX7_as_15 kl_X7_118 ?_
  refine a_callS3r B rfl cf_X7_in lk_X7_42 st_X7_in (m_in kind 0 6 _ _ (by first | rfl | decide) (by first | rfl | decide) _) dX7_as_18 (Nat.le_of_ble_eq_true rfl) ⟨Nat.le_of_ble_eq_true rfl, Nat.le_of_ble_eq_true rfl⟩ ⟨rfl, rfl⟩ ?_
  refine a_if_ne 30 B dX7_as_21 (by decide) (fun c21 => ?_) (fun c21 => ?_)
  · have c21 := bI_ne0.mp c21
    refine a_aload_n B dX7_as_30 rfl ?_
    refine a_getR B fl_X7_7 (by decide) rfl rfl dX7_as_31 ?_
    refine a_bipush (v := 60) B dX7_as_34 (by decide) ?_
    refine a_iload_n B dX7_as_36 rfl ?_
    refine a_iadd B dX7_as_37 ?_
    refine a_iald (60 + z) B (by decide) rfl (nI_add 60 z) (by omega) (by decide) dX7_as_38 ?_
    rw [Nat.zero_add (60 + z)]
    refine a_if_ne 48 B dX7_as_39 (by decide) (fun c39 => ?_) (fun c39 => ?_)
    · have c39x : ¬ M 0 (60 + z) = 0 := c39
      obtain ⟨mm, hm8, hme⟩ := hS z (by omega)
      have hm1 : 1 ≤ mm := by
        rcases Nat.eq_zero_or_pos mm with h | h
        · exact absurd (by rw [hme, h]; rfl) c39x
        · exact h
      have hp1 : nI mm - 1 = nI (mm - 1) := pk_sub (a := mm) (b := 1) hm1
      refine a_aload_n B dX7_as_48 rfl ?_
      refine a_getR B fl_X7_7 (by decide) rfl rfl dX7_as_49 ?_
      refine a_bipush (v := 60) B dX7_as_52 (by decide) ?_
      refine a_iload_n B dX7_as_54 rfl ?_
      refine a_iadd B dX7_as_55 ?_
      refine a_iald (60 + z) B (by decide) rfl (nI_add 60 z) (by omega) (by decide) dX7_as_56 ?_
      rw [Nat.zero_add (60 + z)]
      refine a_iconst (v := 1) B dX7_as_57 (by decide) ?_
      refine a_isub B dX7_as_58 ?_
      refine p_istore3 B dX7_as_59 (by decide) (k := ?_)
      rw [hme, hp1]
      refine a_aload_n B dX7_as_60 rfl ?_
      refine a_iload_n B dX7_as_61 rfl ?_
      refine a_iconst (v := 0) B dX7_as_62 (by decide) ?_
      refine a_callV2r B rfl cf_X7_its lk_X7_54 in_X7_its se_X7_its (wl_rc (p0 := 0) (by decide) rfl rfl rfl) (m_its (mm - 1) 0 (12 + (mm - 1)) (by omega) (by decide) (by omega) _) dX7_as_63 (Nat.le_of_ble_eq_true rfl) ⟨Nat.le_of_ble_eq_true rfl, Nat.le_of_ble_eq_true rfl⟩ ⟨rfl, rfl⟩ ?_
      refine p_istore4 B dX7_as_66 (by decide) (k := ?_)
      refine a_iload_n B dX7_as_68 rfl ?_
      refine a_if_eq 99 B dX7_as_69 (by decide) (fun c69 => ?_) (fun c69 => ?_)
      · refine a_iload_n B dX7_as_99 rfl ?_
        refine a_goto 108 B dX7_as_100 (by decide) ?_
        exact a_iret B hr hlk dX7_as_108 (rR_l0 (by unfold asR; rw [show wi (nI z) 9 = true from c9, show wi kind 6 = true from c21, if_pos (show (true && true) = true from rfl), ez, if_neg c39x, hme, hp1, nn_nI (show mm - 1 < 2 ^ 31 by omega), if_pos (Or.inl c69)]) (rfl))
      refine a_iload_n B dX7_as_72 rfl ?_
      refine a_iload B dX7_as_73 rfl ?_
      refine a_icmp_eq 99 B dX7_as_75 (by decide) (fun c75 => ?_) (fun c75 => ?_)
      · refine a_iload_n B dX7_as_99 rfl ?_
        refine a_goto 108 B dX7_as_100 (by decide) ?_
        exact a_iret B hr hlk dX7_as_108 (rR_l0 (by unfold asR; rw [show wi (nI z) 9 = true from c9, show wi kind 6 = true from c21, if_pos (show (true && true) = true from rfl), ez, if_neg c39x, hme, hp1, nn_nI (show mm - 1 < 2 ^ 31 by omega), if_pos (Or.inr (Or.inl c75))]) (rfl))
      refine a_iload_n B dX7_as_78 rfl ?_
      refine a_iload B dX7_as_79 rfl ?_
      refine a_callS1r B rfl cf_X7_above lk_X7_290 st_X7_above (m_above _ _) dX7_as_81 (Nat.le_of_ble_eq_true rfl) ⟨Nat.le_of_ble_eq_true rfl, Nat.le_of_ble_eq_true rfl⟩ ⟨rfl, rfl⟩ ?_
      refine a_icmp_eq 99 B dX7_as_84 (by decide) (fun c84 => ?_) (fun c84 => ?_)
      · refine a_iload_n B dX7_as_99 rfl ?_
        refine a_goto 108 B dX7_as_100 (by decide) ?_
        exact a_iret B hr hlk dX7_as_108 (rR_l0 (by unfold asR; rw [show wi (nI z) 9 = true from c9, show wi kind 6 = true from c21, if_pos (show (true && true) = true from rfl), ez, if_neg c39x, hme, hp1, nn_nI (show mm - 1 < 2 ^ 31 by omega), if_pos (Or.inr (Or.inr (Or.inl c84)))]) (rfl))
      refine a_iload_n B dX7_as_87 rfl ?_
      refine a_iload B dX7_as_88 rfl ?_
      refine a_callS1r B rfl cf_X7_above lk_X7_290 st_X7_above (m_above _ _) dX7_as_90 (Nat.le_of_ble_eq_true rfl) ⟨Nat.le_of_ble_eq_true rfl, Nat.le_of_ble_eq_true rfl⟩ ⟨rfl, rfl⟩ ?_
      refine a_callS1r B rfl cf_X7_above lk_X7_290 st_X7_above (m_above _ _) dX7_as_93 (Nat.le_of_ble_eq_true rfl) ⟨Nat.le_of_ble_eq_true rfl, Nat.le_of_ble_eq_true rfl⟩ ⟨rfl, rfl⟩ ?_
      refine a_icmp_ne 103 B dX7_as_96 (by decide) (fun c96 => ?_) (fun c96 => ?_)
      · refine a_aload_n B dX7_as_103 rfl ?_
        refine a_iconst (v := 2) B dX7_as_104 (by decide) ?_
        refine a_callV1r B rfl cf_X7_finds lk_X7_109 in_X7_finds se_X7_finds (wl_rc (p0 := 0) (by decide) rfl rfl rfl) (m_finds 2 (by decide) _) dX7_as_105 (Nat.le_of_ble_eq_true rfl) ⟨Nat.le_of_ble_eq_true rfl, Nat.le_of_ble_eq_true rfl⟩ ⟨rfl, rfl⟩ ?_
        exact a_iret B hr hlk dX7_as_108 (rR_r0 (k := 2) (by unfold asR; rw [show wi (nI z) 9 = true from c9, show wi kind 6 = true from c21, if_pos (show (true && true) = true from rfl), ez, if_neg c39x, hme, hp1, nn_nI (show mm - 1 < 2 ^ 31 by omega), if_neg (fun q => q.elim c69 (fun q => q.elim c75 (fun q => q.elim c84 c96)))]) rfl rfl)
      refine a_iload_n B dX7_as_99 rfl ?_
      refine a_goto 108 B dX7_as_100 (by decide) ?_
      exact a_iret B hr hlk dX7_as_108 (rR_l0 (by unfold asR; rw [show wi (nI z) 9 = true from c9, show wi kind 6 = true from c21, if_pos (show (true && true) = true from rfl), ez, if_neg c39x, hme, hp1, nn_nI (show mm - 1 < 2 ^ 31 by omega), if_pos (Or.inr (Or.inr (Or.inr c96)))]) (rfl))
    have c39x : M 0 (60 + z) = 0 := c39
    refine a_aload_n B dX7_as_42 rfl ?_
    refine a_iconst (v := 5) B dX7_as_43 (by decide) ?_
    refine a_callV1r B rfl cf_X7_finds lk_X7_109 in_X7_finds se_X7_finds (wl_rc (p0 := 0) (by decide) rfl rfl rfl) (m_finds 5 (by decide) _) dX7_as_44 (Nat.le_of_ble_eq_true rfl) ⟨Nat.le_of_ble_eq_true rfl, Nat.le_of_ble_eq_true rfl⟩ ⟨rfl, rfl⟩ ?_
    exact a_iret B hr hlk dX7_as_47 (rR_r0 (k := 5) (by unfold asR; rw [show wi (nI z) 9 = true from c9, show wi kind 6 = true from c21, if_pos (show (true && true) = true from rfl), ez, if_pos c39x]) rfl rfl)
  have c21 := bI_eq0.mp c21
  refine a_aload_n B dX7_as_24 rfl ?_
  refine a_iconst (v := 0) B dX7_as_25 (by decide) ?_
  refine a_callV1r B rfl cf_X7_finds lk_X7_109 in_X7_finds se_X7_finds (wl_rc (p0 := 0) (by decide) rfl rfl rfl) (m_finds 0 (by decide) _) dX7_as_26 (Nat.le_of_ble_eq_true rfl) ⟨Nat.le_of_ble_eq_true rfl, Nat.le_of_ble_eq_true rfl⟩ ⟨rfl, rfl⟩ ?_
  exact a_iret B hr hlk dX7_as_29 (rR_r0 (k := 0) (by unfold asR; rw [show wi kind 6 = false from c21, Bool.and_false]; rfl) rfl rfl)
set_option maxRecDepth 20000 in
theorem m_sheet (s1 b n1 : Int32) (M : Mem) : CR l sk D cy A X mX7_sheet 2 [.ref (A 0), .int s1, .int b, .int n1] M (rR (sheR M s1 b n1).1 (sheR M s1 b n1).2 M) := by
  refine Con.of (lo := [some (.ref (A 0)), some (.int s1), some (.int b), some (.int n1), none]) cf_X7_sheet (fun _ _ => wl_fst) 1 rfl (Nat.le_of_ble_eq_true rfl) (fun Pp Ee Ss Mm Aa Bb Me Cc A0 B hr hlk => ?_)
  have B : BS sk D cy (wl A cy 11 TM X) A0 Pp Ss Mm Aa Cc RX7 cX7_sheet 5 := B
  refine a_iload_n B dX7_sheet_0 rfl ?_
  refine a_callS1r B rfl cf_X7_isSheet lk_X7_295 st_X7_isSheet (m_isSheet _ _) dX7_sheet_1 (Nat.le_of_ble_eq_true rfl) ⟨Nat.le_of_ble_eq_true rfl, Nat.le_of_ble_eq_true rfl⟩ ⟨rfl, rfl⟩ ?_
  refine a_if_eq 29 B dX7_sheet_4 (by decide) (fun c4 => ?_) (fun c4 => ?_)
  · have c4 := bI_eq0.mp c4
    refine a_aload_n B dX7_sheet_29 rfl ?_
    refine a_iconst (v := 0) B dX7_sheet_30 (by decide) ?_
    refine a_callV1r B rfl cf_X7_finds lk_X7_109 in_X7_finds se_X7_finds (wl_rc (p0 := 0) (by decide) rfl rfl rfl) (m_finds 0 (by decide) _) dX7_sheet_31 (Nat.le_of_ble_eq_true rfl) ⟨Nat.le_of_ble_eq_true rfl, Nat.le_of_ble_eq_true rfl⟩ ⟨rfl, rfl⟩ ?_
    exact a_iret B hr hlk dX7_sheet_34 (rR_r0 (k := 0) (by unfold sheR; rw [show wi s1 3 = false from c4]; rfl) rfl rfl)
  have c4 := bI_ne0.mp c4
  obtain ⟨t, htt, hte⟩ := wi_T (t := 3) c4 (by omega)
  subst hte
  refine a_iload_n B dX7_sheet_7 rfl ?_
  refine a_if_eq 35 B dX7_sheet_8 (by decide) (fun c8 => ?_) (fun c8 => ?_)
  · refine a_iload_n B dX7_sheet_35 rfl ?_
    refine a_if_ge 46 B dX7_sheet_36 (by decide) (fun c36 => ?_) (fun c36 => ?_)
    · refine a_iload_n B dX7_sheet_46 rfl ?_
      refine a_bipush (v := 40) B dX7_sheet_47 (by decide) ?_
      refine a_icmp_le 58 B dX7_sheet_49 (by decide) (fun c49 => ?_) (fun c49 => ?_)
      · refine a_aload_n B dX7_sheet_58 rfl ?_
        refine a_getR B fl_X7_29 (by decide) rfl rfl dX7_sheet_59 ?_
        refine a_iload_n B dX7_sheet_62 rfl ?_
        refine a_iload_n B dX7_sheet_63 rfl ?_
        refine a_iast t B twM (by decide) rfl rfl (by omega) (by decide) dX7_sheet_64 ?_
        refine a_aload_n B dX7_sheet_65 rfl ?_
        refine a_getR B fl_X7_32 (by decide) rfl rfl dX7_sheet_66 ?_
        refine a_iload_n B dX7_sheet_69 rfl ?_
        refine a_iload_n B dX7_sheet_70 rfl ?_
        refine a_if_ne 78 B dX7_sheet_71 (by decide) (fun c71 => ?_) (fun c71 => ?_)
        · refine a_iload_n B dX7_sheet_78 rfl ?_
          refine a_iast t B twM (by decide) rfl rfl (by omega) (by decide) dX7_sheet_79 ?_
          refine a_iconst (v := 0) B dX7_sheet_80 (by decide) ?_
          refine p_istore4 B dX7_sheet_81 (by decide) (k := ?_)
          have hsz : (if b = 0 then 0 else n1) = n1 := if_neg c71
          have hbo : bitsOk b = true := bo_yes (by first | exact Or.inl c8 | exact Or.inr (Or.inl c14) | exact Or.inr (Or.inr (Or.inl c20)) | exact Or.inr (Or.inr (Or.inr c26)))
          have loop : ∀ n k, 41 ≤ k + n → k ≤ 40 → AW Pp l Ee (rmK 2 (34 * 2)) Ss Mm Aa Bb Me Cc D (wl A cy 11 TM X) A0 5 0 0 (MQ Bb (QG D (wl A cy 11 TM X) A0 (rR (sheR M (nI t) b n1).1 (sheR M (nI t) b n1).2 M)) Aa Ss 0 0 A0) 83 [some (.ref (A 0)), some (.int (nI t)), some (.int b), some (.int n1), some (.int (nI k))] [] (stB (stB (stB M 6 (upd (M 6) t b)) 7 (upd (M 7) t (if b = 0 then 0 else n1))) 8 (shnD (M 8) t k)) := by
            intro n
            induction n with
            | zero => intro k h1 h2; omega
            | succ n ih =>
              intro k h1 h2
              refine a_iload B dX7_sheet_83 rfl ?_
              refine a_bipush (v := 40) B dX7_sheet_85 (by decide) ?_
              refine a_icmp_ge 109 B dX7_sheet_87 (by decide) (fun c87 => ?_) (fun c87 => ?_)
              · have e1 : k = 40 := by have := ge_n (b := 40) c87 rfl rfl (by omega) (by omega); omega
                subst e1
                refine a_aload_n B dX7_sheet_109 rfl ?_
                refine a_getR B fl_X7_32 (by decide) rfl rfl dX7_sheet_110 ?_
                refine a_iload_n B dX7_sheet_113 rfl ?_
                refine a_iald t B (by decide) rfl rfl (by omega) (by decide) dX7_sheet_114 ?_
                exact a_iret B hr hlk dX7_sheet_115 (rR_l0 (by unfold sheR; rw [show wi (nI t) 3 = true from c4, hbo, if_pos (show (true && true) = true from rfl), if_neg (Int32.not_lt.mpr c36), if_neg (Int32.not_lt.mpr c49), nn_nI (show t < 2 ^ 31 by omega), stB_ne (show (7 : Nat) ≠ 8 by decide), stB_at, Nat.zero_add, pk_us]) (by unfold sheR; rw [show wi (nI t) 3 = true from c4, hbo, if_pos (show (true && true) = true from rfl), if_neg (Int32.not_lt.mpr c36), if_neg (Int32.not_lt.mpr c49), nn_nI (show t < 2 ^ 31 by omega)]; rfl))
              have hlt0 := lt_n (b := 40) c87 rfl rfl (by omega) (by omega)
              refine a_aload_n B dX7_sheet_90 rfl ?_
              refine a_getR B fl_X7_35 (by decide) rfl rfl dX7_sheet_91 ?_
              refine a_bipush (v := 40) B dX7_sheet_94 (by decide) ?_
              refine a_iload_n B dX7_sheet_96 rfl ?_
              refine a_imul B dX7_sheet_97 ?_
              refine a_iload B dX7_sheet_98 rfl ?_
              refine a_iadd B dX7_sheet_100 ?_
              refine a_iconst (v := 0) B dX7_sheet_101 (by decide) ?_
              refine a_iast (40 * t + k) B twM (by decide) rfl (ix_num t k) (by omega) (by decide) dX7_sheet_102 ?_
              refine p_iinc4 1 B dX7_sheet_103 (by decide) (by decide) (k := ?_)
              refine a_goto 83 B dX7_sheet_106 (by decide) ?_
              rw [nI_1]
              refine a_mem ?_ (ih (k + 1) (by omega) (by omega))
              rw [upB_stB, Nat.zero_add (40 * t + k), shn_s]
          refine a_mem ?_ (loop 41 0 (by omega) (by omega))
          rw [upB_st (b := 7), upB_st (b := 6), hsz, shn_0, stB_ne (show (7 : Nat) ≠ 6 by decide), Nat.zero_add t]
          rw [show M 8 = (stB (stB M 6 (upd (M 6) t b)) 7 (upd (M 7) t n1)) 8 from by rw [stB_ne (by decide), stB_ne (by decide)], stB_id]
        refine a_iconst (v := 0) B dX7_sheet_74 (by decide) ?_
        refine a_goto 79 B dX7_sheet_75 (by decide) ?_
        refine a_iast t B twM (by decide) rfl rfl (by omega) (by decide) dX7_sheet_79 ?_
        refine a_iconst (v := 0) B dX7_sheet_80 (by decide) ?_
        refine p_istore4 B dX7_sheet_81 (by decide) (k := ?_)
        have hsz : (if b = 0 then 0 else n1) = 0 := if_pos c71
        have hbo : bitsOk b = true := bo_yes (by first | exact Or.inl c8 | exact Or.inr (Or.inl c14) | exact Or.inr (Or.inr (Or.inl c20)) | exact Or.inr (Or.inr (Or.inr c26)))
        have loop : ∀ n k, 41 ≤ k + n → k ≤ 40 → AW Pp l Ee (rmK 2 (34 * 2)) Ss Mm Aa Bb Me Cc D (wl A cy 11 TM X) A0 5 0 0 (MQ Bb (QG D (wl A cy 11 TM X) A0 (rR (sheR M (nI t) b n1).1 (sheR M (nI t) b n1).2 M)) Aa Ss 0 0 A0) 83 [some (.ref (A 0)), some (.int (nI t)), some (.int b), some (.int n1), some (.int (nI k))] [] (stB (stB (stB M 6 (upd (M 6) t b)) 7 (upd (M 7) t (if b = 0 then 0 else n1))) 8 (shnD (M 8) t k)) := by
          intro n
          induction n with
          | zero => intro k h1 h2; omega
          | succ n ih =>
            intro k h1 h2
            refine a_iload B dX7_sheet_83 rfl ?_
            refine a_bipush (v := 40) B dX7_sheet_85 (by decide) ?_
            refine a_icmp_ge 109 B dX7_sheet_87 (by decide) (fun c87 => ?_) (fun c87 => ?_)
            · have e1 : k = 40 := by have := ge_n (b := 40) c87 rfl rfl (by omega) (by omega); omega
              subst e1
              refine a_aload_n B dX7_sheet_109 rfl ?_
              refine a_getR B fl_X7_32 (by decide) rfl rfl dX7_sheet_110 ?_
              refine a_iload_n B dX7_sheet_113 rfl ?_
              refine a_iald t B (by decide) rfl rfl (by omega) (by decide) dX7_sheet_114 ?_
              exact a_iret B hr hlk dX7_sheet_115 (rR_l0 (by unfold sheR; rw [show wi (nI t) 3 = true from c4, hbo, if_pos (show (true && true) = true from rfl), if_neg (Int32.not_lt.mpr c36), if_neg (Int32.not_lt.mpr c49), nn_nI (show t < 2 ^ 31 by omega), stB_ne (show (7 : Nat) ≠ 8 by decide), stB_at, Nat.zero_add, pk_us]) (by unfold sheR; rw [show wi (nI t) 3 = true from c4, hbo, if_pos (show (true && true) = true from rfl), if_neg (Int32.not_lt.mpr c36), if_neg (Int32.not_lt.mpr c49), nn_nI (show t < 2 ^ 31 by omega)]; rfl))
            have hlt0 := lt_n (b := 40) c87 rfl rfl (by omega) (by omega)
            refine a_aload_n B dX7_sheet_90 rfl ?_
            refine a_getR B fl_X7_35 (by decide) rfl rfl dX7_sheet_91 ?_
            refine a_bipush (v := 40) B dX7_sheet_94 (by decide) ?_
            refine a_iload_n B dX7_sheet_96 rfl ?_
            refine a_imul B dX7_sheet_97 ?_
            refine a_iload B dX7_sheet_98 rfl ?_
            refine a_iadd B dX7_sheet_100 ?_
            refine a_iconst (v := 0) B dX7_sheet_101 (by decide) ?_
            refine a_iast (40 * t + k) B twM (by decide) rfl (ix_num t k) (by omega) (by decide) dX7_sheet_102 ?_
            refine p_iinc4 1 B dX7_sheet_103 (by decide) (by decide) (k := ?_)
            refine a_goto 83 B dX7_sheet_106 (by decide) ?_
            rw [nI_1]
            refine a_mem ?_ (ih (k + 1) (by omega) (by omega))
            rw [upB_stB, Nat.zero_add (40 * t + k), shn_s]
        refine a_mem ?_ (loop 41 0 (by omega) (by omega))
        rw [upB_st (b := 7), upB_st (b := 6), hsz, shn_0, stB_ne (show (7 : Nat) ≠ 6 by decide), Nat.zero_add t]
        rw [show M 8 = (stB (stB M 6 (upd (M 6) t b)) 7 (upd (M 7) t 0)) 8 from by rw [stB_ne (by decide), stB_ne (by decide)], stB_id]
      refine a_aload_n B dX7_sheet_52 rfl ?_
      refine a_iconst (v := 0) B dX7_sheet_53 (by decide) ?_
      refine a_callV1r B rfl cf_X7_finds lk_X7_109 in_X7_finds se_X7_finds (wl_rc (p0 := 0) (by decide) rfl rfl rfl) (m_finds 0 (by decide) _) dX7_sheet_54 (Nat.le_of_ble_eq_true rfl) ⟨Nat.le_of_ble_eq_true rfl, Nat.le_of_ble_eq_true rfl⟩ ⟨rfl, rfl⟩ ?_
      have hbo : bitsOk b = true := bo_yes (by first | exact Or.inl c8 | exact Or.inr (Or.inl c14) | exact Or.inr (Or.inr (Or.inl c20)) | exact Or.inr (Or.inr (Or.inr c26)))
      exact a_iret B hr hlk dX7_sheet_57 (rR_r0 (k := 0) (by unfold sheR; rw [show wi (nI t) 3 = true from c4, hbo, if_pos (show (true && true) = true from rfl), if_neg (Int32.not_lt.mpr c36), if_pos (Int32.not_le.mp c49)]) rfl rfl)
    refine a_aload_n B dX7_sheet_39 rfl ?_
    refine a_bipush (v := 6) B dX7_sheet_40 (by decide) ?_
    refine a_callV1r B rfl cf_X7_finds lk_X7_109 in_X7_finds se_X7_finds (wl_rc (p0 := 0) (by decide) rfl rfl rfl) (m_finds 6 (by decide) _) dX7_sheet_42 (Nat.le_of_ble_eq_true rfl) ⟨Nat.le_of_ble_eq_true rfl, Nat.le_of_ble_eq_true rfl⟩ ⟨rfl, rfl⟩ ?_
    have hbo : bitsOk b = true := bo_yes (by first | exact Or.inl c8 | exact Or.inr (Or.inl c14) | exact Or.inr (Or.inr (Or.inl c20)) | exact Or.inr (Or.inr (Or.inr c26)))
    exact a_iret B hr hlk dX7_sheet_45 (rR_r0 (k := 6) (by unfold sheR; rw [show wi (nI t) 3 = true from c4, hbo, if_pos (show (true && true) = true from rfl), if_pos (Int32.not_le.mp c36)]) rfl rfl)
  refine a_iload_n B dX7_sheet_11 rfl ?_
  refine a_bipush (v := 8) B dX7_sheet_12 (by decide) ?_
  refine a_icmp_eq 35 B dX7_sheet_14 (by decide) (fun c14 => ?_) (fun c14 => ?_)
  · refine a_iload_n B dX7_sheet_35 rfl ?_
    refine a_if_ge 46 B dX7_sheet_36 (by decide) (fun c36 => ?_) (fun c36 => ?_)
    · refine a_iload_n B dX7_sheet_46 rfl ?_
      refine a_bipush (v := 40) B dX7_sheet_47 (by decide) ?_
      refine a_icmp_le 58 B dX7_sheet_49 (by decide) (fun c49 => ?_) (fun c49 => ?_)
      · refine a_aload_n B dX7_sheet_58 rfl ?_
        refine a_getR B fl_X7_29 (by decide) rfl rfl dX7_sheet_59 ?_
        refine a_iload_n B dX7_sheet_62 rfl ?_
        refine a_iload_n B dX7_sheet_63 rfl ?_
        refine a_iast t B twM (by decide) rfl rfl (by omega) (by decide) dX7_sheet_64 ?_
        refine a_aload_n B dX7_sheet_65 rfl ?_
        refine a_getR B fl_X7_32 (by decide) rfl rfl dX7_sheet_66 ?_
        refine a_iload_n B dX7_sheet_69 rfl ?_
        refine a_iload_n B dX7_sheet_70 rfl ?_
        refine a_if_ne 78 B dX7_sheet_71 (by decide) (fun c71 => ?_) (fun c71 => ?_)
        · refine a_iload_n B dX7_sheet_78 rfl ?_
          refine a_iast t B twM (by decide) rfl rfl (by omega) (by decide) dX7_sheet_79 ?_
          refine a_iconst (v := 0) B dX7_sheet_80 (by decide) ?_
          refine p_istore4 B dX7_sheet_81 (by decide) (k := ?_)
          have hsz : (if b = 0 then 0 else n1) = n1 := if_neg c71
          have hbo : bitsOk b = true := bo_yes (by first | exact Or.inl c8 | exact Or.inr (Or.inl c14) | exact Or.inr (Or.inr (Or.inl c20)) | exact Or.inr (Or.inr (Or.inr c26)))
          have loop : ∀ n k, 41 ≤ k + n → k ≤ 40 → AW Pp l Ee (rmK 2 (34 * 2)) Ss Mm Aa Bb Me Cc D (wl A cy 11 TM X) A0 5 0 0 (MQ Bb (QG D (wl A cy 11 TM X) A0 (rR (sheR M (nI t) b n1).1 (sheR M (nI t) b n1).2 M)) Aa Ss 0 0 A0) 83 [some (.ref (A 0)), some (.int (nI t)), some (.int b), some (.int n1), some (.int (nI k))] [] (stB (stB (stB M 6 (upd (M 6) t b)) 7 (upd (M 7) t (if b = 0 then 0 else n1))) 8 (shnD (M 8) t k)) := by
            intro n
            induction n with
            | zero => intro k h1 h2; omega
            | succ n ih =>
              intro k h1 h2
              refine a_iload B dX7_sheet_83 rfl ?_
              refine a_bipush (v := 40) B dX7_sheet_85 (by decide) ?_
              refine a_icmp_ge 109 B dX7_sheet_87 (by decide) (fun c87 => ?_) (fun c87 => ?_)
              · have e1 : k = 40 := by have := ge_n (b := 40) c87 rfl rfl (by omega) (by omega); omega
                subst e1
                refine a_aload_n B dX7_sheet_109 rfl ?_
                refine a_getR B fl_X7_32 (by decide) rfl rfl dX7_sheet_110 ?_
                refine a_iload_n B dX7_sheet_113 rfl ?_
                refine a_iald t B (by decide) rfl rfl (by omega) (by decide) dX7_sheet_114 ?_
                exact a_iret B hr hlk dX7_sheet_115 (rR_l0 (by unfold sheR; rw [show wi (nI t) 3 = true from c4, hbo, if_pos (show (true && true) = true from rfl), if_neg (Int32.not_lt.mpr c36), if_neg (Int32.not_lt.mpr c49), nn_nI (show t < 2 ^ 31 by omega), stB_ne (show (7 : Nat) ≠ 8 by decide), stB_at, Nat.zero_add, pk_us]) (by unfold sheR; rw [show wi (nI t) 3 = true from c4, hbo, if_pos (show (true && true) = true from rfl), if_neg (Int32.not_lt.mpr c36), if_neg (Int32.not_lt.mpr c49), nn_nI (show t < 2 ^ 31 by omega)]; rfl))
              have hlt0 := lt_n (b := 40) c87 rfl rfl (by omega) (by omega)
              refine a_aload_n B dX7_sheet_90 rfl ?_
              refine a_getR B fl_X7_35 (by decide) rfl rfl dX7_sheet_91 ?_
              refine a_bipush (v := 40) B dX7_sheet_94 (by decide) ?_
              refine a_iload_n B dX7_sheet_96 rfl ?_
              refine a_imul B dX7_sheet_97 ?_
              refine a_iload B dX7_sheet_98 rfl ?_
              refine a_iadd B dX7_sheet_100 ?_
              refine a_iconst (v := 0) B dX7_sheet_101 (by decide) ?_
              refine a_iast (40 * t + k) B twM (by decide) rfl (ix_num t k) (by omega) (by decide) dX7_sheet_102 ?_
              refine p_iinc4 1 B dX7_sheet_103 (by decide) (by decide) (k := ?_)
              refine a_goto 83 B dX7_sheet_106 (by decide) ?_
              rw [nI_1]
              refine a_mem ?_ (ih (k + 1) (by omega) (by omega))
              rw [upB_stB, Nat.zero_add (40 * t + k), shn_s]
          refine a_mem ?_ (loop 41 0 (by omega) (by omega))
          rw [upB_st (b := 7), upB_st (b := 6), hsz, shn_0, stB_ne (show (7 : Nat) ≠ 6 by decide), Nat.zero_add t]
          rw [show M 8 = (stB (stB M 6 (upd (M 6) t b)) 7 (upd (M 7) t n1)) 8 from by rw [stB_ne (by decide), stB_ne (by decide)], stB_id]
        refine a_iconst (v := 0) B dX7_sheet_74 (by decide) ?_
        refine a_goto 79 B dX7_sheet_75 (by decide) ?_
        refine a_iast t B twM (by decide) rfl rfl (by omega) (by decide) dX7_sheet_79 ?_
        refine a_iconst (v := 0) B dX7_sheet_80 (by decide) ?_
        refine p_istore4 B dX7_sheet_81 (by decide) (k := ?_)
        have hsz : (if b = 0 then 0 else n1) = 0 := if_pos c71
        have hbo : bitsOk b = true := bo_yes (by first | exact Or.inl c8 | exact Or.inr (Or.inl c14) | exact Or.inr (Or.inr (Or.inl c20)) | exact Or.inr (Or.inr (Or.inr c26)))
        have loop : ∀ n k, 41 ≤ k + n → k ≤ 40 → AW Pp l Ee (rmK 2 (34 * 2)) Ss Mm Aa Bb Me Cc D (wl A cy 11 TM X) A0 5 0 0 (MQ Bb (QG D (wl A cy 11 TM X) A0 (rR (sheR M (nI t) b n1).1 (sheR M (nI t) b n1).2 M)) Aa Ss 0 0 A0) 83 [some (.ref (A 0)), some (.int (nI t)), some (.int b), some (.int n1), some (.int (nI k))] [] (stB (stB (stB M 6 (upd (M 6) t b)) 7 (upd (M 7) t (if b = 0 then 0 else n1))) 8 (shnD (M 8) t k)) := by
          intro n
          induction n with
          | zero => intro k h1 h2; omega
          | succ n ih =>
            intro k h1 h2
            refine a_iload B dX7_sheet_83 rfl ?_
            refine a_bipush (v := 40) B dX7_sheet_85 (by decide) ?_
            refine a_icmp_ge 109 B dX7_sheet_87 (by decide) (fun c87 => ?_) (fun c87 => ?_)
            · have e1 : k = 40 := by have := ge_n (b := 40) c87 rfl rfl (by omega) (by omega); omega
              subst e1
              refine a_aload_n B dX7_sheet_109 rfl ?_
              refine a_getR B fl_X7_32 (by decide) rfl rfl dX7_sheet_110 ?_
              refine a_iload_n B dX7_sheet_113 rfl ?_
              refine a_iald t B (by decide) rfl rfl (by omega) (by decide) dX7_sheet_114 ?_
              exact a_iret B hr hlk dX7_sheet_115 (rR_l0 (by unfold sheR; rw [show wi (nI t) 3 = true from c4, hbo, if_pos (show (true && true) = true from rfl), if_neg (Int32.not_lt.mpr c36), if_neg (Int32.not_lt.mpr c49), nn_nI (show t < 2 ^ 31 by omega), stB_ne (show (7 : Nat) ≠ 8 by decide), stB_at, Nat.zero_add, pk_us]) (by unfold sheR; rw [show wi (nI t) 3 = true from c4, hbo, if_pos (show (true && true) = true from rfl), if_neg (Int32.not_lt.mpr c36), if_neg (Int32.not_lt.mpr c49), nn_nI (show t < 2 ^ 31 by omega)]; rfl))
            have hlt0 := lt_n (b := 40) c87 rfl rfl (by omega) (by omega)
            refine a_aload_n B dX7_sheet_90 rfl ?_
            refine a_getR B fl_X7_35 (by decide) rfl rfl dX7_sheet_91 ?_
            refine a_bipush (v := 40) B dX7_sheet_94 (by decide) ?_
            refine a_iload_n B dX7_sheet_96 rfl ?_
            refine a_imul B dX7_sheet_97 ?_
            refine a_iload B dX7_sheet_98 rfl ?_
            refine a_iadd B dX7_sheet_100 ?_
            refine a_iconst (v := 0) B dX7_sheet_101 (by decide) ?_
            refine a_iast (40 * t + k) B twM (by decide) rfl (ix_num t k) (by omega) (by decide) dX7_sheet_102 ?_
            refine p_iinc4 1 B dX7_sheet_103 (by decide) (by decide) (k := ?_)
            refine a_goto 83 B dX7_sheet_106 (by decide) ?_
            rw [nI_1]
            refine a_mem ?_ (ih (k + 1) (by omega) (by omega))
            rw [upB_stB, Nat.zero_add (40 * t + k), shn_s]
        refine a_mem ?_ (loop 41 0 (by omega) (by omega))
        rw [upB_st (b := 7), upB_st (b := 6), hsz, shn_0, stB_ne (show (7 : Nat) ≠ 6 by decide), Nat.zero_add t]
        rw [show M 8 = (stB (stB M 6 (upd (M 6) t b)) 7 (upd (M 7) t 0)) 8 from by rw [stB_ne (by decide), stB_ne (by decide)], stB_id]
      refine a_aload_n B dX7_sheet_52 rfl ?_
      refine a_iconst (v := 0) B dX7_sheet_53 (by decide) ?_
      refine a_callV1r B rfl cf_X7_finds lk_X7_109 in_X7_finds se_X7_finds (wl_rc (p0 := 0) (by decide) rfl rfl rfl) (m_finds 0 (by decide) _) dX7_sheet_54 (Nat.le_of_ble_eq_true rfl) ⟨Nat.le_of_ble_eq_true rfl, Nat.le_of_ble_eq_true rfl⟩ ⟨rfl, rfl⟩ ?_
      have hbo : bitsOk b = true := bo_yes (by first | exact Or.inl c8 | exact Or.inr (Or.inl c14) | exact Or.inr (Or.inr (Or.inl c20)) | exact Or.inr (Or.inr (Or.inr c26)))
      exact a_iret B hr hlk dX7_sheet_57 (rR_r0 (k := 0) (by unfold sheR; rw [show wi (nI t) 3 = true from c4, hbo, if_pos (show (true && true) = true from rfl), if_neg (Int32.not_lt.mpr c36), if_pos (Int32.not_le.mp c49)]) rfl rfl)
    refine a_aload_n B dX7_sheet_39 rfl ?_
    refine a_bipush (v := 6) B dX7_sheet_40 (by decide) ?_
    refine a_callV1r B rfl cf_X7_finds lk_X7_109 in_X7_finds se_X7_finds (wl_rc (p0 := 0) (by decide) rfl rfl rfl) (m_finds 6 (by decide) _) dX7_sheet_42 (Nat.le_of_ble_eq_true rfl) ⟨Nat.le_of_ble_eq_true rfl, Nat.le_of_ble_eq_true rfl⟩ ⟨rfl, rfl⟩ ?_
    have hbo : bitsOk b = true := bo_yes (by first | exact Or.inl c8 | exact Or.inr (Or.inl c14) | exact Or.inr (Or.inr (Or.inl c20)) | exact Or.inr (Or.inr (Or.inr c26)))
    exact a_iret B hr hlk dX7_sheet_45 (rR_r0 (k := 6) (by unfold sheR; rw [show wi (nI t) 3 = true from c4, hbo, if_pos (show (true && true) = true from rfl), if_pos (Int32.not_le.mp c36)]) rfl rfl)
  refine a_iload_n B dX7_sheet_17 rfl ?_
  refine a_bipush (v := 16) B dX7_sheet_18 (by decide) ?_
  refine a_icmp_eq 35 B dX7_sheet_20 (by decide) (fun c20 => ?_) (fun c20 => ?_)
  · refine a_iload_n B dX7_sheet_35 rfl ?_
    refine a_if_ge 46 B dX7_sheet_36 (by decide) (fun c36 => ?_) (fun c36 => ?_)
    · refine a_iload_n B dX7_sheet_46 rfl ?_
      refine a_bipush (v := 40) B dX7_sheet_47 (by decide) ?_
      refine a_icmp_le 58 B dX7_sheet_49 (by decide) (fun c49 => ?_) (fun c49 => ?_)
      · refine a_aload_n B dX7_sheet_58 rfl ?_
        refine a_getR B fl_X7_29 (by decide) rfl rfl dX7_sheet_59 ?_
        refine a_iload_n B dX7_sheet_62 rfl ?_
        refine a_iload_n B dX7_sheet_63 rfl ?_
        refine a_iast t B twM (by decide) rfl rfl (by omega) (by decide) dX7_sheet_64 ?_
        refine a_aload_n B dX7_sheet_65 rfl ?_
        refine a_getR B fl_X7_32 (by decide) rfl rfl dX7_sheet_66 ?_
        refine a_iload_n B dX7_sheet_69 rfl ?_
        refine a_iload_n B dX7_sheet_70 rfl ?_
        refine a_if_ne 78 B dX7_sheet_71 (by decide) (fun c71 => ?_) (fun c71 => ?_)
        · refine a_iload_n B dX7_sheet_78 rfl ?_
          refine a_iast t B twM (by decide) rfl rfl (by omega) (by decide) dX7_sheet_79 ?_
          refine a_iconst (v := 0) B dX7_sheet_80 (by decide) ?_
          refine p_istore4 B dX7_sheet_81 (by decide) (k := ?_)
          have hsz : (if b = 0 then 0 else n1) = n1 := if_neg c71
          have hbo : bitsOk b = true := bo_yes (by first | exact Or.inl c8 | exact Or.inr (Or.inl c14) | exact Or.inr (Or.inr (Or.inl c20)) | exact Or.inr (Or.inr (Or.inr c26)))
          have loop : ∀ n k, 41 ≤ k + n → k ≤ 40 → AW Pp l Ee (rmK 2 (34 * 2)) Ss Mm Aa Bb Me Cc D (wl A cy 11 TM X) A0 5 0 0 (MQ Bb (QG D (wl A cy 11 TM X) A0 (rR (sheR M (nI t) b n1).1 (sheR M (nI t) b n1).2 M)) Aa Ss 0 0 A0) 83 [some (.ref (A 0)), some (.int (nI t)), some (.int b), some (.int n1), some (.int (nI k))] [] (stB (stB (stB M 6 (upd (M 6) t b)) 7 (upd (M 7) t (if b = 0 then 0 else n1))) 8 (shnD (M 8) t k)) := by
            intro n
            induction n with
            | zero => intro k h1 h2; omega
            | succ n ih =>
              intro k h1 h2
              refine a_iload B dX7_sheet_83 rfl ?_
              refine a_bipush (v := 40) B dX7_sheet_85 (by decide) ?_
              refine a_icmp_ge 109 B dX7_sheet_87 (by decide) (fun c87 => ?_) (fun c87 => ?_)
              · have e1 : k = 40 := by have := ge_n (b := 40) c87 rfl rfl (by omega) (by omega); omega
                subst e1
                refine a_aload_n B dX7_sheet_109 rfl ?_
                refine a_getR B fl_X7_32 (by decide) rfl rfl dX7_sheet_110 ?_
                refine a_iload_n B dX7_sheet_113 rfl ?_
                refine a_iald t B (by decide) rfl rfl (by omega) (by decide) dX7_sheet_114 ?_
                exact a_iret B hr hlk dX7_sheet_115 (rR_l0 (by unfold sheR; rw [show wi (nI t) 3 = true from c4, hbo, if_pos (show (true && true) = true from rfl), if_neg (Int32.not_lt.mpr c36), if_neg (Int32.not_lt.mpr c49), nn_nI (show t < 2 ^ 31 by omega), stB_ne (show (7 : Nat) ≠ 8 by decide), stB_at, Nat.zero_add, pk_us]) (by unfold sheR; rw [show wi (nI t) 3 = true from c4, hbo, if_pos (show (true && true) = true from rfl), if_neg (Int32.not_lt.mpr c36), if_neg (Int32.not_lt.mpr c49), nn_nI (show t < 2 ^ 31 by omega)]; rfl))
              have hlt0 := lt_n (b := 40) c87 rfl rfl (by omega) (by omega)
              refine a_aload_n B dX7_sheet_90 rfl ?_
              refine a_getR B fl_X7_35 (by decide) rfl rfl dX7_sheet_91 ?_
              refine a_bipush (v := 40) B dX7_sheet_94 (by decide) ?_
              refine a_iload_n B dX7_sheet_96 rfl ?_
              refine a_imul B dX7_sheet_97 ?_
              refine a_iload B dX7_sheet_98 rfl ?_
              refine a_iadd B dX7_sheet_100 ?_
              refine a_iconst (v := 0) B dX7_sheet_101 (by decide) ?_
              refine a_iast (40 * t + k) B twM (by decide) rfl (ix_num t k) (by omega) (by decide) dX7_sheet_102 ?_
              refine p_iinc4 1 B dX7_sheet_103 (by decide) (by decide) (k := ?_)
              refine a_goto 83 B dX7_sheet_106 (by decide) ?_
              rw [nI_1]
              refine a_mem ?_ (ih (k + 1) (by omega) (by omega))
              rw [upB_stB, Nat.zero_add (40 * t + k), shn_s]
          refine a_mem ?_ (loop 41 0 (by omega) (by omega))
          rw [upB_st (b := 7), upB_st (b := 6), hsz, shn_0, stB_ne (show (7 : Nat) ≠ 6 by decide), Nat.zero_add t]
          rw [show M 8 = (stB (stB M 6 (upd (M 6) t b)) 7 (upd (M 7) t n1)) 8 from by rw [stB_ne (by decide), stB_ne (by decide)], stB_id]
        refine a_iconst (v := 0) B dX7_sheet_74 (by decide) ?_
        refine a_goto 79 B dX7_sheet_75 (by decide) ?_
        refine a_iast t B twM (by decide) rfl rfl (by omega) (by decide) dX7_sheet_79 ?_
        refine a_iconst (v := 0) B dX7_sheet_80 (by decide) ?_
        refine p_istore4 B dX7_sheet_81 (by decide) (k := ?_)
        have hsz : (if b = 0 then 0 else n1) = 0 := if_pos c71
        have hbo : bitsOk b = true := bo_yes (by first | exact Or.inl c8 | exact Or.inr (Or.inl c14) | exact Or.inr (Or.inr (Or.inl c20)) | exact Or.inr (Or.inr (Or.inr c26)))
        have loop : ∀ n k, 41 ≤ k + n → k ≤ 40 → AW Pp l Ee (rmK 2 (34 * 2)) Ss Mm Aa Bb Me Cc D (wl A cy 11 TM X) A0 5 0 0 (MQ Bb (QG D (wl A cy 11 TM X) A0 (rR (sheR M (nI t) b n1).1 (sheR M (nI t) b n1).2 M)) Aa Ss 0 0 A0) 83 [some (.ref (A 0)), some (.int (nI t)), some (.int b), some (.int n1), some (.int (nI k))] [] (stB (stB (stB M 6 (upd (M 6) t b)) 7 (upd (M 7) t (if b = 0 then 0 else n1))) 8 (shnD (M 8) t k)) := by
          intro n
          induction n with
          | zero => intro k h1 h2; omega
          | succ n ih =>
            intro k h1 h2
            refine a_iload B dX7_sheet_83 rfl ?_
            refine a_bipush (v := 40) B dX7_sheet_85 (by decide) ?_
            refine a_icmp_ge 109 B dX7_sheet_87 (by decide) (fun c87 => ?_) (fun c87 => ?_)
            · have e1 : k = 40 := by have := ge_n (b := 40) c87 rfl rfl (by omega) (by omega); omega
              subst e1
              refine a_aload_n B dX7_sheet_109 rfl ?_
              refine a_getR B fl_X7_32 (by decide) rfl rfl dX7_sheet_110 ?_
              refine a_iload_n B dX7_sheet_113 rfl ?_
              refine a_iald t B (by decide) rfl rfl (by omega) (by decide) dX7_sheet_114 ?_
              exact a_iret B hr hlk dX7_sheet_115 (rR_l0 (by unfold sheR; rw [show wi (nI t) 3 = true from c4, hbo, if_pos (show (true && true) = true from rfl), if_neg (Int32.not_lt.mpr c36), if_neg (Int32.not_lt.mpr c49), nn_nI (show t < 2 ^ 31 by omega), stB_ne (show (7 : Nat) ≠ 8 by decide), stB_at, Nat.zero_add, pk_us]) (by unfold sheR; rw [show wi (nI t) 3 = true from c4, hbo, if_pos (show (true && true) = true from rfl), if_neg (Int32.not_lt.mpr c36), if_neg (Int32.not_lt.mpr c49), nn_nI (show t < 2 ^ 31 by omega)]; rfl))
            have hlt0 := lt_n (b := 40) c87 rfl rfl (by omega) (by omega)
            refine a_aload_n B dX7_sheet_90 rfl ?_
            refine a_getR B fl_X7_35 (by decide) rfl rfl dX7_sheet_91 ?_
            refine a_bipush (v := 40) B dX7_sheet_94 (by decide) ?_
            refine a_iload_n B dX7_sheet_96 rfl ?_
            refine a_imul B dX7_sheet_97 ?_
            refine a_iload B dX7_sheet_98 rfl ?_
            refine a_iadd B dX7_sheet_100 ?_
            refine a_iconst (v := 0) B dX7_sheet_101 (by decide) ?_
            refine a_iast (40 * t + k) B twM (by decide) rfl (ix_num t k) (by omega) (by decide) dX7_sheet_102 ?_
            refine p_iinc4 1 B dX7_sheet_103 (by decide) (by decide) (k := ?_)
            refine a_goto 83 B dX7_sheet_106 (by decide) ?_
            rw [nI_1]
            refine a_mem ?_ (ih (k + 1) (by omega) (by omega))
            rw [upB_stB, Nat.zero_add (40 * t + k), shn_s]
        refine a_mem ?_ (loop 41 0 (by omega) (by omega))
        rw [upB_st (b := 7), upB_st (b := 6), hsz, shn_0, stB_ne (show (7 : Nat) ≠ 6 by decide), Nat.zero_add t]
        rw [show M 8 = (stB (stB M 6 (upd (M 6) t b)) 7 (upd (M 7) t 0)) 8 from by rw [stB_ne (by decide), stB_ne (by decide)], stB_id]
      refine a_aload_n B dX7_sheet_52 rfl ?_
      refine a_iconst (v := 0) B dX7_sheet_53 (by decide) ?_
      refine a_callV1r B rfl cf_X7_finds lk_X7_109 in_X7_finds se_X7_finds (wl_rc (p0 := 0) (by decide) rfl rfl rfl) (m_finds 0 (by decide) _) dX7_sheet_54 (Nat.le_of_ble_eq_true rfl) ⟨Nat.le_of_ble_eq_true rfl, Nat.le_of_ble_eq_true rfl⟩ ⟨rfl, rfl⟩ ?_
      have hbo : bitsOk b = true := bo_yes (by first | exact Or.inl c8 | exact Or.inr (Or.inl c14) | exact Or.inr (Or.inr (Or.inl c20)) | exact Or.inr (Or.inr (Or.inr c26)))
      exact a_iret B hr hlk dX7_sheet_57 (rR_r0 (k := 0) (by unfold sheR; rw [show wi (nI t) 3 = true from c4, hbo, if_pos (show (true && true) = true from rfl), if_neg (Int32.not_lt.mpr c36), if_pos (Int32.not_le.mp c49)]) rfl rfl)
    refine a_aload_n B dX7_sheet_39 rfl ?_
    refine a_bipush (v := 6) B dX7_sheet_40 (by decide) ?_
    refine a_callV1r B rfl cf_X7_finds lk_X7_109 in_X7_finds se_X7_finds (wl_rc (p0 := 0) (by decide) rfl rfl rfl) (m_finds 6 (by decide) _) dX7_sheet_42 (Nat.le_of_ble_eq_true rfl) ⟨Nat.le_of_ble_eq_true rfl, Nat.le_of_ble_eq_true rfl⟩ ⟨rfl, rfl⟩ ?_
    have hbo : bitsOk b = true := bo_yes (by first | exact Or.inl c8 | exact Or.inr (Or.inl c14) | exact Or.inr (Or.inr (Or.inl c20)) | exact Or.inr (Or.inr (Or.inr c26)))
    exact a_iret B hr hlk dX7_sheet_45 (rR_r0 (k := 6) (by unfold sheR; rw [show wi (nI t) 3 = true from c4, hbo, if_pos (show (true && true) = true from rfl), if_pos (Int32.not_le.mp c36)]) rfl rfl)
  refine a_iload_n B dX7_sheet_23 rfl ?_
  refine a_bipush (v := 32) B dX7_sheet_24 (by decide) ?_
  refine a_icmp_eq 35 B dX7_sheet_26 (by decide) (fun c26 => ?_) (fun c26 => ?_)
  · refine a_iload_n B dX7_sheet_35 rfl ?_
    refine a_if_ge 46 B dX7_sheet_36 (by decide) (fun c36 => ?_) (fun c36 => ?_)
    · refine a_iload_n B dX7_sheet_46 rfl ?_
      refine a_bipush (v := 40) B dX7_sheet_47 (by decide) ?_
      refine a_icmp_le 58 B dX7_sheet_49 (by decide) (fun c49 => ?_) (fun c49 => ?_)
      · refine a_aload_n B dX7_sheet_58 rfl ?_
        refine a_getR B fl_X7_29 (by decide) rfl rfl dX7_sheet_59 ?_
        refine a_iload_n B dX7_sheet_62 rfl ?_
        refine a_iload_n B dX7_sheet_63 rfl ?_
        refine a_iast t B twM (by decide) rfl rfl (by omega) (by decide) dX7_sheet_64 ?_
        refine a_aload_n B dX7_sheet_65 rfl ?_
        refine a_getR B fl_X7_32 (by decide) rfl rfl dX7_sheet_66 ?_
        refine a_iload_n B dX7_sheet_69 rfl ?_
        refine a_iload_n B dX7_sheet_70 rfl ?_
        refine a_if_ne 78 B dX7_sheet_71 (by decide) (fun c71 => ?_) (fun c71 => ?_)
        · refine a_iload_n B dX7_sheet_78 rfl ?_
          refine a_iast t B twM (by decide) rfl rfl (by omega) (by decide) dX7_sheet_79 ?_
          refine a_iconst (v := 0) B dX7_sheet_80 (by decide) ?_
          refine p_istore4 B dX7_sheet_81 (by decide) (k := ?_)
          have hsz : (if b = 0 then 0 else n1) = n1 := if_neg c71
          have hbo : bitsOk b = true := bo_yes (by first | exact Or.inl c8 | exact Or.inr (Or.inl c14) | exact Or.inr (Or.inr (Or.inl c20)) | exact Or.inr (Or.inr (Or.inr c26)))
          have loop : ∀ n k, 41 ≤ k + n → k ≤ 40 → AW Pp l Ee (rmK 2 (34 * 2)) Ss Mm Aa Bb Me Cc D (wl A cy 11 TM X) A0 5 0 0 (MQ Bb (QG D (wl A cy 11 TM X) A0 (rR (sheR M (nI t) b n1).1 (sheR M (nI t) b n1).2 M)) Aa Ss 0 0 A0) 83 [some (.ref (A 0)), some (.int (nI t)), some (.int b), some (.int n1), some (.int (nI k))] [] (stB (stB (stB M 6 (upd (M 6) t b)) 7 (upd (M 7) t (if b = 0 then 0 else n1))) 8 (shnD (M 8) t k)) := by
            intro n
            induction n with
            | zero => intro k h1 h2; omega
            | succ n ih =>
              intro k h1 h2
              refine a_iload B dX7_sheet_83 rfl ?_
              refine a_bipush (v := 40) B dX7_sheet_85 (by decide) ?_
              refine a_icmp_ge 109 B dX7_sheet_87 (by decide) (fun c87 => ?_) (fun c87 => ?_)
              · have e1 : k = 40 := by have := ge_n (b := 40) c87 rfl rfl (by omega) (by omega); omega
                subst e1
                refine a_aload_n B dX7_sheet_109 rfl ?_
                refine a_getR B fl_X7_32 (by decide) rfl rfl dX7_sheet_110 ?_
                refine a_iload_n B dX7_sheet_113 rfl ?_
                refine a_iald t B (by decide) rfl rfl (by omega) (by decide) dX7_sheet_114 ?_
                exact a_iret B hr hlk dX7_sheet_115 (rR_l0 (by unfold sheR; rw [show wi (nI t) 3 = true from c4, hbo, if_pos (show (true && true) = true from rfl), if_neg (Int32.not_lt.mpr c36), if_neg (Int32.not_lt.mpr c49), nn_nI (show t < 2 ^ 31 by omega), stB_ne (show (7 : Nat) ≠ 8 by decide), stB_at, Nat.zero_add, pk_us]) (by unfold sheR; rw [show wi (nI t) 3 = true from c4, hbo, if_pos (show (true && true) = true from rfl), if_neg (Int32.not_lt.mpr c36), if_neg (Int32.not_lt.mpr c49), nn_nI (show t < 2 ^ 31 by omega)]; rfl))
              have hlt0 := lt_n (b := 40) c87 rfl rfl (by omega) (by omega)
              refine a_aload_n B dX7_sheet_90 rfl ?_
              refine a_getR B fl_X7_35 (by decide) rfl rfl dX7_sheet_91 ?_
              refine a_bipush (v := 40) B dX7_sheet_94 (by decide) ?_
              refine a_iload_n B dX7_sheet_96 rfl ?_
              refine a_imul B dX7_sheet_97 ?_
              refine a_iload B dX7_sheet_98 rfl ?_
              refine a_iadd B dX7_sheet_100 ?_
              refine a_iconst (v := 0) B dX7_sheet_101 (by decide) ?_
              refine a_iast (40 * t + k) B twM (by decide) rfl (ix_num t k) (by omega) (by decide) dX7_sheet_102 ?_
              refine p_iinc4 1 B dX7_sheet_103 (by decide) (by decide) (k := ?_)
              refine a_goto 83 B dX7_sheet_106 (by decide) ?_
              rw [nI_1]
              refine a_mem ?_ (ih (k + 1) (by omega) (by omega))
              rw [upB_stB, Nat.zero_add (40 * t + k), shn_s]
          refine a_mem ?_ (loop 41 0 (by omega) (by omega))
          rw [upB_st (b := 7), upB_st (b := 6), hsz, shn_0, stB_ne (show (7 : Nat) ≠ 6 by decide), Nat.zero_add t]
          rw [show M 8 = (stB (stB M 6 (upd (M 6) t b)) 7 (upd (M 7) t n1)) 8 from by rw [stB_ne (by decide), stB_ne (by decide)], stB_id]
        refine a_iconst (v := 0) B dX7_sheet_74 (by decide) ?_
        refine a_goto 79 B dX7_sheet_75 (by decide) ?_
        refine a_iast t B twM (by decide) rfl rfl (by omega) (by decide) dX7_sheet_79 ?_
        refine a_iconst (v := 0) B dX7_sheet_80 (by decide) ?_
        refine p_istore4 B dX7_sheet_81 (by decide) (k := ?_)
        have hsz : (if b = 0 then 0 else n1) = 0 := if_pos c71
        have hbo : bitsOk b = true := bo_yes (by first | exact Or.inl c8 | exact Or.inr (Or.inl c14) | exact Or.inr (Or.inr (Or.inl c20)) | exact Or.inr (Or.inr (Or.inr c26)))
        have loop : ∀ n k, 41 ≤ k + n → k ≤ 40 → AW Pp l Ee (rmK 2 (34 * 2)) Ss Mm Aa Bb Me Cc D (wl A cy 11 TM X) A0 5 0 0 (MQ Bb (QG D (wl A cy 11 TM X) A0 (rR (sheR M (nI t) b n1).1 (sheR M (nI t) b n1).2 M)) Aa Ss 0 0 A0) 83 [some (.ref (A 0)), some (.int (nI t)), some (.int b), some (.int n1), some (.int (nI k))] [] (stB (stB (stB M 6 (upd (M 6) t b)) 7 (upd (M 7) t (if b = 0 then 0 else n1))) 8 (shnD (M 8) t k)) := by
          intro n
          induction n with
          | zero => intro k h1 h2; omega
          | succ n ih =>
            intro k h1 h2
            refine a_iload B dX7_sheet_83 rfl ?_
            refine a_bipush (v := 40) B dX7_sheet_85 (by decide) ?_
            refine a_icmp_ge 109 B dX7_sheet_87 (by decide) (fun c87 => ?_) (fun c87 => ?_)
            · have e1 : k = 40 := by have := ge_n (b := 40) c87 rfl rfl (by omega) (by omega); omega
              subst e1
              refine a_aload_n B dX7_sheet_109 rfl ?_
              refine a_getR B fl_X7_32 (by decide) rfl rfl dX7_sheet_110 ?_
              refine a_iload_n B dX7_sheet_113 rfl ?_
              refine a_iald t B (by decide) rfl rfl (by omega) (by decide) dX7_sheet_114 ?_
              exact a_iret B hr hlk dX7_sheet_115 (rR_l0 (by unfold sheR; rw [show wi (nI t) 3 = true from c4, hbo, if_pos (show (true && true) = true from rfl), if_neg (Int32.not_lt.mpr c36), if_neg (Int32.not_lt.mpr c49), nn_nI (show t < 2 ^ 31 by omega), stB_ne (show (7 : Nat) ≠ 8 by decide), stB_at, Nat.zero_add, pk_us]) (by unfold sheR; rw [show wi (nI t) 3 = true from c4, hbo, if_pos (show (true && true) = true from rfl), if_neg (Int32.not_lt.mpr c36), if_neg (Int32.not_lt.mpr c49), nn_nI (show t < 2 ^ 31 by omega)]; rfl))
            have hlt0 := lt_n (b := 40) c87 rfl rfl (by omega) (by omega)
            refine a_aload_n B dX7_sheet_90 rfl ?_
            refine a_getR B fl_X7_35 (by decide) rfl rfl dX7_sheet_91 ?_
            refine a_bipush (v := 40) B dX7_sheet_94 (by decide) ?_
            refine a_iload_n B dX7_sheet_96 rfl ?_
            refine a_imul B dX7_sheet_97 ?_
            refine a_iload B dX7_sheet_98 rfl ?_
            refine a_iadd B dX7_sheet_100 ?_
            refine a_iconst (v := 0) B dX7_sheet_101 (by decide) ?_
            refine a_iast (40 * t + k) B twM (by decide) rfl (ix_num t k) (by omega) (by decide) dX7_sheet_102 ?_
            refine p_iinc4 1 B dX7_sheet_103 (by decide) (by decide) (k := ?_)
            refine a_goto 83 B dX7_sheet_106 (by decide) ?_
            rw [nI_1]
            refine a_mem ?_ (ih (k + 1) (by omega) (by omega))
            rw [upB_stB, Nat.zero_add (40 * t + k), shn_s]
        refine a_mem ?_ (loop 41 0 (by omega) (by omega))
        rw [upB_st (b := 7), upB_st (b := 6), hsz, shn_0, stB_ne (show (7 : Nat) ≠ 6 by decide), Nat.zero_add t]
        rw [show M 8 = (stB (stB M 6 (upd (M 6) t b)) 7 (upd (M 7) t 0)) 8 from by rw [stB_ne (by decide), stB_ne (by decide)], stB_id]
      refine a_aload_n B dX7_sheet_52 rfl ?_
      refine a_iconst (v := 0) B dX7_sheet_53 (by decide) ?_
      refine a_callV1r B rfl cf_X7_finds lk_X7_109 in_X7_finds se_X7_finds (wl_rc (p0 := 0) (by decide) rfl rfl rfl) (m_finds 0 (by decide) _) dX7_sheet_54 (Nat.le_of_ble_eq_true rfl) ⟨Nat.le_of_ble_eq_true rfl, Nat.le_of_ble_eq_true rfl⟩ ⟨rfl, rfl⟩ ?_
      have hbo : bitsOk b = true := bo_yes (by first | exact Or.inl c8 | exact Or.inr (Or.inl c14) | exact Or.inr (Or.inr (Or.inl c20)) | exact Or.inr (Or.inr (Or.inr c26)))
      exact a_iret B hr hlk dX7_sheet_57 (rR_r0 (k := 0) (by unfold sheR; rw [show wi (nI t) 3 = true from c4, hbo, if_pos (show (true && true) = true from rfl), if_neg (Int32.not_lt.mpr c36), if_pos (Int32.not_le.mp c49)]) rfl rfl)
    refine a_aload_n B dX7_sheet_39 rfl ?_
    refine a_bipush (v := 6) B dX7_sheet_40 (by decide) ?_
    refine a_callV1r B rfl cf_X7_finds lk_X7_109 in_X7_finds se_X7_finds (wl_rc (p0 := 0) (by decide) rfl rfl rfl) (m_finds 6 (by decide) _) dX7_sheet_42 (Nat.le_of_ble_eq_true rfl) ⟨Nat.le_of_ble_eq_true rfl, Nat.le_of_ble_eq_true rfl⟩ ⟨rfl, rfl⟩ ?_
    have hbo : bitsOk b = true := bo_yes (by first | exact Or.inl c8 | exact Or.inr (Or.inl c14) | exact Or.inr (Or.inr (Or.inl c20)) | exact Or.inr (Or.inr (Or.inr c26)))
    exact a_iret B hr hlk dX7_sheet_45 (rR_r0 (k := 6) (by unfold sheR; rw [show wi (nI t) 3 = true from c4, hbo, if_pos (show (true && true) = true from rfl), if_pos (Int32.not_le.mp c36)]) rfl rfl)
  refine a_aload_n B dX7_sheet_29 rfl ?_
  refine a_iconst (v := 0) B dX7_sheet_30 (by decide) ?_
  refine a_callV1r B rfl cf_X7_finds lk_X7_109 in_X7_finds se_X7_finds (wl_rc (p0 := 0) (by decide) rfl rfl rfl) (m_finds 0 (by decide) _) dX7_sheet_31 (Nat.le_of_ble_eq_true rfl) ⟨Nat.le_of_ble_eq_true rfl, Nat.le_of_ble_eq_true rfl⟩ ⟨rfl, rfl⟩ ?_
  exact a_iret B hr hlk dX7_sheet_34 (rR_r0 (k := 0) (by unfold sheR; rw [bo_no c8 c14 c20 c26, Bool.and_false]; rfl) rfl rfl)
end R13
