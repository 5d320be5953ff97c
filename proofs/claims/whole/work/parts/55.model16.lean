section R16

theorem pw_half : ∀ j, j < 3 → nI (2 ^ (j + 1)) / 2 = nI (2 ^ j) := by decide
theorem pw_two : ∀ j, j < 3 → ¬ nI (2 ^ (j + 1)) ≤ 1 := by decide

variable {l : Launch} {sk : (Nat → Nat) × (Nat → Nat)} {D : va_G} {cy : Nat → ClassId} {A : Nat → Nat} {X : va_W}
set_option maxRecDepth 20000 in
theorem m_odds (p n1 what : Int32) (M : Mem) (hI : Inv (M 0)) : CR l sk D cy A X mX7_odds 2 [.ref (A 0), .int p, .int n1, .int what] M (rRL (oddR (M 0) p n1 what) M M) := by
  refine Con.of (lo := [some (.ref (A 0)), some (.int p), some (.int n1), some (.int what), none, none, none, none, none]) cf_X7_odds (fun _ _ => wl_fst) 5 rfl (Nat.le_of_ble_eq_true rfl) (fun Pp Ee Ss Mm Aa Bb Me Cc A0 B hr hlk => ?_)
  have B : BS sk D cy (wl A cy 11 TM X) A0 Pp Ss Mm Aa Cc RX7 cX7_odds 9 := B
  rcases at_cases hI p with ⟨q, hqn, hq8, hvq, hip, hlt⟩ | ⟨hn, hip⟩
  · subst hvq
    refine a_aload_n B dX7_odds_0 rfl ?_
    refine a_iload_n B dX7_odds_1 rfl ?_
    refine a_callV1r B rfl cf_X7_isPriest lk_X7_123 in_X7_isPriest se_X7_isPriest (wl_rc (p0 := 0) (by decide) rfl rfl rfl) (m_isPriest _ _ hI) dX7_odds_2 (Nat.le_of_ble_eq_true rfl) ⟨Nat.le_of_ble_eq_true rfl, Nat.le_of_ble_eq_true rfl⟩ ⟨rfl, rfl⟩ ?_
    refine a_if_eq 30 B dX7_odds_5 (by decide) (fun c5 => ?_) (fun c5 => ?_)
    · exact absurd (show isP (M 0) (nI q) = false from bI_eq0.mp c5) (by rw [hip]; decide)
    refine a_iload_n B dX7_odds_8 rfl ?_
    refine a_i2l B dX7_odds_9 ?_
    refine a_lconst (v := 0) B dX7_odds_10 (by decide) ?_
    refine a_ldc2 B dX7_odds_11 kl_X7_169 ?_
    refine a_callS3r B rfl cf_X7_in lk_X7_42 st_X7_in (m_in n1 0 20 _ _ (by first | rfl | decide) (by first | rfl | decide) _) dX7_odds_14 (Nat.le_of_ble_eq_true rfl) ⟨Nat.le_of_ble_eq_true rfl, Nat.le_of_ble_eq_true rfl⟩ ⟨rfl, rfl⟩ ?_
    refine a_if_eq 30 B dX7_odds_17 (by decide) (fun c17 => ?_) (fun c17 => ?_)
    · have c17 := bI_eq0.mp c17
      refine a_aload_n B dX7_odds_30 rfl ?_
      refine a_iconst (v := 0) B dX7_odds_31 (by decide) ?_
      refine a_callV1r B rfl cf_X7_finds lk_X7_109 in_X7_finds se_X7_finds (wl_rc (p0 := 0) (by decide) rfl rfl rfl) (m_finds 0 (by decide) _) dX7_odds_32 (Nat.le_of_ble_eq_true rfl) ⟨Nat.le_of_ble_eq_true rfl, Nat.le_of_ble_eq_true rfl⟩ ⟨rfl, rfl⟩ ?_
      refine a_i2l B dX7_odds_35 ?_
      exact a_lret B hr hlk dX7_odds_36 (rRL_r (k := 0) (by unfold oddR; rw [show wi n1 20 = false from c17, Bool.and_false]; rfl) rfl rfl)
    have c17 := bI_ne0.mp c17
    obtain ⟨t, htt, hte⟩ := wi_T (t := 20) c17 (by omega)
    subst hte
    refine a_iload_n B dX7_odds_20 rfl ?_
    refine a_i2l B dX7_odds_21 ?_
    refine a_lconst (v := 0) B dX7_odds_22 (by decide) ?_
    refine a_lconst (v := 1) B dX7_odds_23 (by decide) ?_
    refine a_callS3r B rfl cf_X7_in lk_X7_42 st_X7_in (m_in what 0 1 _ _ (by first | rfl | decide) (by first | rfl | decide) _) dX7_odds_24 (Nat.le_of_ble_eq_true rfl) ⟨Nat.le_of_ble_eq_true rfl, Nat.le_of_ble_eq_true rfl⟩ ⟨rfl, rfl⟩ ?_
    refine a_if_ne 37 B dX7_odds_27 (by decide) (fun c27 => ?_) (fun c27 => ?_)
    · have c27 := bI_ne0.mp c27
      refine a_aload_n B dX7_odds_37 rfl ?_
      refine a_iload_n B dX7_odds_38 rfl ?_
      refine a_iconst (v := 2) B dX7_odds_39 (by decide) ?_
      refine a_callV2r B rfl cf_X7_its lk_X7_54 in_X7_its se_X7_its (wl_rc (p0 := 0) (by decide) rfl rfl rfl) (m_its q 2 (28 + q) (by omega) (by decide) (by omega) _) dX7_odds_40 (Nat.le_of_ble_eq_true rfl) ⟨Nat.le_of_ble_eq_true rfl, Nat.le_of_ble_eq_true rfl⟩ ⟨rfl, rfl⟩ ?_
      refine a_callS1r B rfl cf_X7_ones lk_X7_58 st_X7_ones (m_ones _ _) dX7_odds_43 (Nat.le_of_ble_eq_true rfl) ⟨Nat.le_of_ble_eq_true rfl, Nat.le_of_ble_eq_true rfl⟩ ⟨rfl, rfl⟩ ?_
      refine p_istore4 B dX7_odds_46 (by decide) (k := ?_)
      refine a_bipush (v := 8) B dX7_odds_48 (by decide) ?_
      refine p_istore5 B dX7_odds_50 (by decide) (k := ?_)
      have ht : t ≤ 20 := by omega
      have rest : ∀ A1 B1, A1 = (halR 3 (onesF (M 0 (28 + q)))).1 → B1 = (halR 3 (onesF (M 0 (28 + q)))).2 → AW Pp l Ee (rmK 2 (34 * 2)) Ss Mm Aa Bb Me Cc D (wl A cy 11 TM X) A0 9 0 0 (MQ Bb (QG D (wl A cy 11 TM X) A0 (rRL (oddR (M 0) (nI q) (nI t) what) M M)) Aa Ss 0 0 A0) 80 [some (.ref (A 0)), some (.int (nI q)), some (.int (nI t)), some (.int what), some (.int A1), some (.int B1), none, none, none] [] (M) := by
        intro A1 B1 hA1 hB1
        have loop : ∀ n k, t + 1 ≤ k + n → k ≤ t → AW Pp l Ee (rmK 2 (34 * 2)) Ss Mm Aa Bb Me Cc D (wl A cy 11 TM X) A0 9 0 0 (MQ Bb (QG D (wl A cy 11 TM X) A0 (rRL (oddR (M 0) (nI q) (nI t) what) M M)) Aa Ss 0 0 A0) 86 [some (.ref (A 0)), some (.int (nI q)), some (.int (nI t)), some (.int what), some (.int A1), some (.int B1), some (.long (powL (if what = 0 then A1 else B1) k)), none, some (.int (nI k))] [] (M) := by
          intro n
          induction n with
          | zero => intro k h1 h2; omega
          | succ n ih =>
            intro k h1 h2
            refine a_iload B dX7_odds_86 rfl ?_
            refine a_iload_n B dX7_odds_88 rfl ?_
            refine a_icmp_ge 116 B dX7_odds_89 (by decide) (fun c89 => ?_) (fun c89 => ?_)
            · have e1 : k = t := by have := (nI_leI (a := t) (b := k) (by omega) (by omega)).mp c89; omega
              refine a_lload B dX7_odds_116 rfl ?_
              exact a_lret B hr hlk dX7_odds_118 (rRL_l (by unfold oddR; rw [hip, show wi (nI t) 20 = true from c17, show wi what 1 = true from c27, if_pos (show (true && true && true) = true from rfl), nn_nI (show q < 2 ^ 31 by omega), nn_nI (show t < 2 ^ 31 by omega)]; unfold odvR; rw [← hA1, ← hB1, e1]) rfl)
            have hlt0 : k < t := (nI_ltI (a := k) (b := t) (by omega) (by omega)).mp (Int32.not_le.mp c89)
            refine a_lload B dX7_odds_92 rfl ?_
            refine a_iload_n B dX7_odds_94 rfl ?_
            refine a_if_ne 104 B dX7_odds_95 (by decide) (fun c95 => ?_) (fun c95 => ?_)
            · refine a_iload B dX7_odds_104 rfl ?_
              refine a_i2l B dX7_odds_106 ?_
              refine a_lmul B dX7_odds_107 ?_
              refine p_lstore6 B dX7_odds_108 (by decide) (k := ?_)
              refine p_iinc8 1 B dX7_odds_110 (by decide) (by decide) (k := ?_)
              refine a_goto 86 B dX7_odds_113 (by decide) ?_
              rw [nI_1]
              have hb : (if what = 0 then A1 else B1) = B1 := if_neg c95
              have hp : powL (if what = 0 then A1 else B1) k * (B1).toInt64 = powL (if what = 0 then A1 else B1) (k + 1) := by rw [powL, hb]
              rw [hp]
              exact ih (k + 1) (by omega) (by omega)
            refine a_iload B dX7_odds_98 rfl ?_
            refine a_i2l B dX7_odds_100 ?_
            refine a_goto 107 B dX7_odds_101 (by decide) ?_
            refine a_lmul B dX7_odds_107 ?_
            refine p_lstore6 B dX7_odds_108 (by decide) (k := ?_)
            refine p_iinc8 1 B dX7_odds_110 (by decide) (by decide) (k := ?_)
            refine a_goto 86 B dX7_odds_113 (by decide) ?_
            rw [nI_1]
            have hb : (if what = 0 then A1 else B1) = A1 := if_pos c95
            have hp : powL (if what = 0 then A1 else B1) k * (A1).toInt64 = powL (if what = 0 then A1 else B1) (k + 1) := by rw [powL, hb]
            rw [hp]
            exact ih (k + 1) (by omega) (by omega)
        refine a_lconst (v := 1) B dX7_odds_80 (by decide) ?_
        refine p_lstore6 B dX7_odds_81 (by decide) (k := ?_)
        refine a_iconst (v := 0) B dX7_odds_83 (by decide) ?_
        refine p_istore8 B dX7_odds_84 (by decide) (k := ?_)
        exact loop (t + 1) 0 (by omega) (by omega)
      have hl : ∀ j a, j ≤ 3 → halR j a = halR 3 (onesF (M 0 (28 + q))) → AW Pp l Ee (rmK 2 (34 * 2)) Ss Mm Aa Bb Me Cc D (wl A cy 11 TM X) A0 9 0 0 (MQ Bb (QG D (wl A cy 11 TM X) A0 (rRL (oddR (M 0) (nI q) (nI t) what) M M)) Aa Ss 0 0 A0) 52 [some (.ref (A 0)), some (.int (nI q)), some (.int (nI t)), some (.int what), some (.int a), some (.int (nI (2 ^ j))), none, none, none] [] (M) := by
        intro j
        induction j with
        | zero =>
          intro a hj hh
          refine a_iload B dX7_odds_52 rfl ?_
          refine a_iconst (v := 2) B dX7_odds_54 (by decide) ?_
          refine a_irem B dX7_odds_55 (by decide) ?_
          refine a_if_ne 80 B dX7_odds_56 (by decide) (fun c56 => ?_) (fun c56 => ?_)
          · exact rest _ _ (by rw [← hh]; rfl) (by rw [← hh]; rfl)
          refine a_iload B dX7_odds_59 rfl ?_
          refine a_iconst (v := 1) B dX7_odds_61 (by decide) ?_
          refine a_icmp_le 80 B dX7_odds_62 (by decide) (fun c62 => ?_) (fun c62 => ?_)
          · exact rest _ _ (by rw [← hh]; rfl) (by rw [← hh]; rfl)
          exact absurd (show nI (2 ^ 0) ≤ 1 by decide) c62
        | succ j ih =>
          intro a hj hh
          refine a_iload B dX7_odds_52 rfl ?_
          refine a_iconst (v := 2) B dX7_odds_54 (by decide) ?_
          refine a_irem B dX7_odds_55 (by decide) ?_
          refine a_if_ne 80 B dX7_odds_56 (by decide) (fun c56 => ?_) (fun c56 => ?_)
          · have he : halR (j + 1) a = (a, nI (2 ^ (j + 1))) := by rw [halR, if_neg (show ¬ rmI a 2 = 0 from c56)]
            exact rest _ _ (by rw [← hh, he]) (by rw [← hh, he])
          refine a_iload B dX7_odds_59 rfl ?_
          refine a_iconst (v := 1) B dX7_odds_61 (by decide) ?_
          refine a_icmp_le 80 B dX7_odds_62 (by decide) (fun c62 => ?_) (fun c62 => ?_)
          · exact absurd c62 (pw_two j (by omega))
          refine a_iload B dX7_odds_65 rfl ?_
          refine a_iconst (v := 2) B dX7_odds_67 (by decide) ?_
          refine a_idiv B dX7_odds_68 (by decide) ?_
          refine p_istore4 B dX7_odds_69 (by decide) (k := ?_)
          refine a_iload B dX7_odds_71 rfl ?_
          refine a_iconst (v := 2) B dX7_odds_73 (by decide) ?_
          refine a_idiv B dX7_odds_74 (by decide) ?_
          refine p_istore5 B dX7_odds_75 (by decide) (k := ?_)
          refine a_goto 52 B dX7_odds_77 (by decide) ?_
          rw [pw_half j (by omega)]
          exact ih _ (by omega) (by rw [← hh, halR, if_pos (show rmI a 2 = 0 from c56)])
      exact hl 3 _ (by omega) rfl
    have c27 := bI_eq0.mp c27
    refine a_aload_n B dX7_odds_30 rfl ?_
    refine a_iconst (v := 0) B dX7_odds_31 (by decide) ?_
    refine a_callV1r B rfl cf_X7_finds lk_X7_109 in_X7_finds se_X7_finds (wl_rc (p0 := 0) (by decide) rfl rfl rfl) (m_finds 0 (by decide) _) dX7_odds_32 (Nat.le_of_ble_eq_true rfl) ⟨Nat.le_of_ble_eq_true rfl, Nat.le_of_ble_eq_true rfl⟩ ⟨rfl, rfl⟩ ?_
    refine a_i2l B dX7_odds_35 ?_
    exact a_lret B hr hlk dX7_odds_36 (rRL_r (k := 0) (by unfold oddR; rw [show wi what 1 = false from c27, Bool.and_false]; rfl) rfl rfl)
  · refine a_aload_n B dX7_odds_0 rfl ?_
    refine a_iload_n B dX7_odds_1 rfl ?_
    refine a_callV1r B rfl cf_X7_isPriest lk_X7_123 in_X7_isPriest se_X7_isPriest (wl_rc (p0 := 0) (by decide) rfl rfl rfl) (m_isPriest _ _ hI) dX7_odds_2 (Nat.le_of_ble_eq_true rfl) ⟨Nat.le_of_ble_eq_true rfl, Nat.le_of_ble_eq_true rfl⟩ ⟨rfl, rfl⟩ ?_
    refine a_if_eq 30 B dX7_odds_5 (by decide) (fun c5 => ?_) (fun c5 => ?_)
    · refine a_aload_n B dX7_odds_30 rfl ?_
      refine a_iconst (v := 0) B dX7_odds_31 (by decide) ?_
      refine a_callV1r B rfl cf_X7_finds lk_X7_109 in_X7_finds se_X7_finds (wl_rc (p0 := 0) (by decide) rfl rfl rfl) (m_finds 0 (by decide) _) dX7_odds_32 (Nat.le_of_ble_eq_true rfl) ⟨Nat.le_of_ble_eq_true rfl, Nat.le_of_ble_eq_true rfl⟩ ⟨rfl, rfl⟩ ?_
      refine a_i2l B dX7_odds_35 ?_
      exact a_lret B hr hlk dX7_odds_36 (rRL_r (k := 0) (by unfold oddR; rw [hip]; rfl) rfl rfl)
    exact absurd (show isP (M 0) p = true from bI_ne0.mp c5) (by rw [hip]; decide)
end R16
