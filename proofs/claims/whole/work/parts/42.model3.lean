section R3

theorem inv_0 {d : Dm} (h : Inv d) : d 0 = nI (nOf d) ∧ nOf d ≤ 8 := by
  obtain ⟨N, hN, eN, eNo⟩ := h.n
  exact ⟨by rw [eNo]; exact eN, by omega⟩
theorem dig_n {d : Dm} (h : Inv d) {n : Nat} (hn : n ≤ 8) : nOf (digA d n) = nOf d := by
  induction n with
  | zero => rfl
  | succ n ih =>
    rw [← ih (by omega)]
    show nOf (dig1 (digA d n) n) = _
    unfold nOf dig1
    rw [pk_un (by omega)]

variable {l : Launch} {sk : (Nat → Nat) × (Nat → Nat)} {D : va_G} {cy : Nat → ClassId} {A : Nat → Nat} {X : va_W}
set_option maxRecDepth 20000 in
set_option maxHeartbeats 4000000 in
theorem m_dayGoes (M : Mem) (hI : Inv (M 0)) : CR l sk D cy A X mX7_dayGoes 5 [.ref (A 0)] M (rV (stB M 0 (dayF (M 0)))) := by
  refine Con.of (lo := [some (.ref (A 0)), none]) cf_X7_dayGoes (fun _ _ => wl_fst) 1 rfl (Nat.le_of_ble_eq_true rfl) (fun Pp Ee Ss Mm Aa Bb Me Cc A0 B hr hlk => ?_)
  have B : BS sk D cy (wl A cy 11 TM X) A0 Pp Ss Mm Aa Cc RX7 cX7_dayGoes 2 := B
  obtain ⟨N, hN, eN, eNo⟩ := hI.n
  obtain ⟨h6, he6⟩ := hI.tod
  obtain ⟨lc, hl1, hl2, hl3⟩ := hI.li h6
  obtain ⟨d1, hd1⟩ : ∃ d1, d1 = confF (M 0) (M 0 (6 + todN (M 0))) := ⟨_, rfl⟩
  have hI1 : Inv d1 := by rw [hd1]; exact Inv.vConf hI ⟨lc, hl1, hl2, hl3⟩
  have hn1 : nOf d1 = N := by rw [hd1, conf_n (by omega)]; exact eNo
  obtain ⟨d2, hd2⟩ : ∃ d2, d2 = illF d1 N := ⟨_, rfl⟩
  have hI2 : Inv d2 := by rw [hd2]; exact Inv.vIllF hI1 N (by omega)
  have hn2 : nOf d2 = N := by rw [hd2, ill_n (by omega)]; exact hn1
  have hfin : stB M 0 (dayF (M 0)) = stB M 0 (upd (digA d2 N) 1 (hld (digA d2 N 1 + 1) 0 99999)) := by unfold dayF; rw [eNo, hd2, hd1]
  have loop2 : ∀ n k, N + 1 ≤ k + n → k ≤ N → AW Pp l Ee (rmK 5 (34 * 5)) Ss Mm Aa Bb Me Cc D (wl A cy 11 TM X) A0 2 0 0 (MQ Bb (QG D (wl A cy 11 TM X) A0 (rV (stB M 0 (dayF (M 0))))) Aa Ss 0 0 A0) 103 [some (.ref (A 0)), some (.int (nI k))] [] (stB M 0 (digA d2 k)) := by
    intro n
    induction n with
    | zero => intro k h1 h2; omega
    | succ n ih =>
      intro k h1 h2
      refine a_iload_n B dX7_dayGoes_103 rfl ?_
      refine a_aload_n B dX7_dayGoes_104 rfl ?_
      refine a_getR B fl_X7_7 (by decide) rfl rfl dX7_dayGoes_105 ?_
      refine a_iconst (v := 0) B dX7_dayGoes_108 (by decide) ?_
      refine a_iald 0 B (by decide) rfl rfl (by omega) (by decide) dX7_dayGoes_109 ?_
      rw [stB_at, show digA d2 k (0 + 0) = nI N from by have h := inv_0 (Inv.vDigA hI2 k (by omega)); rw [dig_n hI2 (by omega), hn2] at h; exact h.1]
      refine a_icmp_ge 144 B dX7_dayGoes_110 (by decide) (fun c110 => ?_) (fun c110 => ?_)
      · have e1 : k = N := by have := ge_n (b := N) c110 rfl rfl (by omega) (by omega); omega
        subst e1
        refine a_aload_n B dX7_dayGoes_144 rfl ?_
        refine a_getR B fl_X7_7 (by decide) rfl rfl dX7_dayGoes_145 ?_
        refine a_iconst (v := 1) B dX7_dayGoes_148 (by decide) ?_
        refine a_aload_n B dX7_dayGoes_149 rfl ?_
        refine a_getR B fl_X7_7 (by decide) rfl rfl dX7_dayGoes_150 ?_
        refine a_iconst (v := 1) B dX7_dayGoes_153 (by decide) ?_
        refine a_iald 1 B (by decide) rfl rfl (by omega) (by decide) dX7_dayGoes_154 ?_
        refine a_iconst (v := 1) B dX7_dayGoes_155 (by decide) ?_
        refine a_iadd B dX7_dayGoes_156 ?_
        refine a_iconst (v := 0) B dX7_dayGoes_157 (by decide) ?_
        refine a_ldc B dX7_dayGoes_158 kc_X7_75 ?_
        refine a_callS3r B rfl cf_X7_held lk_X7_62 st_X7_held (m_held _ _ _ _) dX7_dayGoes_160 (Nat.le_of_ble_eq_true rfl) ⟨Nat.le_of_ble_eq_true rfl, Nat.le_of_ble_eq_true rfl⟩ ⟨rfl, rfl⟩ ?_
        refine a_iast 1 B twM (by decide) rfl rfl (by omega) (by decide) dX7_dayGoes_163 ?_
        exact a_vret B hr hlk dX7_dayGoes_164 ⟨rfl, by rw [Nat.zero_add, upB_st, stB_at, stB_st]; exact hfin.symm⟩
      have hlt0 := lt_n (b := N) c110 rfl rfl (by omega) (by omega)
      refine a_aload_n B dX7_dayGoes_113 rfl ?_
      refine a_iload_n B dX7_dayGoes_114 rfl ?_
      refine a_iconst (v := 1) B dX7_dayGoes_115 (by decide) ?_
      refine a_aload_n B dX7_dayGoes_116 rfl ?_
      refine a_iload_n B dX7_dayGoes_117 rfl ?_
      refine a_iconst (v := 1) B dX7_dayGoes_118 (by decide) ?_
      refine a_callV2r B rfl cf_X7_its lk_X7_54 in_X7_its se_X7_its (wl_rc (p0 := 0) (by decide) rfl rfl rfl) (m_its k 1 (20 + k) (by omega) (by decide) (by omega) _) dX7_dayGoes_119 (Nat.le_of_ble_eq_true rfl) ⟨Nat.le_of_ble_eq_true rfl, Nat.le_of_ble_eq_true rfl⟩ ⟨rfl, rfl⟩ ?_
      rw [stB_at]
      refine a_aload_n B dX7_dayGoes_122 rfl ?_
      refine a_iload_n B dX7_dayGoes_123 rfl ?_
      refine a_callV1r B rfl cf_X7_digests lk_X7_95 in_X7_digests se_X7_digests (wl_rc (p0 := 0) (by decide) rfl rfl rfl) (m_digests k (by omega) _) dX7_dayGoes_124 (Nat.le_of_ble_eq_true rfl) ⟨Nat.le_of_ble_eq_true rfl, Nat.le_of_ble_eq_true rfl⟩ ⟨rfl, rfl⟩ ?_
      rw [stB_at]
      refine a_isub B dX7_dayGoes_127 ?_
      refine a_iconst (v := 0) B dX7_dayGoes_128 (by decide) ?_
      refine a_sipush (v := 999) B dX7_dayGoes_129 (by decide) ?_
      refine a_callS3r B rfl cf_X7_held lk_X7_62 st_X7_held (m_held _ _ _ _) dX7_dayGoes_132 (Nat.le_of_ble_eq_true rfl) ⟨Nat.le_of_ble_eq_true rfl, Nat.le_of_ble_eq_true rfl⟩ ⟨rfl, rfl⟩ ?_
      refine a_callV3v B rfl cf_X7_sets lk_X7_79 in_X7_sets se_X7_sets (wl_rc (p0 := 0) (by decide) rfl rfl rfl) (m_sets k 1 (20 + k) (by omega) (by decide) (by omega) _ _) dX7_dayGoes_135 (Nat.le_of_ble_eq_true rfl) ⟨Nat.le_of_ble_eq_true rfl, Nat.le_of_ble_eq_true rfl⟩ ⟨rfl, rfl⟩ ?_
      simp only [stB_at, stB_st]
      refine p_iinc1 1 B dX7_dayGoes_138 (by decide) (by decide) (k := ?_)
      refine a_goto 103 B dX7_dayGoes_141 (by decide) ?_
      rw [nI_1]
      exact ih (k + 1) (by omega) (by omega)
  have loop2 : AW Pp l Ee (rmK 5 (34 * 5)) Ss Mm Aa Bb Me Cc D (wl A cy 11 TM X) A0 2 0 0 (MQ Bb (QG D (wl A cy 11 TM X) A0 (rV (stB M 0 (dayF (M 0))))) Aa Ss 0 0 A0) 103 [some (.ref (A 0)), some (.int 0)] [] (stB M 0 (illF d1 N)) := by
    have h := loop2 (N + 1) 0 (by omega) (by omega)
    rw [show digA d2 0 = illF d1 N from hd2] at h
    exact h
  have loop : ∀ n k, N + 1 ≤ k + n → k ≤ N → AW Pp l Ee (rmK 5 (34 * 5)) Ss Mm Aa Bb Me Cc D (wl A cy 11 TM X) A0 2 0 0 (MQ Bb (QG D (wl A cy 11 TM X) A0 (rV (stB M 0 (dayF (M 0))))) Aa Ss 0 0 A0) 15 [some (.ref (A 0)), some (.int (nI k))] [] (stB M 0 (illF d1 k)) := by
    intro n
    induction n with
    | zero => intro k h1 h2; omega
    | succ n ih =>
      intro k h1 h2
      refine a_iload_n B dX7_dayGoes_15 rfl ?_
      refine a_aload_n B dX7_dayGoes_16 rfl ?_
      refine a_getR B fl_X7_7 (by decide) rfl rfl dX7_dayGoes_17 ?_
      refine a_iconst (v := 0) B dX7_dayGoes_20 (by decide) ?_
      refine a_iald 0 B (by decide) rfl rfl (by omega) (by decide) dX7_dayGoes_21 ?_
      rw [stB_at, show illF d1 k (0 + 0) = nI N from by have h := inv_0 (Inv.vIllF hI1 k (by omega)); rw [ill_n (by omega), hn1] at h; exact h.1]
      refine a_icmp_ge 101 B dX7_dayGoes_22 (by decide) (fun c22 => ?_) (fun c22 => ?_)
      · have e1 : k = N := by have := ge_n (b := N) c22 rfl rfl (by omega) (by omega); omega
        subst e1
        refine a_iconst (v := 0) B dX7_dayGoes_101 (by decide) ?_
        refine p_istore1 B dX7_dayGoes_102 (by decide) (k := ?_)
        exact loop2
      have hlt0 := lt_n (b := N) c22 rfl rfl (by omega) (by omega)
      refine a_aload_n B dX7_dayGoes_25 rfl ?_
      refine a_iload_n B dX7_dayGoes_26 rfl ?_
      refine a_callV1r B rfl cf_X7_room lk_X7_69 in_X7_room se_X7_room (wl_rc (p0 := 0) (by decide) rfl rfl rfl) (m_room k (by omega) _) dX7_dayGoes_27 (Nat.le_of_ble_eq_true rfl) ⟨Nat.le_of_ble_eq_true rfl, Nat.le_of_ble_eq_true rfl⟩ ⟨rfl, rfl⟩ ?_
      rw [stB_at]
      refine a_if_ge 95 B dX7_dayGoes_30 (by decide) (fun c30 => ?_) (fun c30 => ?_)
      · refine p_iinc1 1 B dX7_dayGoes_95 (by decide) (by decide) (k := ?_)
        refine a_goto 15 B dX7_dayGoes_98 (by decide) ?_
        rw [nI_1]
        refine a_mem ?_ (ih (k + 1) (by omega) (by omega))
        show _ = stB M 0 (ill1 (illF d1 k) k)
        unfold ill1
        rw [if_neg (Int32.not_lt.mpr c30)]
      have hroom : roomF (illF d1 k) k < 0 := Int32.not_le.mp c30
      refine a_aload_n B dX7_dayGoes_33 rfl ?_
      refine a_getR B fl_X7_7 (by decide) rfl rfl dX7_dayGoes_34 ?_
      refine a_iconst (v := 4) B dX7_dayGoes_37 (by decide) ?_
      refine a_dup2 B dX7_dayGoes_38 rfl rfl ?_
      refine a_iald 4 B (by decide) rfl rfl (by omega) (by decide) dX7_dayGoes_39 ?_
      refine a_aload_n B dX7_dayGoes_40 rfl ?_
      refine a_iload_n B dX7_dayGoes_41 rfl ?_
      refine a_callV1r B rfl cf_X7_keeps lk_X7_91 in_X7_keeps se_X7_keeps (wl_rc (p0 := 0) (by decide) rfl rfl rfl) (m_keeps k (by omega) _) dX7_dayGoes_42 (Nat.le_of_ble_eq_true rfl) ⟨Nat.le_of_ble_eq_true rfl, Nat.le_of_ble_eq_true rfl⟩ ⟨rfl, rfl⟩ ?_
      rw [stB_at]
      refine a_if_eq 52 B dX7_dayGoes_45 (by decide) (fun c45 => ?_) (fun c45 => ?_)
      · have c45 := bI_eq0.mp c45
        refine a_aload_n B dX7_dayGoes_52 rfl ?_
        refine a_iload_n B dX7_dayGoes_53 rfl ?_
        refine a_iconst (v := 3) B dX7_dayGoes_54 (by decide) ?_
        refine a_callV2r B rfl cf_X7_its lk_X7_54 in_X7_its se_X7_its (wl_rc (p0 := 0) (by decide) rfl rfl rfl) (m_its k 3 (36 + k) (by omega) (by decide) (by omega) _) dX7_dayGoes_55 (Nat.le_of_ble_eq_true rfl) ⟨Nat.le_of_ble_eq_true rfl, Nat.le_of_ble_eq_true rfl⟩ ⟨rfl, rfl⟩ ?_
        rw [stB_at]
        refine a_ior B dX7_dayGoes_58 ?_
        refine a_iast 4 B twM (by decide) rfl rfl (by omega) (by decide) dX7_dayGoes_59 ?_
        refine a_aload_n B dX7_dayGoes_60 rfl ?_
        refine a_iload_n B dX7_dayGoes_61 rfl ?_
        refine a_iconst (v := 3) B dX7_dayGoes_62 (by decide) ?_
        refine a_iconst (v := 0) B dX7_dayGoes_63 (by decide) ?_
        refine a_callV3v B rfl cf_X7_sets lk_X7_79 in_X7_sets se_X7_sets (wl_rc (p0 := 0) (by decide) rfl rfl rfl) (m_sets k 3 (36 + k) (by omega) (by decide) (by omega) _ _) dX7_dayGoes_64 (Nat.le_of_ble_eq_true rfl) ⟨Nat.le_of_ble_eq_true rfl, Nat.le_of_ble_eq_true rfl⟩ ⟨rfl, rfl⟩ ?_
        refine a_aload_n B dX7_dayGoes_67 rfl ?_
        refine a_iload_n B dX7_dayGoes_68 rfl ?_
        refine a_iconst (v := 1) B dX7_dayGoes_69 (by decide) ?_
        refine a_iconst (v := 0) B dX7_dayGoes_70 (by decide) ?_
        refine a_callV3v B rfl cf_X7_sets lk_X7_79 in_X7_sets se_X7_sets (wl_rc (p0 := 0) (by decide) rfl rfl rfl) (m_sets k 1 (20 + k) (by omega) (by decide) (by omega) _ _) dX7_dayGoes_71 (Nat.le_of_ble_eq_true rfl) ⟨Nat.le_of_ble_eq_true rfl, Nat.le_of_ble_eq_true rfl⟩ ⟨rfl, rfl⟩ ?_
        refine a_aload_n B dX7_dayGoes_74 rfl ?_
        refine a_iload_n B dX7_dayGoes_75 rfl ?_
        refine a_iconst (v := 5) B dX7_dayGoes_76 (by decide) ?_
        refine a_aload_n B dX7_dayGoes_77 rfl ?_
        refine a_iload_n B dX7_dayGoes_78 rfl ?_
        refine a_iconst (v := 5) B dX7_dayGoes_79 (by decide) ?_
        refine a_callV2r B rfl cf_X7_its lk_X7_54 in_X7_its se_X7_its (wl_rc (p0 := 0) (by decide) rfl rfl rfl) (m_its k 5 (52 + k) (by omega) (by decide) (by omega) _) dX7_dayGoes_80 (Nat.le_of_ble_eq_true rfl) ⟨Nat.le_of_ble_eq_true rfl, Nat.le_of_ble_eq_true rfl⟩ ⟨rfl, rfl⟩ ?_
        refine a_iconst (v := 1) B dX7_dayGoes_83 (by decide) ?_
        refine a_iadd B dX7_dayGoes_84 ?_
        refine a_iconst (v := 0) B dX7_dayGoes_85 (by decide) ?_
        refine a_sipush (v := 9999) B dX7_dayGoes_86 (by decide) ?_
        refine a_callS3r B rfl cf_X7_held lk_X7_62 st_X7_held (m_held _ _ _ _) dX7_dayGoes_89 (Nat.le_of_ble_eq_true rfl) ⟨Nat.le_of_ble_eq_true rfl, Nat.le_of_ble_eq_true rfl⟩ ⟨rfl, rfl⟩ ?_
        refine a_callV3v B rfl cf_X7_sets lk_X7_79 in_X7_sets se_X7_sets (wl_rc (p0 := 0) (by decide) rfl rfl rfl) (m_sets k 5 (52 + k) (by omega) (by decide) (by omega) _ _) dX7_dayGoes_92 (Nat.le_of_ble_eq_true rfl) ⟨Nat.le_of_ble_eq_true rfl, Nat.le_of_ble_eq_true rfl⟩ ⟨rfl, rfl⟩ ?_
        refine p_iinc1 1 B dX7_dayGoes_95 (by decide) (by decide) (k := ?_)
        refine a_goto 15 B dX7_dayGoes_98 (by decide) ?_
        rw [nI_1]
        refine a_mem ?_ (ih (k + 1) (by omega) (by omega))
        show _ = stB M 0 (ill1 (illF d1 k) k)
        unfold ill1
        rw [if_pos hroom, if_neg (by rw [c45]; decide)]
        simp only [upB_st, stB_at, stB_st, Nat.zero_add]
        rfl
      have c45 := bI_ne0.mp c45
      refine a_iconst (v := 0) B dX7_dayGoes_48 (by decide) ?_
      refine a_goto 58 B dX7_dayGoes_49 (by decide) ?_
      refine a_ior B dX7_dayGoes_58 ?_
      refine a_iast 4 B twM (by decide) rfl rfl (by omega) (by decide) dX7_dayGoes_59 ?_
      refine a_aload_n B dX7_dayGoes_60 rfl ?_
      refine a_iload_n B dX7_dayGoes_61 rfl ?_
      refine a_iconst (v := 3) B dX7_dayGoes_62 (by decide) ?_
      refine a_iconst (v := 0) B dX7_dayGoes_63 (by decide) ?_
      refine a_callV3v B rfl cf_X7_sets lk_X7_79 in_X7_sets se_X7_sets (wl_rc (p0 := 0) (by decide) rfl rfl rfl) (m_sets k 3 (36 + k) (by omega) (by decide) (by omega) _ _) dX7_dayGoes_64 (Nat.le_of_ble_eq_true rfl) ⟨Nat.le_of_ble_eq_true rfl, Nat.le_of_ble_eq_true rfl⟩ ⟨rfl, rfl⟩ ?_
      refine a_aload_n B dX7_dayGoes_67 rfl ?_
      refine a_iload_n B dX7_dayGoes_68 rfl ?_
      refine a_iconst (v := 1) B dX7_dayGoes_69 (by decide) ?_
      refine a_iconst (v := 0) B dX7_dayGoes_70 (by decide) ?_
      refine a_callV3v B rfl cf_X7_sets lk_X7_79 in_X7_sets se_X7_sets (wl_rc (p0 := 0) (by decide) rfl rfl rfl) (m_sets k 1 (20 + k) (by omega) (by decide) (by omega) _ _) dX7_dayGoes_71 (Nat.le_of_ble_eq_true rfl) ⟨Nat.le_of_ble_eq_true rfl, Nat.le_of_ble_eq_true rfl⟩ ⟨rfl, rfl⟩ ?_
      refine a_aload_n B dX7_dayGoes_74 rfl ?_
      refine a_iload_n B dX7_dayGoes_75 rfl ?_
      refine a_iconst (v := 5) B dX7_dayGoes_76 (by decide) ?_
      refine a_aload_n B dX7_dayGoes_77 rfl ?_
      refine a_iload_n B dX7_dayGoes_78 rfl ?_
      refine a_iconst (v := 5) B dX7_dayGoes_79 (by decide) ?_
      refine a_callV2r B rfl cf_X7_its lk_X7_54 in_X7_its se_X7_its (wl_rc (p0 := 0) (by decide) rfl rfl rfl) (m_its k 5 (52 + k) (by omega) (by decide) (by omega) _) dX7_dayGoes_80 (Nat.le_of_ble_eq_true rfl) ⟨Nat.le_of_ble_eq_true rfl, Nat.le_of_ble_eq_true rfl⟩ ⟨rfl, rfl⟩ ?_
      refine a_iconst (v := 1) B dX7_dayGoes_83 (by decide) ?_
      refine a_iadd B dX7_dayGoes_84 ?_
      refine a_iconst (v := 0) B dX7_dayGoes_85 (by decide) ?_
      refine a_sipush (v := 9999) B dX7_dayGoes_86 (by decide) ?_
      refine a_callS3r B rfl cf_X7_held lk_X7_62 st_X7_held (m_held _ _ _ _) dX7_dayGoes_89 (Nat.le_of_ble_eq_true rfl) ⟨Nat.le_of_ble_eq_true rfl, Nat.le_of_ble_eq_true rfl⟩ ⟨rfl, rfl⟩ ?_
      refine a_callV3v B rfl cf_X7_sets lk_X7_79 in_X7_sets se_X7_sets (wl_rc (p0 := 0) (by decide) rfl rfl rfl) (m_sets k 5 (52 + k) (by omega) (by decide) (by omega) _ _) dX7_dayGoes_92 (Nat.le_of_ble_eq_true rfl) ⟨Nat.le_of_ble_eq_true rfl, Nat.le_of_ble_eq_true rfl⟩ ⟨rfl, rfl⟩ ?_
      refine p_iinc1 1 B dX7_dayGoes_95 (by decide) (by decide) (k := ?_)
      refine a_goto 15 B dX7_dayGoes_98 (by decide) ?_
      rw [nI_1]
      refine a_mem ?_ (ih (k + 1) (by omega) (by omega))
      show _ = stB M 0 (ill1 (illF d1 k) k)
      unfold ill1
      rw [if_pos hroom, if_pos c45]
      simp only [upB_st, stB_at, stB_st, Nat.zero_add]
      rfl
  refine a_aload_n B dX7_dayGoes_0 rfl ?_
  refine a_aload_n B dX7_dayGoes_1 rfl ?_
  refine a_getR B fl_X7_7 (by decide) rfl rfl dX7_dayGoes_2 ?_
  refine a_aload_n B dX7_dayGoes_5 rfl ?_
  refine a_callV0r B rfl cf_X7_todays lk_X7_83 in_X7_todays se_X7_todays (wl_rc (p0 := 0) (by decide) rfl rfl rfl) (m_todays _ hI) dX7_dayGoes_6 (Nat.le_of_ble_eq_true rfl) ⟨Nat.le_of_ble_eq_true rfl, Nat.le_of_ble_eq_true rfl⟩ ⟨rfl, rfl⟩ ?_
  refine a_iald (6 + todN (M 0)) B (by decide) rfl rfl (by omega) (by decide) dX7_dayGoes_9 ?_
  refine a_callV1v B rfl cf_X7_confesses lk_X7_87 in_X7_confesses se_X7_confesses (wl_rc (p0 := 0) (by decide) rfl rfl rfl) (m_confesses _ _ hI (by rw [Nat.zero_add, hl3, show nI lc / 100 = nI (lc / 100) from pk_div (d := 100) (by omega) (by omega) (by omega)]; exact nI_pos (by omega))) dX7_dayGoes_10 (Nat.le_of_ble_eq_true rfl) ⟨Nat.le_of_ble_eq_true rfl, Nat.le_of_ble_eq_true rfl⟩ ⟨rfl, rfl⟩ ?_
  rw [Nat.zero_add (6 + todN (M 0)), ← hd1]
  refine a_iconst (v := 0) B dX7_dayGoes_13 (by decide) ?_
  refine p_istore1 B dX7_dayGoes_14 (by decide) (k := ?_)
  exact loop (N + 1) 0 (by omega) (by omega)
set_option maxRecDepth 20000 in
set_option maxHeartbeats 4000000 in
theorem m_daysGo (t : Nat) (ht : t < 100000) (M : Mem) (hI : Inv (M 0)) : CR l sk D cy A X mX7_daysGo 6 [.ref (A 0), .int (nI t)] M (rV (stB M 0 (daysF (M 0) t))) := by
  refine Con.of (lo := [some (.ref (A 0)), some (.int (nI t)), none]) cf_X7_daysGo (fun _ _ => wl_fst) 1 rfl (Nat.le_of_ble_eq_true rfl) (fun Pp Ee Ss Mm Aa Bb Me Cc A0 B hr hlk => ?_)
  have B : BS sk D cy (wl A cy 11 TM X) A0 Pp Ss Mm Aa Cc RX7 cX7_daysGo 3 := B
  have loop : ∀ n k, t + 1 ≤ k + n → k ≤ t → AW Pp l Ee (rmK 6 (34 * 6)) Ss Mm Aa Bb Me Cc D (wl A cy 11 TM X) A0 3 0 0 (MQ Bb (QG D (wl A cy 11 TM X) A0 (rV (stB M 0 (daysF (M 0) t)))) Aa Ss 0 0 A0) 2 [some (.ref (A 0)), some (.int (nI t)), some (.int (nI k))] [] (stB M 0 (daysF (M 0) k)) := by
    intro n
    induction n with
    | zero => intro k h1 h2; omega
    | succ n ih =>
      intro k h1 h2
      refine a_iload_n B dX7_daysGo_2 rfl ?_
      refine a_iload_n B dX7_daysGo_3 rfl ?_
      refine a_icmp_ge 17 B dX7_daysGo_4 (by decide) (fun c4 => ?_) (fun c4 => ?_)
      · have e1 : k = t := by have := (nI_leI (a := t) (b := k) (by omega) (by omega)).mp c4; omega
        subst e1
        exact a_vret B hr hlk dX7_daysGo_17 ⟨rfl, rfl⟩
      have hlt0 : k < t := (nI_ltI (a := k) (b := t) (by omega) (by omega)).mp (Int32.not_le.mp c4)
      refine a_aload_n B dX7_daysGo_7 rfl ?_
      refine a_callV0v B rfl cf_X7_dayGoes lk_X7_98 in_X7_dayGoes se_X7_dayGoes (wl_rc (p0 := 0) (by decide) rfl rfl rfl) (m_dayGoes _ (by rw [stB_at]; exact Inv.vDays hI k)) dX7_daysGo_8 (Nat.le_of_ble_eq_true rfl) ⟨Nat.le_of_ble_eq_true rfl, Nat.le_of_ble_eq_true rfl⟩ ⟨rfl, rfl⟩ ?_
      rw [stB_at, stB_st]
      refine p_iinc2 1 B dX7_daysGo_11 (by decide) (by decide) (k := ?_)
      refine a_goto 2 B dX7_daysGo_14 (by decide) ?_
      rw [nI_1]
      exact ih (k + 1) (by omega) (by omega)
  refine a_iconst (v := 0) B dX7_daysGo_0 (by decide) ?_
  refine p_istore2 B dX7_daysGo_1 (by decide) (k := ?_)
  refine a_mem ?_ (loop (t + 1) 0 (by omega) (by omega))
  exact (stB_id (M := M) (b := 0)).symm
set_option maxRecDepth 20000 in
set_option maxHeartbeats 4000000 in
theorem m_sumOf (w : Nat) (hw : w < 6) (M : Mem) (hI : Inv (M 0)) : CR l sk D cy A X mX7_sumOf 1 [.ref (A 0), .int (nI w)] M (rI (sumF (M 0) w (nOf (M 0))) M) := by
  refine Con.of (lo := [some (.ref (A 0)), some (.int (nI w)), none, none]) cf_X7_sumOf (fun _ _ => wl_fst) 2 rfl (Nat.le_of_ble_eq_true rfl) (fun Pp Ee Ss Mm Aa Bb Me Cc A0 B hr hlk => ?_)
  have B : BS sk D cy (wl A cy 11 TM X) A0 Pp Ss Mm Aa Cc RX7 cX7_sumOf 4 := B
  obtain ⟨N, hN, eN, eNo⟩ := hI.n
  have loop : ∀ n k, N + 1 ≤ k + n → k ≤ N → AW Pp l Ee (rmK 1 (34 * 1)) Ss Mm Aa Bb Me Cc D (wl A cy 11 TM X) A0 4 0 0 (MQ Bb (QG D (wl A cy 11 TM X) A0 (rI (sumF (M 0) w (nOf (M 0))) M)) Aa Ss 0 0 A0) 4 [some (.ref (A 0)), some (.int (nI w)), some (.int (sumF (M 0) w k)), some (.int (nI k))] [] (M) := by
    intro n
    induction n with
    | zero => intro k h1 h2; omega
    | succ n ih =>
      intro k h1 h2
      refine a_iload_n B dX7_sumOf_4 rfl ?_
      refine a_aload_n B dX7_sumOf_5 rfl ?_
      refine a_getR B fl_X7_7 (by decide) rfl rfl dX7_sumOf_6 ?_
      refine a_iconst (v := 0) B dX7_sumOf_9 (by decide) ?_
      refine a_iald 0 B (by decide) rfl rfl (by omega) (by decide) dX7_sumOf_10 ?_
      rw [show M 0 (0 + 0) = nI N from eN]
      refine a_icmp_ge 29 B dX7_sumOf_11 (by decide) (fun c11 => ?_) (fun c11 => ?_)
      · have e1 : k = N := by have := ge_n (b := N) c11 rfl rfl (by omega) (by omega); omega
        subst e1
        refine a_iload_n B dX7_sumOf_29 rfl ?_
        exact a_iret B hr hlk dX7_sumOf_30 ⟨by rw [eNo], rfl⟩
      have hlt0 := lt_n (b := N) c11 rfl rfl (by omega) (by omega)
      refine a_iload_n B dX7_sumOf_14 rfl ?_
      refine a_aload_n B dX7_sumOf_15 rfl ?_
      refine a_iload_n B dX7_sumOf_16 rfl ?_
      refine a_iload_n B dX7_sumOf_17 rfl ?_
      refine a_callV2r B rfl cf_X7_its lk_X7_54 in_X7_its se_X7_its (wl_rc (p0 := 0) (by decide) rfl rfl rfl) (m_its k w (12 + 8 * w + k) (by omega) hw rfl _) dX7_sumOf_18 (Nat.le_of_ble_eq_true rfl) ⟨Nat.le_of_ble_eq_true rfl, Nat.le_of_ble_eq_true rfl⟩ ⟨rfl, rfl⟩ ?_
      refine a_iadd B dX7_sumOf_21 ?_
      refine p_istore2 B dX7_sumOf_22 (by decide) (k := ?_)
      refine p_iinc3 1 B dX7_sumOf_23 (by decide) (by decide) (k := ?_)
      refine a_goto 4 B dX7_sumOf_26 (by decide) ?_
      rw [nI_1]
      exact ih (k + 1) (by omega) (by omega)
  refine a_iconst (v := 0) B dX7_sumOf_0 (by decide) ?_
  refine p_istore2 B dX7_sumOf_1 (by decide) (k := ?_)
  refine a_iconst (v := 0) B dX7_sumOf_2 (by decide) ?_
  refine p_istore3 B dX7_sumOf_3 (by decide) (k := ?_)
  exact loop (N + 1) 0 (by omega) (by omega)
set_option maxRecDepth 20000 in
set_option maxHeartbeats 4000000 in
theorem m_together (w : Nat) (hw : w < 6) (M : Mem) (hI : Inv (M 0)) : CR l sk D cy A X mX7_together 1 [.ref (A 0), .int (nI w)] M (rI (togF (M 0) w (nOf (M 0))) M) := by
  refine Con.of (lo := [some (.ref (A 0)), some (.int (nI w)), none, none]) cf_X7_together (fun _ _ => wl_fst) 2 rfl (Nat.le_of_ble_eq_true rfl) (fun Pp Ee Ss Mm Aa Bb Me Cc A0 B hr hlk => ?_)
  have B : BS sk D cy (wl A cy 11 TM X) A0 Pp Ss Mm Aa Cc RX7 cX7_together 4 := B
  obtain ⟨N, hN, eN, eNo⟩ := hI.n
  have loop : ∀ n k, N + 1 ≤ k + n → k ≤ N → AW Pp l Ee (rmK 1 (34 * 1)) Ss Mm Aa Bb Me Cc D (wl A cy 11 TM X) A0 4 0 0 (MQ Bb (QG D (wl A cy 11 TM X) A0 (rI (togF (M 0) w (nOf (M 0))) M)) Aa Ss 0 0 A0) 4 [some (.ref (A 0)), some (.int (nI w)), some (.int (togF (M 0) w k)), some (.int (nI k))] [] (M) := by
    intro n
    induction n with
    | zero => intro k h1 h2; omega
    | succ n ih =>
      intro k h1 h2
      refine a_iload_n B dX7_together_4 rfl ?_
      refine a_aload_n B dX7_together_5 rfl ?_
      refine a_getR B fl_X7_7 (by decide) rfl rfl dX7_together_6 ?_
      refine a_iconst (v := 0) B dX7_together_9 (by decide) ?_
      refine a_iald 0 B (by decide) rfl rfl (by omega) (by decide) dX7_together_10 ?_
      rw [show M 0 (0 + 0) = nI N from eN]
      refine a_icmp_ge 29 B dX7_together_11 (by decide) (fun c11 => ?_) (fun c11 => ?_)
      · have e1 : k = N := by have := ge_n (b := N) c11 rfl rfl (by omega) (by omega); omega
        subst e1
        refine a_iload_n B dX7_together_29 rfl ?_
        exact a_iret B hr hlk dX7_together_30 ⟨by rw [eNo], rfl⟩
      have hlt0 := lt_n (b := N) c11 rfl rfl (by omega) (by omega)
      refine a_iload_n B dX7_together_14 rfl ?_
      refine a_aload_n B dX7_together_15 rfl ?_
      refine a_iload_n B dX7_together_16 rfl ?_
      refine a_iload_n B dX7_together_17 rfl ?_
      refine a_callV2r B rfl cf_X7_its lk_X7_54 in_X7_its se_X7_its (wl_rc (p0 := 0) (by decide) rfl rfl rfl) (m_its k w (12 + 8 * w + k) (by omega) hw rfl _) dX7_together_18 (Nat.le_of_ble_eq_true rfl) ⟨Nat.le_of_ble_eq_true rfl, Nat.le_of_ble_eq_true rfl⟩ ⟨rfl, rfl⟩ ?_
      refine a_ior B dX7_together_21 ?_
      refine p_istore2 B dX7_together_22 (by decide) (k := ?_)
      refine p_iinc3 1 B dX7_together_23 (by decide) (by decide) (k := ?_)
      refine a_goto 4 B dX7_together_26 (by decide) ?_
      rw [nI_1]
      exact ih (k + 1) (by omega) (by omega)
  refine a_iconst (v := 0) B dX7_together_0 (by decide) ?_
  refine p_istore2 B dX7_together_1 (by decide) (k := ?_)
  refine a_iconst (v := 0) B dX7_together_2 (by decide) ?_
  refine p_istore3 B dX7_together_3 (by decide) (k := ?_)
  exact loop (N + 1) 0 (by omega) (by omega)
end R3
