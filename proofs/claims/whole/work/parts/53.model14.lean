section R14

def cutR (b v : Int32) : Int32 := if b = 8 then v.toInt8.toInt32 else if b = 16 then v.toInt16.toInt32 else v
def wriR (M : Mem) (s j v : Int32) : Oc × Mem := match whnR M s with
  | some k => (.inr k, M)
  | none => if bt j 0 (nI (szR M (nn s)) - 1) then (.inl 1, stB M 8 (upd (M 8) (40 * nn s + nn j) (cutR (M 6 (nn s)) v))) else (.inr 0, M)
theorem bt_sz {j : Int32} {n : Nat} (hn : n ≤ 40) (h : bt j 0 (nI n - 1) = true) : ∃ a, a < n ∧ j = nI a := by
  unfold bt at h
  simp only [Bool.and_eq_true, Bool.not_eq_true', decide_eq_false_iff_not] at h
  obtain ⟨a, ha, ea⟩ := nI_of h.1
  subst ea
  refine ⟨a, ?_, rfl⟩
  have h2 := h.2
  rcases Nat.eq_zero_or_pos n with hz | hz
  · subst hz; exact absurd (Int32.lt_of_lt_of_le (show nI 0 - 1 < 0 by decide) (nI_pos' ha)) h2
  · rw [show nI n - 1 = nI (n - 1) from pk_sub (a := n) (b := 1) hz] at h2
    have := Nat.le_of_not_lt (fun q => h2 (nI_lt q ha))
    omega

variable {l : Launch} {sk : (Nat → Nat) × (Nat → Nat)} {D : va_G} {cy : Nat → ClassId} {A : Nat → Nat} {X : va_W}
set_option maxRecDepth 20000 in
theorem m_load (s1 : Int32) (M : Mem) (hZ : ∀ t, t < 4 → szOkR M t) : CR l sk D cy A X mX7_load 3 [.ref (A 0), .int s1] M (rR (loaR M s1).1 (loaR M s1).2 M) := by
  refine Con.of (lo := [some (.ref (A 0)), some (.int s1), none, none]) cf_X7_load (fun _ _ => wl_fst) 2 rfl (Nat.le_of_ble_eq_true rfl) (fun Pp Ee Ss Mm Aa Bb Me Cc A0 B hr hlk => ?_)
  have B : BS sk D cy (wl A cy 11 TM X) A0 Pp Ss Mm Aa Cc RX7 cX7_load 4 := B
  refine a_aload_n B dX7_load_0 rfl ?_
  refine a_iload_n B dX7_load_1 rfl ?_
  refine a_callV1r B rfl cf_X7_whyNone lk_X7_171 in_X7_whyNone se_X7_whyNone (wl_rc (p0 := 0) (by decide) rfl rfl rfl) (m_whyNone _ _) dX7_load_2 (Nat.le_of_ble_eq_true rfl) ⟨Nat.le_of_ble_eq_true rfl, Nat.le_of_ble_eq_true rfl⟩ ⟨rfl, rfl⟩ ?_
  refine p_istore2 B dX7_load_5 (by decide) (k := ?_)
  rcases hw : whnR M s1 with _ | k9
  · obtain ⟨t, ht, hs1⟩ := whn_n hw
    subst hs1
    rw [oI_n]
    refine a_iload_n B dX7_load_6 rfl ?_
    refine a_if_lt 16 B dX7_load_7 (by decide) (fun c7 => ?_) (fun c7 => ?_)
    · refine a_iconst (v := 0) B dX7_load_16 (by decide) ?_
      refine p_istore3 B dX7_load_17 (by decide) (k := ?_)
      have hz := hZ t ht
      have et : nn (nI t) = t := nn_nI (by omega)
      obtain ⟨hz1, hz2⟩ := hz.e
      have loop : ∀ n k, 7 ≤ k + n → k ≤ 6 → fstN (loaQR M t) k = none → AW Pp l Ee (rmK 3 (34 * 3)) Ss Mm Aa Bb Me Cc D (wl A cy 11 TM X) A0 4 0 0 (MQ Bb (QG D (wl A cy 11 TM X) A0 (rR (loaR M (nI t)).1 (loaR M (nI t)).2 M)) Aa Ss 0 0 A0) 18 [some (.ref (A 0)), some (.int (nI t)), some (.int (-1)), some (.int (nI k))] [] (stB M 0 (loaD (M 0) (tlR M t) k)) := by
        intro n
        induction n with
        | zero => intro k h1 h2; omega
        | succ n ih =>
          intro k h1 h2 h3
          refine a_iload_n B dX7_load_18 rfl ?_
          refine a_aload_n B dX7_load_19 rfl ?_
          refine a_getR B fl_X7_32 (by decide) rfl rfl dX7_load_20 ?_
          refine a_iload_n B dX7_load_23 rfl ?_
          refine a_iald t B (by decide) rfl rfl (by omega) (by decide) dX7_load_24 ?_
          rw [show stB M 0 (loaD (M 0) (tlR M t) k) 7 (0 + t) = nI (szR M t) from by rw [stB_ne (by decide), Nat.zero_add]; exact hz2]
          refine a_icmp_ge 77 B dX7_load_25 (by decide) (fun c25 => ?_) (fun c25 => ?_)
          · have c25x : ¬ k < szR M t := fun h => absurd (nI_lt h (by omega)) (Int32.not_lt.mpr c25)
            refine a_iload_n B dX7_load_77 rfl ?_
            have e2 : loaNR M t = k := by
              unfold loaNR
              rcases Nat.lt_or_ge k 6 with hk6 | hk6
              · rw [fst_up (fst_yes h3 (show loaQR M t k = true by unfold loaQR; rw [decide_eq_false c25x]; rfl)) 6 (by omega)]
              · have e6 : k = 6 := by omega
                subst e6
                rw [h3]
            have hX : loaR M (nI t) = (.inl (nI k), stB M 0 (loaD (M 0) (tlR M t) k)) := by unfold loaR; rw [hw]; simp only [et, e2]
            exact a_iret B hr hlk dX7_load_78 (rR_l0 (by rw [hX]) (by rw [hX]))
          have hlt0 : k < szR M t := (nI_ltI (a := k) (b := szR M t) (by omega) (by omega)).mp (Int32.not_le.mp c25)
          refine a_iload_n B dX7_load_28 rfl ?_
          refine a_bipush (v := 6) B dX7_load_29 (by decide) ?_
          refine a_icmp_ge 77 B dX7_load_31 (by decide) (fun c31 => ?_) (fun c31 => ?_)
          · refine a_iload_n B dX7_load_77 rfl ?_
            have e1 : k = 6 := by have := ge_n (b := 6) c31 rfl rfl (by omega) (by omega); omega
            subst e1
            have e2 : loaNR M t = 6 := by unfold loaNR; rw [h3]
            have hX : loaR M (nI t) = (.inl (nI 6), stB M 0 (loaD (M 0) (tlR M t) 6)) := by unfold loaR; rw [hw]; simp only [et, e2]
            exact a_iret B hr hlk dX7_load_78 (rR_l0 (by rw [hX]) (by rw [hX]))
          have hlt6 := lt_n (b := 6) c31 rfl rfl (by omega) (by omega)
          refine a_aload_n B dX7_load_34 rfl ?_
          refine a_getR B fl_X7_35 (by decide) rfl rfl dX7_load_35 ?_
          refine a_bipush (v := 40) B dX7_load_38 (by decide) ?_
          refine a_iload_n B dX7_load_40 rfl ?_
          refine a_imul B dX7_load_41 ?_
          refine a_iload_n B dX7_load_42 rfl ?_
          refine a_iadd B dX7_load_43 ?_
          refine a_iald (40 * t + k) B (by decide) rfl (ix_num t k) (by omega) (by decide) dX7_load_44 ?_
          rw [show stB M 0 (loaD (M 0) (tlR M t) k) 8 (0 + (40 * t + k)) = tlR M t k from by rw [stB_ne (by decide), Nat.zero_add]; rfl]
          refine a_callS1r B rfl cf_X7_isConfession lk_X7_115 st_X7_isConfession (m_isConfession _ _) dX7_load_45 (Nat.le_of_ble_eq_true rfl) ⟨Nat.le_of_ble_eq_true rfl, Nat.le_of_ble_eq_true rfl⟩ ⟨rfl, rfl⟩ ?_
          refine a_if_eq 77 B dX7_load_48 (by decide) (fun c48 => ?_) (fun c48 => ?_)
          · have c48 := bI_eq0.mp c48
            refine a_iload_n B dX7_load_77 rfl ?_
            have e2 : loaNR M t = k := by unfold loaNR; rw [fst_up (fst_yes h3 (show loaQR M t k = true by unfold loaQR; rw [show icB (tlR M t k) = false from c48, Bool.and_false]; rfl)) 6 (by omega)]
            have hX : loaR M (nI t) = (.inl (nI k), stB M 0 (loaD (M 0) (tlR M t) k)) := by unfold loaR; rw [hw]; simp only [et, e2]
            exact a_iret B hr hlk dX7_load_78 (rR_l0 (by rw [hX]) (by rw [hX]))
          have c48 := bI_ne0.mp c48
          refine a_aload_n B dX7_load_51 rfl ?_
          refine a_getR B fl_X7_7 (by decide) rfl rfl dX7_load_52 ?_
          refine a_bipush (v := 6) B dX7_load_55 (by decide) ?_
          refine a_iload_n B dX7_load_57 rfl ?_
          refine a_iadd B dX7_load_58 ?_
          refine a_aload_n B dX7_load_59 rfl ?_
          refine a_getR B fl_X7_35 (by decide) rfl rfl dX7_load_60 ?_
          refine a_bipush (v := 40) B dX7_load_63 (by decide) ?_
          refine a_iload_n B dX7_load_65 rfl ?_
          refine a_imul B dX7_load_66 ?_
          refine a_iload_n B dX7_load_67 rfl ?_
          refine a_iadd B dX7_load_68 ?_
          refine a_iald (40 * t + k) B (by decide) rfl (ix_num t k) (by omega) (by decide) dX7_load_69 ?_
          rw [show stB M 0 (loaD (M 0) (tlR M t) k) 8 (0 + (40 * t + k)) = tlR M t k from by rw [stB_ne (by decide), Nat.zero_add]; rfl]
          refine a_iast (6 + k) B twM (by decide) rfl (nI_add 6 k) (by omega) (by decide) dX7_load_70 ?_
          refine p_iinc3 1 B dX7_load_71 (by decide) (by decide) (k := ?_)
          refine a_goto 18 B dX7_load_74 (by decide) ?_
          rw [nI_1]
          refine a_mem ?_ (ih (k + 1) (by omega) (by omega) (fst_no h3 (show loaQR M t k = false by unfold loaQR; rw [decide_eq_true hlt0, show icB (tlR M t k) = true from c48]; rfl)))
          rw [upB_stB, Nat.zero_add (6 + k)]
          rfl
      refine a_mem ?_ (loop 7 0 (by omega) (by omega) rfl)
      exact (stB_id (M := M) (b := 0)).symm
    exact absurd (show (-1 : Int32) < 0 by decide) c7
  · have hk9 := whn_lt hw
    rw [oI_s]
    refine a_iload_n B dX7_load_6 rfl ?_
    refine a_if_lt 16 B dX7_load_7 (by decide) (fun c7 => ?_) (fun c7 => ?_)
    · exact absurd c7 (nI_pos (by omega))
    refine a_aload_n B dX7_load_10 rfl ?_
    refine a_iload_n B dX7_load_11 rfl ?_
    refine a_callV1r B rfl cf_X7_finds lk_X7_109 in_X7_finds se_X7_finds (wl_rc (p0 := 0) (by decide) rfl rfl rfl) (m_finds k9 hk9 _) dX7_load_12 (Nat.le_of_ble_eq_true rfl) ⟨Nat.le_of_ble_eq_true rfl, Nat.le_of_ble_eq_true rfl⟩ ⟨rfl, rfl⟩ ?_
    exact a_iret B hr hlk dX7_load_15 (rR_r0 (k := k9) (by unfold loaR; rw [hw]) rfl rfl)
set_option maxRecDepth 20000 in
theorem m_write (s1 j v : Int32) (M : Mem) (hZ : ∀ t, t < 4 → szOkR M t) : CR l sk D cy A X mX7_write 3 [.ref (A 0), .int s1, .int j, .int v] M (rR (wriR M s1 j v).1 (wriR M s1 j v).2 M) := by
  refine Con.of (lo := [some (.ref (A 0)), some (.int s1), some (.int j), some (.int v), none]) cf_X7_write (fun _ _ => wl_fst) 1 rfl (Nat.le_of_ble_eq_true rfl) (fun Pp Ee Ss Mm Aa Bb Me Cc A0 B hr hlk => ?_)
  have B : BS sk D cy (wl A cy 11 TM X) A0 Pp Ss Mm Aa Cc RX7 cX7_write 5 := B
  refine a_aload_n B dX7_write_0 rfl ?_
  refine a_iload_n B dX7_write_1 rfl ?_
  refine a_callV1r B rfl cf_X7_whyNone lk_X7_171 in_X7_whyNone se_X7_whyNone (wl_rc (p0 := 0) (by decide) rfl rfl rfl) (m_whyNone _ _) dX7_write_2 (Nat.le_of_ble_eq_true rfl) ⟨Nat.le_of_ble_eq_true rfl, Nat.le_of_ble_eq_true rfl⟩ ⟨rfl, rfl⟩ ?_
  refine p_istore4 B dX7_write_5 (by decide) (k := ?_)
  rcases hw : whnR M s1 with _ | k9
  · obtain ⟨t, ht, hs1⟩ := whn_n hw
    subst hs1
    rw [oI_n]
    obtain ⟨hz1, hz2⟩ := (hZ t ht).e
    have et : nn (nI t) = t := nn_nI (by omega)
    refine a_iload B dX7_write_7 rfl ?_
    refine a_if_ge 34 B dX7_write_9 (by decide) (fun c9 => ?_) (fun c9 => ?_)
    · exact absurd c9 (by decide)
    refine a_iload_n B dX7_write_12 rfl ?_
    refine a_i2l B dX7_write_13 ?_
    refine a_lconst (v := 0) B dX7_write_14 (by decide) ?_
    refine a_aload_n B dX7_write_15 rfl ?_
    refine a_getR B fl_X7_32 (by decide) rfl rfl dX7_write_16 ?_
    refine a_iload_n B dX7_write_19 rfl ?_
    refine a_iald t B (by decide) rfl rfl (by omega) (by decide) dX7_write_20 ?_
    rw [show M 7 (0 + t) = nI (szR M t) from by rw [Nat.zero_add]; exact hz2]
    refine a_iconst (v := 1) B dX7_write_21 (by decide) ?_
    refine a_isub B dX7_write_22 ?_
    refine a_i2l B dX7_write_23 ?_
    refine a_callS3r B rfl cf_X7_in lk_X7_42 st_X7_in (m_in j 0 (nI (szR M t) - 1) _ _ (by first | rfl | decide) rfl _) dX7_write_24 (Nat.le_of_ble_eq_true rfl) ⟨Nat.le_of_ble_eq_true rfl, Nat.le_of_ble_eq_true rfl⟩ ⟨rfl, rfl⟩ ?_
    refine a_if_ne 34 B dX7_write_27 (by decide) (fun c27 => ?_) (fun c27 => ?_)
    · have c27 := bI_ne0.mp c27
      obtain ⟨a, ha, hae⟩ := bt_sz hz1 c27
      subst hae
      refine a_iload B dX7_write_34 rfl ?_
      refine p_istore4 B dX7_write_36 (by decide) (k := ?_)
      refine a_iload B dX7_write_38 rfl ?_
      refine a_if_lt 50 B dX7_write_40 (by decide) (fun c40 => ?_) (fun c40 => ?_)
      · refine a_aload_n B dX7_write_50 rfl ?_
        refine a_getR B fl_X7_35 (by decide) rfl rfl dX7_write_51 ?_
        refine a_bipush (v := 40) B dX7_write_54 (by decide) ?_
        refine a_iload_n B dX7_write_56 rfl ?_
        refine a_imul B dX7_write_57 ?_
        refine a_iload_n B dX7_write_58 rfl ?_
        refine a_iadd B dX7_write_59 ?_
        refine a_aload_n B dX7_write_60 rfl ?_
        refine a_getR B fl_X7_29 (by decide) rfl rfl dX7_write_61 ?_
        refine a_iload_n B dX7_write_64 rfl ?_
        refine a_iald t B (by decide) rfl rfl (by omega) (by decide) dX7_write_65 ?_
        refine a_bipush (v := 8) B dX7_write_66 (by decide) ?_
        refine a_icmp_ne 76 B dX7_write_68 (by decide) (fun c68 => ?_) (fun c68 => ?_)
        · have c68x : ¬ M 6 t = 8 := by have h := c68; rw [Nat.zero_add] at h; exact h
          refine a_aload_n B dX7_write_76 rfl ?_
          refine a_getR B fl_X7_29 (by decide) rfl rfl dX7_write_77 ?_
          refine a_iload_n B dX7_write_80 rfl ?_
          refine a_iald t B (by decide) rfl rfl (by omega) (by decide) dX7_write_81 ?_
          refine a_bipush (v := 16) B dX7_write_82 (by decide) ?_
          refine a_icmp_ne 92 B dX7_write_84 (by decide) (fun c84 => ?_) (fun c84 => ?_)
          · have c84x : ¬ M 6 t = 16 := by have h := c84; rw [Nat.zero_add] at h; exact h
            refine a_iload_n B dX7_write_92 rfl ?_
            refine a_iast (40 * t + a) B twM (by decide) rfl (ix_num t a) (by omega) (by decide) dX7_write_93 ?_
            refine a_iconst (v := 1) B dX7_write_94 (by decide) ?_
            have hcut : cutR (M 6 t) v = v := by unfold cutR; rw [if_neg c68x, if_neg c84x]
            have hX : wriR M (nI t) (nI a) v = (.inl 1, stB M 8 (upd (M 8) (40 * t + a) (cutR (M 6 t) v))) := by
              unfold wriR; rw [hw]; simp only [et, c27, if_true, nn_nI (show a < 2 ^ 31 by omega)]
            rw [Nat.zero_add (40 * t + a), upB_st]
            exact a_iret B hr hlk dX7_write_95 (rR_l0 (by rw [hX]) (by rw [hX, hcut]))
          have c84x : M 6 t = 16 := by have h := c84; rw [Nat.zero_add] at h; exact h
          refine a_iload_n B dX7_write_87 rfl ?_
          refine a_i2s B dX7_write_88 ?_
          refine a_goto 93 B dX7_write_89 (by decide) ?_
          refine a_iast (40 * t + a) B twM (by decide) rfl (ix_num t a) (by omega) (by decide) dX7_write_93 ?_
          refine a_iconst (v := 1) B dX7_write_94 (by decide) ?_
          have hcut : cutR (M 6 t) v = v.toInt16.toInt32 := by unfold cutR; rw [if_neg c68x, if_pos c84x]
          have hX : wriR M (nI t) (nI a) v = (.inl 1, stB M 8 (upd (M 8) (40 * t + a) (cutR (M 6 t) v))) := by
            unfold wriR; rw [hw]; simp only [et, c27, if_true, nn_nI (show a < 2 ^ 31 by omega)]
          rw [Nat.zero_add (40 * t + a), upB_st]
          exact a_iret B hr hlk dX7_write_95 (rR_l0 (by rw [hX]) (by rw [hX, hcut]))
        have c68x : M 6 t = 8 := by have h := c68; rw [Nat.zero_add] at h; exact h
        refine a_iload_n B dX7_write_71 rfl ?_
        refine a_i2b B dX7_write_72 ?_
        refine a_goto 93 B dX7_write_73 (by decide) ?_
        refine a_iast (40 * t + a) B twM (by decide) rfl (ix_num t a) (by omega) (by decide) dX7_write_93 ?_
        refine a_iconst (v := 1) B dX7_write_94 (by decide) ?_
        have hcut : cutR (M 6 t) v = v.toInt8.toInt32 := by unfold cutR; rw [if_pos c68x]
        have hX : wriR M (nI t) (nI a) v = (.inl 1, stB M 8 (upd (M 8) (40 * t + a) (cutR (M 6 t) v))) := by
          unfold wriR; rw [hw]; simp only [et, c27, if_true, nn_nI (show a < 2 ^ 31 by omega)]
        rw [Nat.zero_add (40 * t + a), upB_st]
        exact a_iret B hr hlk dX7_write_95 (rR_l0 (by rw [hX]) (by rw [hX, hcut]))
      exact absurd (show (-1 : Int32) < 0 by decide) c40
    have c27 := bI_eq0.mp c27
    refine a_iconst (v := 0) B dX7_write_30 (by decide) ?_
    refine a_goto 36 B dX7_write_31 (by decide) ?_
    refine p_istore4 B dX7_write_36 (by decide) (k := ?_)
    refine a_iload B dX7_write_38 rfl ?_
    refine a_if_lt 50 B dX7_write_40 (by decide) (fun c40 => ?_) (fun c40 => ?_)
    · exact absurd c40 (by decide)
    refine a_aload_n B dX7_write_43 rfl ?_
    refine a_iload B dX7_write_44 rfl ?_
    refine a_callV1r B rfl cf_X7_finds lk_X7_109 in_X7_finds se_X7_finds (wl_rc (p0 := 0) (by decide) rfl rfl rfl) (m_finds 0 (by decide) _) dX7_write_46 (Nat.le_of_ble_eq_true rfl) ⟨Nat.le_of_ble_eq_true rfl, Nat.le_of_ble_eq_true rfl⟩ ⟨rfl, rfl⟩ ?_
    exact a_iret B hr hlk dX7_write_49 (rR_r0 (k := 0) (by unfold wriR; rw [hw]; simp only [et, c27]; rfl) rfl rfl)
  · have hk9 := whn_lt hw
    rw [oI_s]
    refine a_iload B dX7_write_7 rfl ?_
    refine a_if_ge 34 B dX7_write_9 (by decide) (fun c9 => ?_) (fun c9 => ?_)
    · refine a_iload B dX7_write_34 rfl ?_
      refine p_istore4 B dX7_write_36 (by decide) (k := ?_)
      refine a_iload B dX7_write_38 rfl ?_
      refine a_if_lt 50 B dX7_write_40 (by decide) (fun c40 => ?_) (fun c40 => ?_)
      · exact absurd c40 (nI_pos (by omega))
      refine a_aload_n B dX7_write_43 rfl ?_
      refine a_iload B dX7_write_44 rfl ?_
      refine a_callV1r B rfl cf_X7_finds lk_X7_109 in_X7_finds se_X7_finds (wl_rc (p0 := 0) (by decide) rfl rfl rfl) (m_finds k9 hk9 _) dX7_write_46 (Nat.le_of_ble_eq_true rfl) ⟨Nat.le_of_ble_eq_true rfl, Nat.le_of_ble_eq_true rfl⟩ ⟨rfl, rfl⟩ ?_
      exact a_iret B hr hlk dX7_write_49 (rR_r0 (k := k9) (by unfold wriR; rw [hw]) rfl rfl)
    exact absurd (nI_pos' (by omega)) c9
end R14
