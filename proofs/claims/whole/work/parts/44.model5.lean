section R5

theorem tell_its {d : Dm} {q : Nat} : ∀ w, w < 6 → tellV d q (nI w) = d (12 + 8 * w + q) := by
  intro w hw
  rcases (show w = 0 ∨ w = 1 ∨ w = 2 ∨ w = 3 ∨ w = 4 ∨ w = 5 by omega) with rfl | rfl | rfl | rfl | rfl | rfl <;> rfl
theorem put_its {d : Dm} {q : Nat} {v : Int32} : ∀ w, w < 6 → putF d q (nI w) v = upd d (12 + 8 * w + q) v := by
  intro w hw
  rcases (show w = 0 ∨ w = 1 ∨ w = 2 ∨ w = 3 ∨ w = 4 ∨ w = 5 by omega) with rfl | rfl | rfl | rfl | rfl | rfl <;> rfl
theorem sum_its {d : Dm} {w : Nat} (hw : w < 6) : ∀ n, sumT d (nI w) n = sumF d w n := by
  intro n
  induction n with
  | zero => rfl
  | succ n ih => rw [sumT, sumF, ih, tell_its w hw]
theorem tog_its {d : Dm} {w : Nat} (hw : w < 6) : ∀ n, togT d (nI w) n = togF d w n := by
  intro n
  induction n with
  | zero => rfl
  | succ n ih => rw [togT, togF, ih, tell_its w hw]
def mosV (what : Int32) : Int32 := if what = 0 then 6 else if what = 1 then 999 else if what < 4 then 255 else 9999
theorem may_mos {v : Int32} : ∀ w, w < 6 → mayV (nI w) v = bt v 0 (mosV (nI w)) := by
  intro w hw
  rcases (show w = 0 ∨ w = 1 ∨ w = 2 ∨ w = 3 ∨ w = 4 ∨ w = 5 by omega) with rfl | rfl | rfl | rfl | rfl | rfl <;> rfl
theorem may_no {what v : Int32} (h : wi what 5 = false) : mayV what v = false := by
  have key : ∀ w, w < 6 → what ≠ nI w := fun w hw e => by
    rw [e, show (5 : Int32) = nI 5 from rfl, wi_in (by omega) (by omega)] at h
    cases h
  unfold mayV
  rw [if_neg (show ¬ what = 0 from key 0 (by omega)), if_neg (show ¬ what = 1 from key 1 (by omega)), if_neg (show ¬ what = 2 from key 2 (by omega)), if_neg (show ¬ what = 3 from key 3 (by omega)), if_neg (show ¬ what = 4 from key 4 (by omega)), if_neg (show ¬ what = 5 from key 5 (by omega))]
theorem ful_s {d : Dm} {k b : Nat} (hb : fullO d k = some b) : fullO d (k + 1) = if d (20 + b) < d (20 + k) then some k else some b := by rw [fullO, hb]
theorem ful_0 {d : Dm} {k : Nat} (hb : fullO d k = none) : fullO d (k + 1) = some k := by rw [fullO, hb]
theorem ful_lt {d : Dm} : ∀ n b, fullO d n = some b → b < n := by
  intro n
  induction n with
  | zero => intro b h; cases h
  | succ n ih =>
    intro b h
    cases hc : fullO d n with
    | none => rw [ful_0 hc] at h; injection h with h; omega
    | some c =>
      rw [ful_s hc] at h
      have := ih c hc
      split at h <;> (injection h with h; omega)

variable {l : Launch} {sk : (Nat → Nat) × (Nat → Nat)} {D : va_G} {cy : Nat → ClassId} {A : Nat → Nat} {X : va_W}
set_option maxRecDepth 20000 in
theorem m_of (p what : Int32) (M : Mem) (hI : Inv (M 0)) : CR l sk D cy A X mX7_of 3 [.ref (A 0), .int p, .int what] M (rR (ofX (M 0) p what) M M) := by
  refine Con.of (lo := [some (.ref (A 0)), some (.int p), some (.int what)]) cf_X7_of (fun _ _ => wl_fst) 0 rfl (Nat.le_of_ble_eq_true rfl) (fun Pp Ee Ss Mm Aa Bb Me Cc A0 B hr hlk => ?_)
  have B : BS sk D cy (wl A cy 11 TM X) A0 Pp Ss Mm Aa Cc RX7 cX7_of 3 := B
  rcases at_cases hI p with ⟨q, hqn, hq8, hvq, hip, hlt⟩ | ⟨hn, hip⟩
  · subst hvq
    refine a_aload_n B dX7_of_0 rfl ?_
    refine a_iload_n B dX7_of_1 rfl ?_
    refine a_callV1r B rfl cf_X7_isPriest lk_X7_123 in_X7_isPriest se_X7_isPriest (wl_rc (p0 := 0) (by decide) rfl rfl rfl) (m_isPriest _ _ hI) dX7_of_2 (Nat.le_of_ble_eq_true rfl) ⟨Nat.le_of_ble_eq_true rfl, Nat.le_of_ble_eq_true rfl⟩ ⟨rfl, rfl⟩ ?_
    refine a_if_eq 20 B dX7_of_5 (by decide) (fun c5 => ?_) (fun c5 => ?_)
    · exact absurd (show isP (M 0) (nI q) = false from bI_eq0.mp c5) (by rw [hip]; decide)
    refine a_iload_n B dX7_of_8 rfl ?_
    refine a_i2l B dX7_of_9 ?_
    refine a_lconst (v := 0) B dX7_of_10 (by decide) ?_
    refine a_ldc2 B dX7_of_11 kl_X7_101 ?_
    refine a_callS3r B rfl cf_X7_in lk_X7_42 st_X7_in (m_in what 0 9 _ _ (by first | rfl | decide) (by first | rfl | decide) _) dX7_of_14 (Nat.le_of_ble_eq_true rfl) ⟨Nat.le_of_ble_eq_true rfl, Nat.le_of_ble_eq_true rfl⟩ ⟨rfl, rfl⟩ ?_
    refine a_if_ne 26 B dX7_of_17 (by decide) (fun c17 => ?_) (fun c17 => ?_)
    · have c17 := bI_ne0.mp c17
      refine a_iload_n B dX7_of_26 rfl ?_
      by_cases s27_0 : what = 6
      · refine a_tblIn 56 B dX7_of_27 (by rw [s27_0]; decide) (by rw [s27_0]; decide) (by rw [s27_0]; rfl) (by decide) ?_
        refine a_aload_n B dX7_of_56 rfl ?_
        refine a_iload_n B dX7_of_57 rfl ?_
        refine a_callV1r B rfl cf_X7_holds lk_X7_66 in_X7_holds se_X7_holds (wl_rc (p0 := 0) (by decide) rfl rfl rfl) (m_holds q hq8 _) dX7_of_58 (Nat.le_of_ble_eq_true rfl) ⟨Nat.le_of_ble_eq_true rfl, Nat.le_of_ble_eq_true rfl⟩ ⟨rfl, rfl⟩ ?_
        exact a_iret B hr hlk dX7_of_61 (rR_l0 (by unfold ofX; rw [hip, show wi what 9 = true from c17, if_pos (show (true && true) = true from rfl), nn_nI (show q < 2 ^ 31 by omega)]; simp [tellV, s27_0]) (rfl))
      by_cases s27_1 : what = 7
      · refine a_tblIn 62 B dX7_of_27 (by rw [s27_1]; decide) (by rw [s27_1]; decide) (by rw [s27_1]; rfl) (by decide) ?_
        refine a_aload_n B dX7_of_62 rfl ?_
        refine a_iload_n B dX7_of_63 rfl ?_
        refine a_callV1r B rfl cf_X7_room lk_X7_69 in_X7_room se_X7_room (wl_rc (p0 := 0) (by decide) rfl rfl rfl) (m_room q hq8 _) dX7_of_64 (Nat.le_of_ble_eq_true rfl) ⟨Nat.le_of_ble_eq_true rfl, Nat.le_of_ble_eq_true rfl⟩ ⟨rfl, rfl⟩ ?_
        exact a_iret B hr hlk dX7_of_67 (rR_l0 (by unfold ofX; rw [hip, show wi what 9 = true from c17, if_pos (show (true && true) = true from rfl), nn_nI (show q < 2 ^ 31 by omega)]; simp [tellV, s27_0, s27_1]) (rfl))
      by_cases s27_2 : what = 8
      · refine a_tblIn 68 B dX7_of_27 (by rw [s27_2]; decide) (by rw [s27_2]; decide) (by rw [s27_2]; rfl) (by decide) ?_
        refine a_aload_n B dX7_of_68 rfl ?_
        refine a_iload_n B dX7_of_69 rfl ?_
        refine a_callV1r B rfl cf_X7_digests lk_X7_95 in_X7_digests se_X7_digests (wl_rc (p0 := 0) (by decide) rfl rfl rfl) (m_digests q hq8 _) dX7_of_70 (Nat.le_of_ble_eq_true rfl) ⟨Nat.le_of_ble_eq_true rfl, Nat.le_of_ble_eq_true rfl⟩ ⟨rfl, rfl⟩ ?_
        exact a_iret B hr hlk dX7_of_73 (rR_l0 (by unfold ofX; rw [hip, show wi what 9 = true from c17, if_pos (show (true && true) = true from rfl), nn_nI (show q < 2 ^ 31 by omega)]; simp [tellV, s27_0, s27_1, s27_2]) (rfl))
      by_cases s27_3 : what = 9
      · refine a_tblIn 74 B dX7_of_27 (by rw [s27_3]; decide) (by rw [s27_3]; decide) (by rw [s27_3]; rfl) (by decide) ?_
        refine a_aload_n B dX7_of_74 rfl ?_
        refine a_iload_n B dX7_of_75 rfl ?_
        refine a_callV1r B rfl cf_X7_keeps lk_X7_91 in_X7_keeps se_X7_keeps (wl_rc (p0 := 0) (by decide) rfl rfl rfl) (m_keeps q hq8 _) dX7_of_76 (Nat.le_of_ble_eq_true rfl) ⟨Nat.le_of_ble_eq_true rfl, Nat.le_of_ble_eq_true rfl⟩ ⟨rfl, rfl⟩ ?_
        refine a_if_eq 86 B dX7_of_79 (by decide) (fun c79 => ?_) (fun c79 => ?_)
        · have c79 := bI_eq0.mp c79
          refine a_iconst (v := 0) B dX7_of_86 (by decide) ?_
          exact a_iret B hr hlk dX7_of_87 (rR_l0 (by unfold ofX; rw [hip, show wi what 9 = true from c17, if_pos (show (true && true) = true from rfl), nn_nI (show q < 2 ^ 31 by omega)]; simp [tellV, s27_0, s27_1, s27_2, s27_3, bI, c79]) (rfl))
        have c79 := bI_ne0.mp c79
        refine a_iconst (v := 1) B dX7_of_82 (by decide) ?_
        refine a_goto 87 B dX7_of_83 (by decide) ?_
        exact a_iret B hr hlk dX7_of_87 (rR_l0 (by unfold ofX; rw [hip, show wi what 9 = true from c17, if_pos (show (true && true) = true from rfl), nn_nI (show q < 2 ^ 31 by omega)]; simp [tellV, s27_0, s27_1, s27_2, s27_3, bI, c79]) (rfl))
      refine a_tblOut 88 B dX7_of_27 (by have h0 := lv_neT s27_0 (show (6 : Int32).toInt = 6 by decide); have h1 := lv_neT s27_1 (show (7 : Int32).toInt = 7 by decide); have h2 := lv_neT s27_2 (show (8 : Int32).toInt = 8 by decide); have h3 := lv_neT s27_3 (show (9 : Int32).toInt = 9 by decide); omega) (by decide) ?_
      obtain ⟨t, ht9, hte⟩ := wi_T (t := 9) (v := what) c17 (by omega)
      subst hte
      have ht6 : t < 6 := by
        have z0 : t ≠ 6 := fun hh => s27_0 (by rw [hh]; rfl)
        have z1 : t ≠ 7 := fun hh => s27_1 (by rw [hh]; rfl)
        have z2 : t ≠ 8 := fun hh => s27_2 (by rw [hh]; rfl)
        have z3 : t ≠ 9 := fun hh => s27_3 (by rw [hh]; rfl)
        omega
      refine a_aload_n B dX7_of_88 rfl ?_
      refine a_iload_n B dX7_of_89 rfl ?_
      refine a_iload_n B dX7_of_90 rfl ?_
      refine a_callV2r B rfl cf_X7_its lk_X7_54 in_X7_its se_X7_its (wl_rc (p0 := 0) (by decide) rfl rfl rfl) (m_its q t (12 + 8 * t + q) hq8 ht6 rfl _) dX7_of_91 (Nat.le_of_ble_eq_true rfl) ⟨Nat.le_of_ble_eq_true rfl, Nat.le_of_ble_eq_true rfl⟩ ⟨rfl, rfl⟩ ?_
      exact a_iret B hr hlk dX7_of_94 (rR_l0 (by unfold ofX; rw [hip, show wi (nI t) 9 = true from c17, if_pos (show (true && true) = true from rfl), nn_nI (show q < 2 ^ 31 by omega)]; rw [tell_its t ht6]) (rfl))
    have c17 := bI_eq0.mp c17
    refine a_aload_n B dX7_of_20 rfl ?_
    refine a_iconst (v := 0) B dX7_of_21 (by decide) ?_
    refine a_callV1r B rfl cf_X7_finds lk_X7_109 in_X7_finds se_X7_finds (wl_rc (p0 := 0) (by decide) rfl rfl rfl) (m_finds 0 (by decide) _) dX7_of_22 (Nat.le_of_ble_eq_true rfl) ⟨Nat.le_of_ble_eq_true rfl, Nat.le_of_ble_eq_true rfl⟩ ⟨rfl, rfl⟩ ?_
    exact a_iret B hr hlk dX7_of_25 (rR_r0 (k := 0) (by unfold ofX; rw [show wi what 9 = false from c17, Bool.and_false]; rfl) rfl rfl)
  · refine a_aload_n B dX7_of_0 rfl ?_
    refine a_iload_n B dX7_of_1 rfl ?_
    refine a_callV1r B rfl cf_X7_isPriest lk_X7_123 in_X7_isPriest se_X7_isPriest (wl_rc (p0 := 0) (by decide) rfl rfl rfl) (m_isPriest _ _ hI) dX7_of_2 (Nat.le_of_ble_eq_true rfl) ⟨Nat.le_of_ble_eq_true rfl, Nat.le_of_ble_eq_true rfl⟩ ⟨rfl, rfl⟩ ?_
    refine a_if_eq 20 B dX7_of_5 (by decide) (fun c5 => ?_) (fun c5 => ?_)
    · refine a_aload_n B dX7_of_20 rfl ?_
      refine a_iconst (v := 0) B dX7_of_21 (by decide) ?_
      refine a_callV1r B rfl cf_X7_finds lk_X7_109 in_X7_finds se_X7_finds (wl_rc (p0 := 0) (by decide) rfl rfl rfl) (m_finds 0 (by decide) _) dX7_of_22 (Nat.le_of_ble_eq_true rfl) ⟨Nat.le_of_ble_eq_true rfl, Nat.le_of_ble_eq_true rfl⟩ ⟨rfl, rfl⟩ ?_
      exact a_iret B hr hlk dX7_of_25 (rR_r0 (k := 0) (by unfold ofX; rw [hip]; rfl) rfl rfl)
    exact absurd (show isP (M 0) p = true from bI_ne0.mp c5) (by rw [hip]; decide)
set_option maxRecDepth 20000 in
theorem m_mostOf (what : Int32) (M : Mem) : CR l sk D cy A X mX7_mostOf 0 [.int what] M (rI (mosV what) M) := by
  refine Con.of (lo := [some (.int what)]) cf_X7_mostOf (fun _ _ => wl_fst) 0 rfl (Nat.le_of_ble_eq_true rfl) (fun Pp Ee Ss Mm Aa Bb Me Cc A0 B hr hlk => ?_)
  have B : BS sk D cy (wl A cy 11 TM X) A0 Pp Ss Mm Aa Cc RX7 cX7_mostOf 1 := B
  refine a_iload_n B dX7_mostOf_0 rfl ?_
  refine a_if_ne 9 B dX7_mostOf_1 (by decide) (fun c1 => ?_) (fun c1 => ?_)
  · refine a_iload_n B dX7_mostOf_9 rfl ?_
    refine a_iconst (v := 1) B dX7_mostOf_10 (by decide) ?_
    refine a_icmp_ne 20 B dX7_mostOf_11 (by decide) (fun c11 => ?_) (fun c11 => ?_)
    · refine a_iload_n B dX7_mostOf_20 rfl ?_
      refine a_iconst (v := 4) B dX7_mostOf_21 (by decide) ?_
      refine a_icmp_ge 31 B dX7_mostOf_22 (by decide) (fun c22 => ?_) (fun c22 => ?_)
      · refine a_sipush (v := 9999) B dX7_mostOf_31 (by decide) ?_
        exact a_iret B hr hlk dX7_mostOf_34 ⟨congrArg (fun z => some (Value.int z)) (by unfold mosV; rw [if_neg c1, if_neg c11, if_neg (Int32.not_lt.mpr c22)]), rfl⟩
      refine a_sipush (v := 255) B dX7_mostOf_25 (by decide) ?_
      refine a_goto 34 B dX7_mostOf_28 (by decide) ?_
      exact a_iret B hr hlk dX7_mostOf_34 ⟨congrArg (fun z => some (Value.int z)) (by unfold mosV; rw [if_neg c1, if_neg c11, if_pos (Int32.not_le.mp c22)]), rfl⟩
    refine a_sipush (v := 999) B dX7_mostOf_14 (by decide) ?_
    refine a_goto 34 B dX7_mostOf_17 (by decide) ?_
    exact a_iret B hr hlk dX7_mostOf_34 ⟨congrArg (fun z => some (Value.int z)) (by unfold mosV; rw [if_neg c1, if_pos c11]), rfl⟩
  refine a_bipush (v := 6) B dX7_mostOf_4 (by decide) ?_
  refine a_goto 34 B dX7_mostOf_6 (by decide) ?_
  exact a_iret B hr hlk dX7_mostOf_34 ⟨congrArg (fun z => some (Value.int z)) (by unfold mosV; rw [if_pos c1]), rfl⟩
set_option maxRecDepth 20000 in
theorem m_change (p what v : Int32) (M : Mem) (hI : Inv (M 0)) : CR l sk D cy A X mX7_change 2 [.ref (A 0), .int p, .int what, .int v] M (rR (chaX (M 0) p what v).1 (stB M 0 (chaX (M 0) p what v).2) M) := by
  refine Con.of (lo := [some (.ref (A 0)), some (.int p), some (.int what), some (.int v)]) cf_X7_change (fun _ _ => wl_fst) 0 rfl (Nat.le_of_ble_eq_true rfl) (fun Pp Ee Ss Mm Aa Bb Me Cc A0 B hr hlk => ?_)
  have B : BS sk D cy (wl A cy 11 TM X) A0 Pp Ss Mm Aa Cc RX7 cX7_change 4 := B
  rcases at_cases hI p with ⟨q, hqn, hq8, hvq, hip, hlt⟩ | ⟨hn, hip⟩
  · subst hvq
    refine a_aload_n B dX7_change_0 rfl ?_
    refine a_iload_n B dX7_change_1 rfl ?_
    refine a_callV1r B rfl cf_X7_isPriest lk_X7_123 in_X7_isPriest se_X7_isPriest (wl_rc (p0 := 0) (by decide) rfl rfl rfl) (m_isPriest _ _ hI) dX7_change_2 (Nat.le_of_ble_eq_true rfl) ⟨Nat.le_of_ble_eq_true rfl, Nat.le_of_ble_eq_true rfl⟩ ⟨rfl, rfl⟩ ?_
    refine a_if_eq 51 B dX7_change_5 (by decide) (fun c5 => ?_) (fun c5 => ?_)
    · exact absurd (show isP (M 0) (nI q) = false from bI_eq0.mp c5) (by rw [hip]; decide)
    refine a_iload_n B dX7_change_8 rfl ?_
    refine a_i2l B dX7_change_9 ?_
    refine a_lconst (v := 0) B dX7_change_10 (by decide) ?_
    refine a_ldc2 B dX7_change_11 kl_X7_48 ?_
    refine a_callS3r B rfl cf_X7_in lk_X7_42 st_X7_in (m_in what 0 5 _ _ (by first | rfl | decide) (by first | rfl | decide) _) dX7_change_14 (Nat.le_of_ble_eq_true rfl) ⟨Nat.le_of_ble_eq_true rfl, Nat.le_of_ble_eq_true rfl⟩ ⟨rfl, rfl⟩ ?_
    refine a_if_eq 51 B dX7_change_17 (by decide) (fun c17 => ?_) (fun c17 => ?_)
    · have c17 := bI_eq0.mp c17
      refine a_aload_n B dX7_change_51 rfl ?_
      refine a_iconst (v := 0) B dX7_change_52 (by decide) ?_
      refine a_callV1r B rfl cf_X7_finds lk_X7_109 in_X7_finds se_X7_finds (wl_rc (p0 := 0) (by decide) rfl rfl rfl) (m_finds 0 (by decide) _) dX7_change_53 (Nat.le_of_ble_eq_true rfl) ⟨Nat.le_of_ble_eq_true rfl, Nat.le_of_ble_eq_true rfl⟩ ⟨rfl, rfl⟩ ?_
      exact a_iret B hr hlk dX7_change_56 (rR_r0 (k := 0) (by unfold chaX; rw [hip, may_no (show wi what 5 = false from c17)]; rfl) rfl rfl)
    have c17 := bI_ne0.mp c17
    obtain ⟨t, ht5, hte⟩ := wi_T (t := 5) (v := what) c17 (by omega)
    subst hte
    refine a_iload_n B dX7_change_20 rfl ?_
    refine a_i2l B dX7_change_21 ?_
    refine a_lconst (v := 0) B dX7_change_22 (by decide) ?_
    refine a_iload_n B dX7_change_23 rfl ?_
    refine a_callS1r B rfl cf_X7_mostOf lk_X7_126 st_X7_mostOf (m_mostOf _ _) dX7_change_24 (Nat.le_of_ble_eq_true rfl) ⟨Nat.le_of_ble_eq_true rfl, Nat.le_of_ble_eq_true rfl⟩ ⟨rfl, rfl⟩ ?_
    refine a_i2l B dX7_change_27 ?_
    refine a_callS3r B rfl cf_X7_in lk_X7_42 st_X7_in (m_in v 0 (mosV (nI t)) _ _ (by first | rfl | decide) rfl _) dX7_change_28 (Nat.le_of_ble_eq_true rfl) ⟨Nat.le_of_ble_eq_true rfl, Nat.le_of_ble_eq_true rfl⟩ ⟨rfl, rfl⟩ ?_
    refine a_if_eq 51 B dX7_change_31 (by decide) (fun c31 => ?_) (fun c31 => ?_)
    · have c31 := bI_eq0.mp c31
      refine a_aload_n B dX7_change_51 rfl ?_
      refine a_iconst (v := 0) B dX7_change_52 (by decide) ?_
      refine a_callV1r B rfl cf_X7_finds lk_X7_109 in_X7_finds se_X7_finds (wl_rc (p0 := 0) (by decide) rfl rfl rfl) (m_finds 0 (by decide) _) dX7_change_53 (Nat.le_of_ble_eq_true rfl) ⟨Nat.le_of_ble_eq_true rfl, Nat.le_of_ble_eq_true rfl⟩ ⟨rfl, rfl⟩ ?_
      exact a_iret B hr hlk dX7_change_56 (rR_r0 (k := 0) (by unfold chaX; rw [hip, may_mos t (by omega), c31]; rfl) rfl rfl)
    have c31 := bI_ne0.mp c31
    refine a_aload_n B dX7_change_34 rfl ?_
    refine a_bipush (v := 12) B dX7_change_35 (by decide) ?_
    refine a_bipush (v := 8) B dX7_change_37 (by decide) ?_
    refine a_iload_n B dX7_change_39 rfl ?_
    refine a_imul B dX7_change_40 ?_
    refine a_iadd B dX7_change_41 ?_
    refine a_iload_n B dX7_change_42 rfl ?_
    refine a_iadd B dX7_change_43 ?_
    refine a_iload_n B dX7_change_44 rfl ?_
    rw [ix_its]
    refine a_callV2r B rfl cf_X7_becomes lk_X7_106 in_X7_becomes se_X7_becomes (wl_rc (p0 := 0) (by decide) rfl rfl rfl) (m_becomes (12 + 8 * t + q) (by omega) _ _) dX7_change_45 (Nat.le_of_ble_eq_true rfl) ⟨Nat.le_of_ble_eq_true rfl, Nat.le_of_ble_eq_true rfl⟩ ⟨rfl, rfl⟩ ?_
    refine a_goto 56 B dX7_change_48 (by decide) ?_
    exact a_iret B hr hlk dX7_change_56 (rR_l0 (by unfold chaX; rw [hip, may_mos t (by omega), c31, if_pos (show (true && true) = true from rfl), nn_nI (show q < 2 ^ 31 by omega), tell_its t (by omega)]) (by unfold chaX; rw [hip, may_mos t (by omega), c31, if_pos (show (true && true) = true from rfl), nn_nI (show q < 2 ^ 31 by omega), put_its t (by omega)]))
  · refine a_aload_n B dX7_change_0 rfl ?_
    refine a_iload_n B dX7_change_1 rfl ?_
    refine a_callV1r B rfl cf_X7_isPriest lk_X7_123 in_X7_isPriest se_X7_isPriest (wl_rc (p0 := 0) (by decide) rfl rfl rfl) (m_isPriest _ _ hI) dX7_change_2 (Nat.le_of_ble_eq_true rfl) ⟨Nat.le_of_ble_eq_true rfl, Nat.le_of_ble_eq_true rfl⟩ ⟨rfl, rfl⟩ ?_
    refine a_if_eq 51 B dX7_change_5 (by decide) (fun c5 => ?_) (fun c5 => ?_)
    · refine a_aload_n B dX7_change_51 rfl ?_
      refine a_iconst (v := 0) B dX7_change_52 (by decide) ?_
      refine a_callV1r B rfl cf_X7_finds lk_X7_109 in_X7_finds se_X7_finds (wl_rc (p0 := 0) (by decide) rfl rfl rfl) (m_finds 0 (by decide) _) dX7_change_53 (Nat.le_of_ble_eq_true rfl) ⟨Nat.le_of_ble_eq_true rfl, Nat.le_of_ble_eq_true rfl⟩ ⟨rfl, rfl⟩ ?_
      exact a_iret B hr hlk dX7_change_56 (rR_r0 (k := 0) (by unfold chaX; rw [hip]; rfl) rfl rfl)
    exact absurd (show isP (M 0) p = true from bI_ne0.mp c5) (by rw [hip]; decide)
set_option maxRecDepth 20000 in
theorem m_swells (p cf : Int32) (M : Mem) (hI : Inv (M 0)) : CR l sk D cy A X mX7_swells 2 [.ref (A 0), .int p, .int cf] M (rR (sweX (M 0) p cf) M M) := by
  refine Con.of (lo := [some (.ref (A 0)), some (.int p), some (.int cf)]) cf_X7_swells (fun _ _ => wl_fst) 0 rfl (Nat.le_of_ble_eq_true rfl) (fun Pp Ee Ss Mm Aa Bb Me Cc A0 B hr hlk => ?_)
  have B : BS sk D cy (wl A cy 11 TM X) A0 Pp Ss Mm Aa Cc RX7 cX7_swells 3 := B
  rcases at_cases hI p with ⟨q, hqn, hq8, hvq, hip, hlt⟩ | ⟨hn, hip⟩
  · subst hvq
    refine a_aload_n B dX7_swells_0 rfl ?_
    refine a_iload_n B dX7_swells_1 rfl ?_
    refine a_callV1r B rfl cf_X7_isPriest lk_X7_123 in_X7_isPriest se_X7_isPriest (wl_rc (p0 := 0) (by decide) rfl rfl rfl) (m_isPriest _ _ hI) dX7_swells_2 (Nat.le_of_ble_eq_true rfl) ⟨Nat.le_of_ble_eq_true rfl, Nat.le_of_ble_eq_true rfl⟩ ⟨rfl, rfl⟩ ?_
    refine a_if_eq 31 B dX7_swells_5 (by decide) (fun c5 => ?_) (fun c5 => ?_)
    · exact absurd (show isP (M 0) (nI q) = false from bI_eq0.mp c5) (by rw [hip]; decide)
    refine a_iload_n B dX7_swells_8 rfl ?_
    refine a_callS1r B rfl cf_X7_isConfession lk_X7_115 st_X7_isConfession (m_isConfession _ _) dX7_swells_9 (Nat.le_of_ble_eq_true rfl) ⟨Nat.le_of_ble_eq_true rfl, Nat.le_of_ble_eq_true rfl⟩ ⟨rfl, rfl⟩ ?_
    refine a_if_eq 31 B dX7_swells_12 (by decide) (fun c12 => ?_) (fun c12 => ?_)
    · have c12 := bI_eq0.mp c12
      refine a_aload_n B dX7_swells_31 rfl ?_
      refine a_iconst (v := 0) B dX7_swells_32 (by decide) ?_
      refine a_callV1r B rfl cf_X7_finds lk_X7_109 in_X7_finds se_X7_finds (wl_rc (p0 := 0) (by decide) rfl rfl rfl) (m_finds 0 (by decide) _) dX7_swells_33 (Nat.le_of_ble_eq_true rfl) ⟨Nat.le_of_ble_eq_true rfl, Nat.le_of_ble_eq_true rfl⟩ ⟨rfl, rfl⟩ ?_
      exact a_iret B hr hlk dX7_swells_36 (rR_r0 (k := 0) (by unfold sweX; rw [c12, Bool.and_false]; rfl) rfl rfl)
    have c12 := bI_ne0.mp c12
    refine a_aload_n B dX7_swells_15 rfl ?_
    refine a_iload_n B dX7_swells_16 rfl ?_
    refine a_iload_n B dX7_swells_17 rfl ?_
    refine a_bipush (v := 100) B dX7_swells_18 (by decide) ?_
    refine a_idiv B dX7_swells_20 (by decide) ?_
    refine a_iload_n B dX7_swells_21 rfl ?_
    refine a_bipush (v := 100) B dX7_swells_22 (by decide) ?_
    refine a_irem B dX7_swells_24 (by decide) ?_
    refine a_callV3r B rfl cf_X7_swellsBy lk_X7_76 in_X7_swellsBy se_X7_swellsBy (wl_rc (p0 := 0) (by decide) rfl rfl rfl) (m_swellsBy q hq8 _ _ _) dX7_swells_25 (Nat.le_of_ble_eq_true rfl) ⟨Nat.le_of_ble_eq_true rfl, Nat.le_of_ble_eq_true rfl⟩ ⟨rfl, rfl⟩ ?_
    refine a_goto 36 B dX7_swells_28 (by decide) ?_
    exact a_iret B hr hlk dX7_swells_36 (rR_l0 (by unfold sweX; rw [hip, c12, if_pos (show (true && true) = true from rfl), nn_nI (show q < 2 ^ 31 by omega)]; rfl) (rfl))
  · refine a_aload_n B dX7_swells_0 rfl ?_
    refine a_iload_n B dX7_swells_1 rfl ?_
    refine a_callV1r B rfl cf_X7_isPriest lk_X7_123 in_X7_isPriest se_X7_isPriest (wl_rc (p0 := 0) (by decide) rfl rfl rfl) (m_isPriest _ _ hI) dX7_swells_2 (Nat.le_of_ble_eq_true rfl) ⟨Nat.le_of_ble_eq_true rfl, Nat.le_of_ble_eq_true rfl⟩ ⟨rfl, rfl⟩ ?_
    refine a_if_eq 31 B dX7_swells_5 (by decide) (fun c5 => ?_) (fun c5 => ?_)
    · refine a_aload_n B dX7_swells_31 rfl ?_
      refine a_iconst (v := 0) B dX7_swells_32 (by decide) ?_
      refine a_callV1r B rfl cf_X7_finds lk_X7_109 in_X7_finds se_X7_finds (wl_rc (p0 := 0) (by decide) rfl rfl rfl) (m_finds 0 (by decide) _) dX7_swells_33 (Nat.le_of_ble_eq_true rfl) ⟨Nat.le_of_ble_eq_true rfl, Nat.le_of_ble_eq_true rfl⟩ ⟨rfl, rfl⟩ ?_
      exact a_iret B hr hlk dX7_swells_36 (rR_r0 (k := 0) (by unfold sweX; rw [hip]; rfl) rfl rfl)
    exact absurd (show isP (M 0) p = true from bI_ne0.mp c5) (by rw [hip]; decide)
set_option maxRecDepth 20000 in
theorem m_goes (sin : Int32) (M : Mem) (hI : Inv (M 0)) : CR l sk D cy A X mX7_goes 4 [.ref (A 0), .int sin] M (rR (goeX (M 0) sin) M M) := by
  refine Con.of (lo := [some (.ref (A 0)), some (.int sin), none]) cf_X7_goes (fun _ _ => wl_fst) 1 rfl (Nat.le_of_ble_eq_true rfl) (fun Pp Ee Ss Mm Aa Bb Me Cc A0 B hr hlk => ?_)
  have B : BS sk D cy (wl A cy 11 TM X) A0 Pp Ss Mm Aa Cc RX7 cX7_goes 3 := B
  obtain ⟨N, hN, eN, eNo⟩ := hI.n
  refine a_iload_n B dX7_goes_0 rfl ?_
  refine a_callS1r B rfl cf_X7_isSin lk_X7_129 st_X7_isSin (m_isSin _ _) dX7_goes_1 (Nat.le_of_ble_eq_true rfl) ⟨Nat.le_of_ble_eq_true rfl, Nat.le_of_ble_eq_true rfl⟩ ⟨rfl, rfl⟩ ?_
  refine a_if_ne 13 B dX7_goes_4 (by decide) (fun c4 => ?_) (fun c4 => ?_)
  · have c4 := bI_ne0.mp c4
    refine a_aload_n B dX7_goes_13 rfl ?_
    refine a_iload_n B dX7_goes_14 rfl ?_
    refine a_iconst (v := (-1)) B dX7_goes_15 (by decide) ?_
    refine a_callV2r B rfl cf_X7_roomiest lk_X7_72 in_X7_roomiest se_X7_roomiest (wl_rc (p0 := 0) (by decide) rfl rfl rfl) (m_roomiest _ _ _ hI) dX7_goes_16 (Nat.le_of_ble_eq_true rfl) ⟨Nat.le_of_ble_eq_true rfl, Nat.le_of_ble_eq_true rfl⟩ ⟨rfl, rfl⟩ ?_
    rw [ro_tak (fun q9 => by have h9 := wi_T (t := 7) c4 (by omega); obtain ⟨t, ht, hte⟩ := h9; rw [hte] at q9; exact nI_pos (by omega) q9) _ (by omega)]
    refine p_istore2 B dX7_goes_19 (by decide) (k := ?_)
    rcases hb : bestF (M 0) (takB (M 0) sin) (nOf (M 0)) with _ | b
    · rw [oI_n]
      refine a_iload_n B dX7_goes_20 rfl ?_
      refine a_if_ge 32 B dX7_goes_21 (by decide) (fun c21 => ?_) (fun c21 => ?_)
      · exact absurd c21 (by decide)
      refine a_aload_n B dX7_goes_24 rfl ?_
      refine a_iconst (v := 3) B dX7_goes_25 (by decide) ?_
      refine a_callV1r B rfl cf_X7_finds lk_X7_109 in_X7_finds se_X7_finds (wl_rc (p0 := 0) (by decide) rfl rfl rfl) (m_finds 3 (by decide) _) dX7_goes_26 (Nat.le_of_ble_eq_true rfl) ⟨Nat.le_of_ble_eq_true rfl, Nat.le_of_ble_eq_true rfl⟩ ⟨rfl, rfl⟩ ?_
      refine a_goto 33 B dX7_goes_29 (by decide) ?_
      exact a_iret B hr hlk dX7_goes_33 (rR_r0 (k := 3) (by unfold goeX; rw [c4, if_pos rfl, hb]; rfl) rfl rfl)
    · have hbb := best_lt _ _ _ _ hb
      rw [oI_s]
      refine a_iload_n B dX7_goes_20 rfl ?_
      refine a_if_ge 32 B dX7_goes_21 (by decide) (fun c21 => ?_) (fun c21 => ?_)
      · refine a_iload_n B dX7_goes_32 rfl ?_
        exact a_iret B hr hlk dX7_goes_33 (rR_l0 (by unfold goeX; rw [c4, if_pos rfl, hb]; rfl) (rfl))
      exact absurd (nI_pos' (by omega)) c21
  have c4 := bI_eq0.mp c4
  refine a_aload_n B dX7_goes_7 rfl ?_
  refine a_iconst (v := 0) B dX7_goes_8 (by decide) ?_
  refine a_callV1r B rfl cf_X7_finds lk_X7_109 in_X7_finds se_X7_finds (wl_rc (p0 := 0) (by decide) rfl rfl rfl) (m_finds 0 (by decide) _) dX7_goes_9 (Nat.le_of_ble_eq_true rfl) ⟨Nat.le_of_ble_eq_true rfl, Nat.le_of_ble_eq_true rfl⟩ ⟨rfl, rfl⟩ ?_
  exact a_iret B hr hlk dX7_goes_12 (rR_r0 (k := 0) (by unfold goeX; rw [c4]; rfl) rfl rfl)
set_option maxRecDepth 20000 in
theorem m_dies (p : Int32) (M : Mem) (hI : Inv (M 0)) : CR l sk D cy A X mX7_dies 4 [.ref (A 0), .int p] M (rR (dieX (M 0) p).1 (stB M 0 (dieX (M 0) p).2) M) := by
  refine Con.of (lo := [some (.ref (A 0)), some (.int p), none]) cf_X7_dies (fun _ _ => wl_fst) 1 rfl (Nat.le_of_ble_eq_true rfl) (fun Pp Ee Ss Mm Aa Bb Me Cc A0 B hr hlk => ?_)
  have B : BS sk D cy (wl A cy 11 TM X) A0 Pp Ss Mm Aa Cc RX7 cX7_dies 3 := B
  obtain ⟨N, hN, eN, eNo⟩ := hI.n
  rcases at_cases hI p with ⟨q, hqn, hq8, hvq, hip, hlt⟩ | ⟨hn, hip⟩
  · subst hvq
    refine a_aload_n B dX7_dies_0 rfl ?_
    refine a_iload_n B dX7_dies_1 rfl ?_
    refine a_callV1r B rfl cf_X7_isPriest lk_X7_123 in_X7_isPriest se_X7_isPriest (wl_rc (p0 := 0) (by decide) rfl rfl rfl) (m_isPriest _ _ hI) dX7_dies_2 (Nat.le_of_ble_eq_true rfl) ⟨Nat.le_of_ble_eq_true rfl, Nat.le_of_ble_eq_true rfl⟩ ⟨rfl, rfl⟩ ?_
    refine a_if_ne 14 B dX7_dies_5 (by decide) (fun c5 => ?_) (fun c5 => ?_)
    · refine a_aload_n B dX7_dies_14 rfl ?_
      refine a_iconst (v := (-1)) B dX7_dies_15 (by decide) ?_
      refine a_iload_n B dX7_dies_16 rfl ?_
      refine a_callV2r B rfl cf_X7_roomiest lk_X7_72 in_X7_roomiest se_X7_roomiest (wl_rc (p0 := 0) (by decide) rfl rfl rfl) (m_roomiest _ _ _ hI) dX7_dies_17 (Nat.le_of_ble_eq_true rfl) ⟨Nat.le_of_ble_eq_true rfl, Nat.le_of_ble_eq_true rfl⟩ ⟨rfl, rfl⟩ ?_
      rw [ro_ne (by decide) hq8 _ (by omega)]
      refine p_istore2 B dX7_dies_20 (by decide) (k := ?_)
      rcases hb : bestF (M 0) (neB q) (nOf (M 0)) with _ | b
      · rw [oI_n]
        refine a_iload_n B dX7_dies_21 rfl ?_
        refine a_if_ge 31 B dX7_dies_22 (by decide) (fun c22 => ?_) (fun c22 => ?_)
        · exact absurd c22 (by decide)
        refine a_aload_n B dX7_dies_25 rfl ?_
        refine a_iconst (v := 3) B dX7_dies_26 (by decide) ?_
        refine a_callV1r B rfl cf_X7_finds lk_X7_109 in_X7_finds se_X7_finds (wl_rc (p0 := 0) (by decide) rfl rfl rfl) (m_finds 3 (by decide) _) dX7_dies_27 (Nat.le_of_ble_eq_true rfl) ⟨Nat.le_of_ble_eq_true rfl, Nat.le_of_ble_eq_true rfl⟩ ⟨rfl, rfl⟩ ?_
        exact a_iret B hr hlk dX7_dies_30 (rR_r0 (k := 3) (by unfold dieX; rw [hip, if_pos rfl, nn_nI (show q < 2 ^ 31 by omega), hb]; rfl) rfl rfl)
      · have hbb := best_lt _ _ _ _ hb
        rw [oI_s]
        refine a_iload_n B dX7_dies_21 rfl ?_
        refine a_if_ge 31 B dX7_dies_22 (by decide) (fun c22 => ?_) (fun c22 => ?_)
        · refine a_aload_n B dX7_dies_31 rfl ?_
          refine a_iload_n B dX7_dies_32 rfl ?_
          refine a_iconst (v := 3) B dX7_dies_33 (by decide) ?_
          refine a_aload_n B dX7_dies_34 rfl ?_
          refine a_iload_n B dX7_dies_35 rfl ?_
          refine a_iconst (v := 3) B dX7_dies_36 (by decide) ?_
          refine a_callV2r B rfl cf_X7_its lk_X7_54 in_X7_its se_X7_its (wl_rc (p0 := 0) (by decide) rfl rfl rfl) (m_its b 3 (36 + b) (by omega) (by decide) (by omega) _) dX7_dies_37 (Nat.le_of_ble_eq_true rfl) ⟨Nat.le_of_ble_eq_true rfl, Nat.le_of_ble_eq_true rfl⟩ ⟨rfl, rfl⟩ ?_
          refine a_aload_n B dX7_dies_40 rfl ?_
          refine a_iload_n B dX7_dies_41 rfl ?_
          refine a_iconst (v := 3) B dX7_dies_42 (by decide) ?_
          refine a_callV2r B rfl cf_X7_its lk_X7_54 in_X7_its se_X7_its (wl_rc (p0 := 0) (by decide) rfl rfl rfl) (m_its q 3 (36 + q) (by omega) (by decide) (by omega) _) dX7_dies_43 (Nat.le_of_ble_eq_true rfl) ⟨Nat.le_of_ble_eq_true rfl, Nat.le_of_ble_eq_true rfl⟩ ⟨rfl, rfl⟩ ?_
          refine a_ior B dX7_dies_46 ?_
          refine a_callV3v B rfl cf_X7_sets lk_X7_79 in_X7_sets se_X7_sets (wl_rc (p0 := 0) (by decide) rfl rfl rfl) (m_sets b 3 (36 + b) (by omega) (by decide) (by omega) _ _) dX7_dies_47 (Nat.le_of_ble_eq_true rfl) ⟨Nat.le_of_ble_eq_true rfl, Nat.le_of_ble_eq_true rfl⟩ ⟨rfl, rfl⟩ ?_
          simp only [stB_at, stB_st]
          refine a_aload_n B dX7_dies_50 rfl ?_
          refine a_iload_n B dX7_dies_51 rfl ?_
          refine a_iconst (v := 3) B dX7_dies_52 (by decide) ?_
          refine a_iconst (v := 0) B dX7_dies_53 (by decide) ?_
          refine a_callV3v B rfl cf_X7_sets lk_X7_79 in_X7_sets se_X7_sets (wl_rc (p0 := 0) (by decide) rfl rfl rfl) (m_sets q 3 (36 + q) (by omega) (by decide) (by omega) _ _) dX7_dies_54 (Nat.le_of_ble_eq_true rfl) ⟨Nat.le_of_ble_eq_true rfl, Nat.le_of_ble_eq_true rfl⟩ ⟨rfl, rfl⟩ ?_
          simp only [stB_at, stB_st]
          refine a_aload_n B dX7_dies_57 rfl ?_
          refine a_iload_n B dX7_dies_58 rfl ?_
          refine a_iconst (v := 1) B dX7_dies_59 (by decide) ?_
          refine a_iconst (v := 0) B dX7_dies_60 (by decide) ?_
          refine a_callV3v B rfl cf_X7_sets lk_X7_79 in_X7_sets se_X7_sets (wl_rc (p0 := 0) (by decide) rfl rfl rfl) (m_sets q 1 (20 + q) (by omega) (by decide) (by omega) _ _) dX7_dies_61 (Nat.le_of_ble_eq_true rfl) ⟨Nat.le_of_ble_eq_true rfl, Nat.le_of_ble_eq_true rfl⟩ ⟨rfl, rfl⟩ ?_
          simp only [stB_at, stB_st]
          refine a_aload_n B dX7_dies_64 rfl ?_
          refine a_iload_n B dX7_dies_65 rfl ?_
          refine a_iconst (v := 2) B dX7_dies_66 (by decide) ?_
          refine a_iconst (v := 0) B dX7_dies_67 (by decide) ?_
          refine a_callV3v B rfl cf_X7_sets lk_X7_79 in_X7_sets se_X7_sets (wl_rc (p0 := 0) (by decide) rfl rfl rfl) (m_sets q 2 (28 + q) (by omega) (by decide) (by omega) _ _) dX7_dies_68 (Nat.le_of_ble_eq_true rfl) ⟨Nat.le_of_ble_eq_true rfl, Nat.le_of_ble_eq_true rfl⟩ ⟨rfl, rfl⟩ ?_
          simp only [stB_at, stB_st]
          refine a_iload_n B dX7_dies_71 rfl ?_
          exact a_iret B hr hlk dX7_dies_72 (rR_l0 (by unfold dieX; rw [hip, if_pos rfl, nn_nI (show q < 2 ^ 31 by omega), hb]; rfl) (by unfold dieX; rw [hip, if_pos rfl, nn_nI (show q < 2 ^ 31 by omega)]; unfold buryD; rw [hb]))
        exact absurd (nI_pos' (by omega)) c22
    exact absurd (show isP (M 0) (nI q) = false from bI_eq0.mp c5) (by rw [hip]; decide)
  · refine a_aload_n B dX7_dies_0 rfl ?_
    refine a_iload_n B dX7_dies_1 rfl ?_
    refine a_callV1r B rfl cf_X7_isPriest lk_X7_123 in_X7_isPriest se_X7_isPriest (wl_rc (p0 := 0) (by decide) rfl rfl rfl) (m_isPriest _ _ hI) dX7_dies_2 (Nat.le_of_ble_eq_true rfl) ⟨Nat.le_of_ble_eq_true rfl, Nat.le_of_ble_eq_true rfl⟩ ⟨rfl, rfl⟩ ?_
    refine a_if_ne 14 B dX7_dies_5 (by decide) (fun c5 => ?_) (fun c5 => ?_)
    · exact absurd (show isP (M 0) p = true from bI_ne0.mp c5) (by rw [hip]; decide)
    refine a_aload_n B dX7_dies_8 rfl ?_
    refine a_iconst (v := 0) B dX7_dies_9 (by decide) ?_
    refine a_callV1r B rfl cf_X7_finds lk_X7_109 in_X7_finds se_X7_finds (wl_rc (p0 := 0) (by decide) rfl rfl rfl) (m_finds 0 (by decide) _) dX7_dies_10 (Nat.le_of_ble_eq_true rfl) ⟨Nat.le_of_ble_eq_true rfl, Nat.le_of_ble_eq_true rfl⟩ ⟨rfl, rfl⟩ ?_
    exact a_iret B hr hlk dX7_dies_13 (rR_r0 (k := 0) (by unfold dieX; rw [hip]; rfl) rfl rfl)
set_option maxRecDepth 20000 in
theorem m_go (n1 : Int32) (M : Mem) (hI : Inv (M 0)) : CR l sk D cy A X mX7_go 7 [.ref (A 0), .int n1] M (rR (goX (M 0) n1).1 (stB M 0 (goX (M 0) n1).2) M) := by
  refine Con.of (lo := [some (.ref (A 0)), some (.int n1)]) cf_X7_go (fun _ _ => wl_fst) 0 rfl (Nat.le_of_ble_eq_true rfl) (fun Pp Ee Ss Mm Aa Bb Me Cc A0 B hr hlk => ?_)
  have B : BS sk D cy (wl A cy 11 TM X) A0 Pp Ss Mm Aa Cc RX7 cX7_go 2 := B
  refine a_iload_n B dX7_go_0 rfl ?_
  refine a_i2l B dX7_go_1 ?_
  refine a_lconst (v := 1) B dX7_go_2 (by decide) ?_
  refine a_ldc2 B dX7_go_3 kl_X7_132 ?_
  refine a_callS3r B rfl cf_X7_in lk_X7_42 st_X7_in (m_in n1 1 60 _ _ (by first | rfl | decide) (by first | rfl | decide) _) dX7_go_6 (Nat.le_of_ble_eq_true rfl) ⟨Nat.le_of_ble_eq_true rfl, Nat.le_of_ble_eq_true rfl⟩ ⟨rfl, rfl⟩ ?_
  refine a_if_ne 18 B dX7_go_9 (by decide) (fun c9 => ?_) (fun c9 => ?_)
  · have c9 := bI_ne0.mp c9
    have hlo : ¬ n1 < 1 := by intro q9; unfold bt at c9; rw [decide_eq_true q9] at c9; cases c9
    have hhi : ¬ 60 < n1 := by intro q9; unfold bt at c9; rw [decide_eq_true q9, Bool.not_true, Bool.and_false] at c9; cases c9
    obtain ⟨t, ht0, hte⟩ := nI_of (fun q9 : n1 < 0 => hlo (Int32.lt_trans q9 (by decide)))
    subst hte
    have ht : t ≤ 60 := Nat.le_of_not_lt (fun q9 => hhi (nI_lt (a := 60) q9 ht0))
    refine a_aload_n B dX7_go_18 rfl ?_
    refine a_getR B fl_X7_7 (by decide) rfl rfl dX7_go_19 ?_
    refine a_iconst (v := 1) B dX7_go_22 (by decide) ?_
    refine a_iald 1 B (by decide) rfl rfl (by omega) (by decide) dX7_go_23 ?_
    refine a_iload_n B dX7_go_24 rfl ?_
    refine a_iadd B dX7_go_25 ?_
    refine a_ldc B dX7_go_26 kc_X7_75 ?_
    refine a_icmp_le 37 B dX7_go_28 (by decide) (fun c28 => ?_) (fun c28 => ?_)
    · have c28x : ¬ 99999 < M 0 1 + nI t := Int32.not_lt.mpr c28
      refine a_aload_n B dX7_go_37 rfl ?_
      refine a_iload_n B dX7_go_38 rfl ?_
      refine a_callV1v B rfl cf_X7_daysGo lk_X7_134 in_X7_daysGo se_X7_daysGo (wl_rc (p0 := 0) (by decide) rfl rfl rfl) (m_daysGo t (by omega) _ hI) dX7_go_39 (Nat.le_of_ble_eq_true rfl) ⟨Nat.le_of_ble_eq_true rfl, Nat.le_of_ble_eq_true rfl⟩ ⟨rfl, rfl⟩ ?_
      refine a_aload_n B dX7_go_42 rfl ?_
      refine a_getR B fl_X7_7 (by decide) rfl rfl dX7_go_43 ?_
      refine a_iconst (v := 4) B dX7_go_46 (by decide) ?_
      refine a_iald 4 B (by decide) rfl rfl (by omega) (by decide) dX7_go_47 ?_
      exact a_iret B hr hlk dX7_go_48 (rR_l0 (by unfold goX; rw [if_neg hlo, if_neg hhi, if_neg c28x, nn_nI ht0, stB_at]) (by unfold goX; rw [if_neg hlo, if_neg hhi, if_neg c28x, nn_nI ht0]))
    have c28x : 99999 < M 0 1 + nI t := Int32.not_le.mp c28
    refine a_aload_n B dX7_go_31 rfl ?_
    refine a_iconst (v := 4) B dX7_go_32 (by decide) ?_
    refine a_callV1r B rfl cf_X7_finds lk_X7_109 in_X7_finds se_X7_finds (wl_rc (p0 := 0) (by decide) rfl rfl rfl) (m_finds 4 (by decide) _) dX7_go_33 (Nat.le_of_ble_eq_true rfl) ⟨Nat.le_of_ble_eq_true rfl, Nat.le_of_ble_eq_true rfl⟩ ⟨rfl, rfl⟩ ?_
    exact a_iret B hr hlk dX7_go_36 (rR_r0 (k := 4) (by unfold goX; rw [if_neg hlo, if_neg hhi, if_pos c28x]) rfl rfl)
  have c9 := bI_eq0.mp c9
  refine a_aload_n B dX7_go_12 rfl ?_
  refine a_iconst (v := 0) B dX7_go_13 (by decide) ?_
  refine a_callV1r B rfl cf_X7_finds lk_X7_109 in_X7_finds se_X7_finds (wl_rc (p0 := 0) (by decide) rfl rfl rfl) (m_finds 0 (by decide) _) dX7_go_14 (Nat.le_of_ble_eq_true rfl) ⟨Nat.le_of_ble_eq_true rfl, Nat.le_of_ble_eq_true rfl⟩ ⟨rfl, rfl⟩ ?_
  have hX : goX (M 0) n1 = (.inr 0, M 0) := by
    unfold goX
    by_cases h1 : n1 < 1
    · rw [if_pos h1]
    · rw [if_neg h1]
      by_cases h2 : 60 < n1
      · rw [if_pos h2]
      · exfalso; unfold bt at c9; rw [decide_eq_false h1, decide_eq_false h2] at c9; cases c9
  exact a_iret B hr hlk dX7_go_17 (rR_r0 (k := 0) (by rw [hX]) rfl rfl)
set_option maxRecDepth 20000 in
set_option maxHeartbeats 4000000 in
theorem m_fullest (M : Mem) (hI : Inv (M 0)) : CR l sk D cy A X mX7_fullest 1 [.ref (A 0)] M (rI (oI (fullO (M 0) (nOf (M 0)))) M) := by
  refine Con.of (lo := [some (.ref (A 0)), none, none]) cf_X7_fullest (fun _ _ => wl_fst) 2 rfl (Nat.le_of_ble_eq_true rfl) (fun Pp Ee Ss Mm Aa Bb Me Cc A0 B hr hlk => ?_)
  have B : BS sk D cy (wl A cy 11 TM X) A0 Pp Ss Mm Aa Cc RX7 cX7_fullest 3 := B
  obtain ⟨N, hN, eN, eNo⟩ := hI.n
  have loop : ∀ n k v, N + 1 ≤ k + n → k ≤ N → v = oI (fullO (M 0) k) → AW Pp l Ee (rmK 1 (34 * 1)) Ss Mm Aa Bb Me Cc D (wl A cy 11 TM X) A0 3 0 0 (MQ Bb (QG D (wl A cy 11 TM X) A0 (rI (oI (fullO (M 0) (nOf (M 0)))) M)) Aa Ss 0 0 A0) 4 [some (.ref (A 0)), some (.int v), some (.int (nI k))] [] (M) := by
    intro n
    induction n with
    | zero => intro k v h1 h2; omega
    | succ n ih =>
      intro k v h1 h2 h3
      refine a_iload_n B dX7_fullest_4 rfl ?_
      refine a_aload_n B dX7_fullest_5 rfl ?_
      refine a_getR B fl_X7_7 (by decide) rfl rfl dX7_fullest_6 ?_
      refine a_iconst (v := 0) B dX7_fullest_9 (by decide) ?_
      refine a_iald 0 B (by decide) rfl rfl (by omega) (by decide) dX7_fullest_10 ?_
      rw [show M 0 (0 + 0) = nI N from eN]
      refine a_icmp_ge 45 B dX7_fullest_11 (by decide) (fun c11 => ?_) (fun c11 => ?_)
      · have e1 : k = N := by have := ge_n (b := N) c11 rfl rfl (by omega) (by omega); omega
        subst e1
        refine a_iload_n B dX7_fullest_45 rfl ?_
        exact a_iret B hr hlk dX7_fullest_46 ⟨by rw [h3, eNo], rfl⟩
      have hlt0 := lt_n (b := N) c11 rfl rfl (by omega) (by omega)
      rcases hb : fullO (M 0) k with _ | b
      · have hv : v = -1 := by rw [h3, hb]; rfl
        subst hv
        refine a_iload_n B dX7_fullest_14 rfl ?_
        refine a_if_lt 33 B dX7_fullest_15 (by decide) (fun c15 => ?_) (fun c15 => ?_)
        · refine a_iload_n B dX7_fullest_33 rfl ?_
          refine a_goto 38 B dX7_fullest_34 (by decide) ?_
          refine p_istore1 B dX7_fullest_38 (by decide) (k := ?_)
          refine p_iinc2 1 B dX7_fullest_39 (by decide) (by decide) (k := ?_)
          refine a_goto 4 B dX7_fullest_42 (by decide) ?_
          rw [nI_1]
          exact ih (k + 1) _ (by omega) (by omega) (by rw [ful_0 hb]; rfl)
        exact absurd (show (-1 : Int32) < 0 by decide) c15
      · have hbk := ful_lt _ _ hb
        have hv : v = nI b := by rw [h3, hb]; rfl
        subst hv
        refine a_iload_n B dX7_fullest_14 rfl ?_
        refine a_if_lt 33 B dX7_fullest_15 (by decide) (fun c15 => ?_) (fun c15 => ?_)
        · exact absurd c15 (nI_pos (by omega))
        refine a_aload_n B dX7_fullest_18 rfl ?_
        refine a_iload_n B dX7_fullest_19 rfl ?_
        refine a_iconst (v := 1) B dX7_fullest_20 (by decide) ?_
        refine a_callV2r B rfl cf_X7_its lk_X7_54 in_X7_its se_X7_its (wl_rc (p0 := 0) (by decide) rfl rfl rfl) (m_its k 1 (20 + k) (by omega) (by decide) (by omega) _) dX7_fullest_21 (Nat.le_of_ble_eq_true rfl) ⟨Nat.le_of_ble_eq_true rfl, Nat.le_of_ble_eq_true rfl⟩ ⟨rfl, rfl⟩ ?_
        refine a_aload_n B dX7_fullest_24 rfl ?_
        refine a_iload_n B dX7_fullest_25 rfl ?_
        refine a_iconst (v := 1) B dX7_fullest_26 (by decide) ?_
        refine a_callV2r B rfl cf_X7_its lk_X7_54 in_X7_its se_X7_its (wl_rc (p0 := 0) (by decide) rfl rfl rfl) (m_its b 1 (20 + b) (by omega) (by decide) (by omega) _) dX7_fullest_27 (Nat.le_of_ble_eq_true rfl) ⟨Nat.le_of_ble_eq_true rfl, Nat.le_of_ble_eq_true rfl⟩ ⟨rfl, rfl⟩ ?_
        refine a_icmp_le 37 B dX7_fullest_30 (by decide) (fun c30 => ?_) (fun c30 => ?_)
        · refine a_iload_n B dX7_fullest_37 rfl ?_
          refine p_istore1 B dX7_fullest_38 (by decide) (k := ?_)
          refine p_iinc2 1 B dX7_fullest_39 (by decide) (by decide) (k := ?_)
          refine a_goto 4 B dX7_fullest_42 (by decide) ?_
          rw [nI_1]
          exact ih (k + 1) _ (by omega) (by omega) (by rw [ful_s hb, if_neg (Int32.not_lt.mpr c30)]; rfl)
        refine a_iload_n B dX7_fullest_33 rfl ?_
        refine a_goto 38 B dX7_fullest_34 (by decide) ?_
        refine p_istore1 B dX7_fullest_38 (by decide) (k := ?_)
        refine p_iinc2 1 B dX7_fullest_39 (by decide) (by decide) (k := ?_)
        refine a_goto 4 B dX7_fullest_42 (by decide) ?_
        rw [nI_1]
        exact ih (k + 1) _ (by omega) (by omega) (by rw [ful_s hb, if_pos (Int32.not_le.mp c30)]; rfl)
  refine a_iconst (v := (-1)) B dX7_fullest_0 (by decide) ?_
  refine p_istore1 B dX7_fullest_1 (by decide) (k := ?_)
  refine a_iconst (v := 0) B dX7_fullest_2 (by decide) ?_
  refine p_istore2 B dX7_fullest_3 (by decide) (k := ?_)
  exact loop (N + 1) 0 _ (by omega) (by omega) rfl
set_option maxRecDepth 20000 in
theorem m_now (what : Int32) (M : Mem) (hI : Inv (M 0)) : CR l sk D cy A X mX7_now 2 [.ref (A 0), .int what] M (rR (nowX (M 0) what) M M) := by
  refine Con.of (lo := [some (.ref (A 0)), some (.int what)]) cf_X7_now (fun _ _ => wl_fst) 0 rfl (Nat.le_of_ble_eq_true rfl) (fun Pp Ee Ss Mm Aa Bb Me Cc A0 B hr hlk => ?_)
  have B : BS sk D cy (wl A cy 11 TM X) A0 Pp Ss Mm Aa Cc RX7 cX7_now 2 := B
  refine a_iload_n B dX7_now_0 rfl ?_
  by_cases s1_0 : what = 0
  · refine a_tblIn 48 B dX7_now_1 (by rw [s1_0]; decide) (by rw [s1_0]; decide) (by rw [s1_0]; rfl) (by decide) ?_
    refine a_aload_n B dX7_now_48 rfl ?_
    refine a_getR B fl_X7_7 (by decide) rfl rfl dX7_now_49 ?_
    refine a_iconst (v := 1) B dX7_now_52 (by decide) ?_
    refine a_iald 1 B (by decide) rfl rfl (by omega) (by decide) dX7_now_53 ?_
    exact a_iret B hr hlk dX7_now_54 (rR_l0 (by simp [nowX, s1_0]) (rfl))
  by_cases s1_1 : what = 1
  · refine a_tblIn 55 B dX7_now_1 (by rw [s1_1]; decide) (by rw [s1_1]; decide) (by rw [s1_1]; rfl) (by decide) ?_
    refine a_aload_n B dX7_now_55 rfl ?_
    refine a_getR B fl_X7_7 (by decide) rfl rfl dX7_now_56 ?_
    refine a_iconst (v := 4) B dX7_now_59 (by decide) ?_
    refine a_iald 4 B (by decide) rfl rfl (by omega) (by decide) dX7_now_60 ?_
    exact a_iret B hr hlk dX7_now_61 (rR_l0 (by simp [nowX, s1_0, s1_1]) (rfl))
  by_cases s1_2 : what = 2
  · refine a_tblIn 62 B dX7_now_1 (by rw [s1_2]; decide) (by rw [s1_2]; decide) (by rw [s1_2]; rfl) (by decide) ?_
    refine a_aload_n B dX7_now_62 rfl ?_
    refine a_getR B fl_X7_7 (by decide) rfl rfl dX7_now_63 ?_
    refine a_iconst (v := 5) B dX7_now_66 (by decide) ?_
    refine a_iald 5 B (by decide) rfl rfl (by omega) (by decide) dX7_now_67 ?_
    exact a_iret B hr hlk dX7_now_68 (rR_l0 (by simp [nowX, s1_0, s1_1, s1_2]) (rfl))
  by_cases s1_3 : what = 3
  · refine a_tblIn 69 B dX7_now_1 (by rw [s1_3]; decide) (by rw [s1_3]; decide) (by rw [s1_3]; rfl) (by decide) ?_
    refine a_aload_n B dX7_now_69 rfl ?_
    refine a_iconst (v := 3) B dX7_now_70 (by decide) ?_
    refine a_callV1r B rfl cf_X7_together lk_X7_137 in_X7_together se_X7_together (wl_rc (p0 := 0) (by decide) rfl rfl rfl) (m_together 3 (by decide) _ hI) dX7_now_71 (Nat.le_of_ble_eq_true rfl) ⟨Nat.le_of_ble_eq_true rfl, Nat.le_of_ble_eq_true rfl⟩ ⟨rfl, rfl⟩ ?_
    exact a_iret B hr hlk dX7_now_74 (rR_l0 (by rw [← tog_its (w := 3) (by decide)]; simp [nowX, s1_0, s1_1, s1_2, s1_3]; try rfl) (rfl))
  by_cases s1_4 : what = 4
  · refine a_tblIn 75 B dX7_now_1 (by rw [s1_4]; decide) (by rw [s1_4]; decide) (by rw [s1_4]; rfl) (by decide) ?_
    refine a_aload_n B dX7_now_75 rfl ?_
    refine a_iconst (v := 1) B dX7_now_76 (by decide) ?_
    refine a_callV1r B rfl cf_X7_sumOf lk_X7_140 in_X7_sumOf se_X7_sumOf (wl_rc (p0 := 0) (by decide) rfl rfl rfl) (m_sumOf 1 (by decide) _ hI) dX7_now_77 (Nat.le_of_ble_eq_true rfl) ⟨Nat.le_of_ble_eq_true rfl, Nat.le_of_ble_eq_true rfl⟩ ⟨rfl, rfl⟩ ?_
    exact a_iret B hr hlk dX7_now_80 (rR_l0 (by rw [← sum_its (w := 1) (by decide)]; simp [nowX, s1_0, s1_1, s1_2, s1_3, s1_4]; try rfl) (rfl))
  by_cases s1_5 : what = 5
  · refine a_tblIn 81 B dX7_now_1 (by rw [s1_5]; decide) (by rw [s1_5]; decide) (by rw [s1_5]; rfl) (by decide) ?_
    refine a_aload_n B dX7_now_81 rfl ?_
    refine a_callV0r B rfl cf_X7_fullest lk_X7_143 in_X7_fullest se_X7_fullest (wl_rc (p0 := 0) (by decide) rfl rfl rfl) (m_fullest _ hI) dX7_now_82 (Nat.le_of_ble_eq_true rfl) ⟨Nat.le_of_ble_eq_true rfl, Nat.le_of_ble_eq_true rfl⟩ ⟨rfl, rfl⟩ ?_
    exact a_iret B hr hlk dX7_now_85 (rR_l0 (by simp [nowX, s1_0, s1_1, s1_2, s1_3, s1_4, s1_5]) (rfl))
  by_cases s1_6 : what = 6
  · refine a_tblIn 86 B dX7_now_1 (by rw [s1_6]; decide) (by rw [s1_6]; decide) (by rw [s1_6]; rfl) (by decide) ?_
    refine a_aload_n B dX7_now_86 rfl ?_
    refine a_iconst (v := 5) B dX7_now_87 (by decide) ?_
    refine a_callV1r B rfl cf_X7_sumOf lk_X7_140 in_X7_sumOf se_X7_sumOf (wl_rc (p0 := 0) (by decide) rfl rfl rfl) (m_sumOf 5 (by decide) _ hI) dX7_now_88 (Nat.le_of_ble_eq_true rfl) ⟨Nat.le_of_ble_eq_true rfl, Nat.le_of_ble_eq_true rfl⟩ ⟨rfl, rfl⟩ ?_
    exact a_iret B hr hlk dX7_now_91 (rR_l0 (by rw [← sum_its (w := 5) (by decide)]; simp [nowX, s1_0, s1_1, s1_2, s1_3, s1_4, s1_5, s1_6]; try rfl) (rfl))
  by_cases s1_7 : what = 7
  · refine a_tblIn 92 B dX7_now_1 (by rw [s1_7]; decide) (by rw [s1_7]; decide) (by rw [s1_7]; rfl) (by decide) ?_
    refine a_sipush (v := 255) B dX7_now_92 (by decide) ?_
    refine a_aload_n B dX7_now_95 rfl ?_
    refine a_iconst (v := 2) B dX7_now_96 (by decide) ?_
    refine a_callV1r B rfl cf_X7_together lk_X7_137 in_X7_together se_X7_together (wl_rc (p0 := 0) (by decide) rfl rfl rfl) (m_together 2 (by decide) _ hI) dX7_now_97 (Nat.le_of_ble_eq_true rfl) ⟨Nat.le_of_ble_eq_true rfl, Nat.le_of_ble_eq_true rfl⟩ ⟨rfl, rfl⟩ ?_
    refine a_iconst (v := (-1)) B dX7_now_100 (by decide) ?_
    refine a_ixor B dX7_now_101 ?_
    refine a_iand B dX7_now_102 ?_
    exact a_iret B hr hlk dX7_now_103 (rR_l0 (by rw [← tog_its (w := 2) (by decide)]; simp [nowX, s1_0, s1_1, s1_2, s1_3, s1_4, s1_5, s1_6, s1_7]; try rfl) (rfl))
  refine a_tblOut 104 B dX7_now_1 (by have h0 := lv_neT s1_0 (show (0 : Int32).toInt = 0 by decide); have h1 := lv_neT s1_1 (show (1 : Int32).toInt = 1 by decide); have h2 := lv_neT s1_2 (show (2 : Int32).toInt = 2 by decide); have h3 := lv_neT s1_3 (show (3 : Int32).toInt = 3 by decide); have h4 := lv_neT s1_4 (show (4 : Int32).toInt = 4 by decide); have h5 := lv_neT s1_5 (show (5 : Int32).toInt = 5 by decide); have h6 := lv_neT s1_6 (show (6 : Int32).toInt = 6 by decide); have h7 := lv_neT s1_7 (show (7 : Int32).toInt = 7 by decide); omega) (by decide) ?_
  refine a_aload_n B dX7_now_104 rfl ?_
  refine a_iconst (v := 0) B dX7_now_105 (by decide) ?_
  refine a_callV1r B rfl cf_X7_finds lk_X7_109 in_X7_finds se_X7_finds (wl_rc (p0 := 0) (by decide) rfl rfl rfl) (m_finds 0 (by decide) _) dX7_now_106 (Nat.le_of_ble_eq_true rfl) ⟨Nat.le_of_ble_eq_true rfl, Nat.le_of_ble_eq_true rfl⟩ ⟨rfl, rfl⟩ ?_
  exact a_iret B hr hlk dX7_now_109 (rR_r0 (k := 0) (by simp [nowX, s1_0, s1_1, s1_2, s1_3, s1_4, s1_5, s1_6, s1_7]) rfl rfl)
end R5
