section R8

theorem sum5 {d : Dm} {n : Nat} : sumT d 5 n = sumF d 5 n := sum_its (w := 5) (by decide) n
theorem am_lt {f : Nat → Int32} {l : Int32} {k : Nat} (h : f k < (amin f l k).2) : amin f l (k + 1) = (nI k, f k) := by rw [amin, if_pos h]
theorem am_ge {f : Nat → Int32} {l : Int32} {k : Nat} (h : ¬ f k < (amin f l k).2) : amin f l (k + 1) = amin f l k := by rw [amin, if_neg h]
theorem am_two {f : Nat → Int32} {a b : Int32} (ha : f 0 < a) (hb : f 0 < b) : ∀ k, amin f a (k + 1) = amin f b (k + 1) := by
  intro k
  induction k with
  | zero =>
    show (if f 0 < a then (nI 0, f 0) else (0, a)) = (if f 0 < b then (nI 0, f 0) else (0, b))
    rw [if_pos ha, if_pos hb]
  | succ k ih => rw [amin, ih, ← amin]
def kiX2 (d : Dm) (p n : Int32) : Oc := if isP d p && wi n 60 then .inl (amin (kinV d (nn p) (nn n)) 99999999 7).1 else .inr 0

variable {l : Launch} {sk : (Nat → Nat) × (Nat → Nat)} {D : va_G} {cy : Nat → ClassId} {A : Nat → Nat} {X : va_W}
set_option maxRecDepth 20000 in
theorem m_wordsFor (i n1 : Int32) (M : Mem) (hI : Inv (M 0)) : CR l sk D cy A X mX7_wordsFor 8 [.ref (A 0), .int i, .int n1] M (rR (worX (M 0) i n1) M M) := by
  refine Con.of (lo := [some (.ref (A 0)), some (.int i), some (.int n1), none, none]) cf_X7_wordsFor (fun _ _ => wl_fst) 2 rfl (Nat.le_of_ble_eq_true rfl) (fun Pp Ee Ss Mm Aa Bb Me Cc A0 B hr hlk => ?_)
  have B : BS sk D cy (wl A cy 11 TM X) A0 Pp Ss Mm Aa Cc RX7 cX7_wordsFor 5 := B
  refine a_iload_n B dX7_wordsFor_0 rfl ?_
  refine a_callS1r B rfl cf_X7_isPlace lk_X7_112 st_X7_isPlace (m_isPlace _ _) dX7_wordsFor_1 (Nat.le_of_ble_eq_true rfl) ⟨Nat.le_of_ble_eq_true rfl, Nat.le_of_ble_eq_true rfl⟩ ⟨rfl, rfl⟩ ?_
  refine a_if_eq 14 B dX7_wordsFor_4 (by decide) (fun c4 => ?_) (fun c4 => ?_)
  · have c4 := bI_eq0.mp c4
    refine a_aload_n B dX7_wordsFor_14 rfl ?_
    refine a_iconst (v := 0) B dX7_wordsFor_15 (by decide) ?_
    refine a_callV1r B rfl cf_X7_finds lk_X7_109 in_X7_finds se_X7_finds (wl_rc (p0 := 0) (by decide) rfl rfl rfl) (m_finds 0 (by decide) _) dX7_wordsFor_16 (Nat.le_of_ble_eq_true rfl) ⟨Nat.le_of_ble_eq_true rfl, Nat.le_of_ble_eq_true rfl⟩ ⟨rfl, rfl⟩ ?_
    exact a_iret B hr hlk dX7_wordsFor_19 (rR_r0 (k := 0) (by unfold worX; rw [show wi i 5 = false from c4]; rfl) rfl rfl)
  have c4 := bI_ne0.mp c4
  obtain ⟨j, hjt, hje⟩ := wi_T (t := 5) c4 (by omega)
  subst hje
  refine a_iload_n B dX7_wordsFor_7 rfl ?_
  refine a_callS1r B rfl cf_X7_isShort lk_X7_159 st_X7_isShort (m_isShort _ _) dX7_wordsFor_8 (Nat.le_of_ble_eq_true rfl) ⟨Nat.le_of_ble_eq_true rfl, Nat.le_of_ble_eq_true rfl⟩ ⟨rfl, rfl⟩ ?_
  refine a_if_ne 20 B dX7_wordsFor_11 (by decide) (fun c11 => ?_) (fun c11 => ?_)
  · have c11 := bI_ne0.mp c11
    obtain ⟨t, htt, hte⟩ := wi_T (t := 60) c11 (by omega)
    subst hte
    refine a_aload_n B dX7_wordsFor_20 rfl ?_
    refine a_getR B fl_X7_7 (by decide) rfl rfl dX7_wordsFor_21 ?_
    refine a_aload_n B dX7_wordsFor_24 rfl ?_
    refine a_getR B fl_X7_16 (by decide) rfl rfl dX7_wordsFor_25 ?_
    refine a_callS2v B rfl cf_X7_copies lk_X7_146 st_X7_copies (m_aside M) dX7_wordsFor_28 (Nat.le_of_ble_eq_true rfl) ⟨Nat.le_of_ble_eq_true rfl, Nat.le_of_ble_eq_true rfl⟩ ⟨rfl, rfl⟩ ?_
    refine a_aload_n B dX7_wordsFor_31 rfl ?_
    refine a_getR B fl_X7_7 (by decide) rfl rfl dX7_wordsFor_32 ?_
    refine a_bipush (v := 6) B dX7_wordsFor_35 (by decide) ?_
    refine a_iload_n B dX7_wordsFor_37 rfl ?_
    refine a_iadd B dX7_wordsFor_38 ?_
    refine a_iald (6 + j) B (by decide) rfl (nI_add 6 j) (by omega) (by decide) dX7_wordsFor_39 ?_
    rw [show AM M (M 0) 0 (0 + (6 + j)) = M 0 (6 + j) from by rw [AM_0, Nat.zero_add]]
    refine a_bipush (v := 100) B dX7_wordsFor_40 (by decide) ?_
    refine a_idiv B dX7_wordsFor_42 (by decide) ?_
    refine p_istore3 B dX7_wordsFor_43 (by decide) (k := ?_)
    refine a_bipush (v := 40) B dX7_wordsFor_44 (by decide) ?_
    refine p_istore4 B dX7_wordsFor_46 (by decide) (k := ?_)
    have hj6 : j < 6 := by omega
    have loop : ∀ n k, 42 ≤ k + n → k ≤ 41 → fstN (worQ (M 0) j t) k = none → AW Pp l Ee (rmK 8 (34 * 8)) Ss Mm Aa Bb Me Cc D (wl A cy 11 TM X) A0 5 0 0 (MQ Bb (QG D (wl A cy 11 TM X) A0 (rR (worX (M 0) (nI j) (nI t)) M M)) Aa Ss 0 0 A0) 48 [some (.ref (A 0)), some (.int (nI j)), some (.int (nI t)), some (.int (M 0 (6 + j) / 100)), some (.int (wv k))] [] (AM M (M 0)) := by
      intro n
      induction n with
      | zero => intro k h1 h2; omega
      | succ n ih =>
        intro k h1 h2 h3
        refine a_iload B dX7_wordsFor_48 rfl ?_
        refine a_if_lt 91 B dX7_wordsFor_50 (by decide) (fun c50 => ?_) (fun c50 => ?_)
        · have e41 : k = 41 := (wv_neg k (by omega)).mp c50
          subst e41
          refine a_aload_n B dX7_wordsFor_91 rfl ?_
          refine a_iconst (v := 3) B dX7_wordsFor_92 (by decide) ?_
          refine a_callV1r B rfl cf_X7_finds lk_X7_109 in_X7_finds se_X7_finds (wl_rc (p0 := 0) (by decide) rfl rfl rfl) (m_finds 3 (by decide) _) dX7_wordsFor_93 (Nat.le_of_ble_eq_true rfl) ⟨Nat.le_of_ble_eq_true rfl, Nat.le_of_ble_eq_true rfl⟩ ⟨rfl, rfl⟩ ?_
          exact a_iret B hr hlk dX7_wordsFor_96 (rR_r (k := 3) (by unfold worX; rw [show wi (nI j) 5 = true from c4, show wi (nI t) 60 = true from c11, if_pos (show (true && true) = true from rfl), nn_nI (show j < 2 ^ 31 by omega), nn_nI (show t < 2 ^ 31 by omega), h3]; rfl) rfl AM_f)
        have hk40 : k ≤ 40 := by
          rcases Nat.lt_or_ge k 41 with h | h
          · omega
          · exact absurd ((wv_neg k (by omega)).mpr (by omega)) c50
        have hYw : ∀ x, 70 ≤ x → worD (M 0) j (40 - k) x = M 0 x := fun x hx => pk_un (by omega)
        refine a_aload_n B dX7_wordsFor_53 rfl ?_
        refine a_getR B fl_X7_7 (by decide) rfl rfl dX7_wordsFor_54 ?_
        refine a_bipush (v := 6) B dX7_wordsFor_57 (by decide) ?_
        refine a_iload_n B dX7_wordsFor_59 rfl ?_
        refine a_iadd B dX7_wordsFor_60 ?_
        refine a_bipush (v := 100) B dX7_wordsFor_61 (by decide) ?_
        refine a_iload_n B dX7_wordsFor_63 rfl ?_
        refine a_imul B dX7_wordsFor_64 ?_
        refine a_iload B dX7_wordsFor_65 rfl ?_
        refine a_iadd B dX7_wordsFor_67 ?_
        refine a_iast (6 + j) B twM (by decide) rfl (nI_add 6 j) (by omega) (by decide) dX7_wordsFor_68 ?_
        refine a_aload_n B dX7_wordsFor_69 rfl ?_
        refine a_iload_n B dX7_wordsFor_70 rfl ?_
        rw [AM_u, Nat.zero_add, wv_in hk40, show upd (M 0) (6 + j) (100 * (M 0 (6 + j) / 100) + nI (40 - k)) = worD (M 0) j (40 - k) from rfl]
        refine a_callV1r B rfl cf_X7_illBehind lk_X7_162 in_X7_illBehind se_X7_illBehind (wl_rc (p0 := 0) (by decide) rfl rfl rfl) (m_illBehind t (by omega) M _ (hI.wor (k := 40 - k) hj6 (by omega)) hYw) dX7_wordsFor_71 (Nat.le_of_ble_eq_true rfl) ⟨Nat.le_of_ble_eq_true rfl, Nat.le_of_ble_eq_true rfl⟩ ⟨rfl, rfl⟩ ?_
        rw [show nOf (worD (M 0) j (40 - k)) = nOf (M 0) from nOf_upd (by omega)]
        refine a_aload_n B dX7_wordsFor_74 rfl ?_
        refine a_iconst (v := 5) B dX7_wordsFor_75 (by decide) ?_
        refine a_callV1r B rfl cf_X7_sumOf lk_X7_140 in_X7_sumOf se_X7_sumOf (wl_rc (p0 := 0) (by decide) rfl rfl rfl) (m_sumOf 5 (by decide) _ (by rw [AM_0]; exact hI)) dX7_wordsFor_76 (Nat.le_of_ble_eq_true rfl) ⟨Nat.le_of_ble_eq_true rfl, Nat.le_of_ble_eq_true rfl⟩ ⟨rfl, rfl⟩ ?_
        rw [AM_0]
        refine a_icmp_ne 85 B dX7_wordsFor_79 (by decide) (fun c79 => ?_) (fun c79 => ?_)
        · have hq : worQ (M 0) j t k = false := by unfold worQ; rw [sum5, sum5]; exact decide_eq_false c79
          refine p_iinc4 (-1) B dX7_wordsFor_85 (by decide) (by decide) (k := ?_)
          refine a_goto 48 B dX7_wordsFor_88 (by decide) ?_
          rw [← wv_in hk40, wv_s k (by omega)]
          exact ih (k + 1) (by omega) (by omega) (fst_no h3 hq)
        have hq : worQ (M 0) j t k = true := by unfold worQ; rw [sum5, sum5]; exact decide_eq_true c79
        refine a_iload B dX7_wordsFor_82 rfl ?_
        exact a_iret B hr hlk dX7_wordsFor_84 (rR_l (by unfold worX; rw [show wi (nI j) 5 = true from c4, show wi (nI t) 60 = true from c11, if_pos (show (true && true) = true from rfl), nn_nI (show j < 2 ^ 31 by omega), nn_nI (show t < 2 ^ 31 by omega), fst_up (fst_yes h3 hq) 41 (by omega)]; rfl) AM_q)
    exact loop 42 0 (by omega) (by omega) rfl
  have c11 := bI_eq0.mp c11
  refine a_aload_n B dX7_wordsFor_14 rfl ?_
  refine a_iconst (v := 0) B dX7_wordsFor_15 (by decide) ?_
  refine a_callV1r B rfl cf_X7_finds lk_X7_109 in_X7_finds se_X7_finds (wl_rc (p0 := 0) (by decide) rfl rfl rfl) (m_finds 0 (by decide) _) dX7_wordsFor_16 (Nat.le_of_ble_eq_true rfl) ⟨Nat.le_of_ble_eq_true rfl, Nat.le_of_ble_eq_true rfl⟩ ⟨rfl, rfl⟩ ?_
  exact a_iret B hr hlk dX7_wordsFor_19 (rR_r0 (k := 0) (by unfold worX; rw [show wi n1 60 = false from c11, Bool.and_false]; rfl) rfl rfl)
set_option maxRecDepth 20000 in
theorem m_waterFor (n1 : Int32) (M : Mem) (hI : Inv (M 0)) : CR l sk D cy A X mX7_waterFor 8 [.ref (A 0), .int n1] M (rR (watX (M 0) n1) M M) := by
  refine Con.of (lo := [some (.ref (A 0)), some (.int n1), none]) cf_X7_waterFor (fun _ _ => wl_fst) 1 rfl (Nat.le_of_ble_eq_true rfl) (fun Pp Ee Ss Mm Aa Bb Me Cc A0 B hr hlk => ?_)
  have B : BS sk D cy (wl A cy 11 TM X) A0 Pp Ss Mm Aa Cc RX7 cX7_waterFor 3 := B
  refine a_iload_n B dX7_waterFor_0 rfl ?_
  refine a_callS1r B rfl cf_X7_isShort lk_X7_159 st_X7_isShort (m_isShort _ _) dX7_waterFor_1 (Nat.le_of_ble_eq_true rfl) ⟨Nat.le_of_ble_eq_true rfl, Nat.le_of_ble_eq_true rfl⟩ ⟨rfl, rfl⟩ ?_
  refine a_if_ne 13 B dX7_waterFor_4 (by decide) (fun c4 => ?_) (fun c4 => ?_)
  · have c4 := bI_ne0.mp c4
    obtain ⟨t, htt, hte⟩ := wi_T (t := 60) c4 (by omega)
    subst hte
    refine a_aload_n B dX7_waterFor_13 rfl ?_
    refine a_getR B fl_X7_7 (by decide) rfl rfl dX7_waterFor_14 ?_
    refine a_aload_n B dX7_waterFor_17 rfl ?_
    refine a_getR B fl_X7_16 (by decide) rfl rfl dX7_waterFor_18 ?_
    refine a_callS2v B rfl cf_X7_copies lk_X7_146 st_X7_copies (m_aside M) dX7_waterFor_21 (Nat.le_of_ble_eq_true rfl) ⟨Nat.le_of_ble_eq_true rfl, Nat.le_of_ble_eq_true rfl⟩ ⟨rfl, rfl⟩ ?_
    refine a_iconst (v := 0) B dX7_waterFor_24 (by decide) ?_
    refine p_istore2 B dX7_waterFor_25 (by decide) (k := ?_)
    have loop : ∀ n k, 11 ≤ k + n → k ≤ 10 → fstN (watQ (M 0) t) k = none → AW Pp l Ee (rmK 8 (34 * 8)) Ss Mm Aa Bb Me Cc D (wl A cy 11 TM X) A0 3 0 0 (MQ Bb (QG D (wl A cy 11 TM X) A0 (rR (watX (M 0) (nI t)) M M)) Aa Ss 0 0 A0) 26 [some (.ref (A 0)), some (.int (nI t)), some (.int (nI k))] [] (AM M (M 0)) := by
      intro n
      induction n with
      | zero => intro k h1 h2; omega
      | succ n ih =>
        intro k h1 h2 h3
        refine a_iload_n B dX7_waterFor_26 rfl ?_
        refine a_bipush (v := 10) B dX7_waterFor_27 (by decide) ?_
        refine a_icmp_ge 62 B dX7_waterFor_29 (by decide) (fun c29 => ?_) (fun c29 => ?_)
        · have e1 : k = 10 := by have := ge_n (b := 10) c29 rfl rfl (by omega) (by omega); omega
          subst e1
          refine a_aload_n B dX7_waterFor_62 rfl ?_
          refine a_iconst (v := 3) B dX7_waterFor_63 (by decide) ?_
          refine a_callV1r B rfl cf_X7_finds lk_X7_109 in_X7_finds se_X7_finds (wl_rc (p0 := 0) (by decide) rfl rfl rfl) (m_finds 3 (by decide) _) dX7_waterFor_64 (Nat.le_of_ble_eq_true rfl) ⟨Nat.le_of_ble_eq_true rfl, Nat.le_of_ble_eq_true rfl⟩ ⟨rfl, rfl⟩ ?_
          exact a_iret B hr hlk dX7_waterFor_67 (rR_r (k := 3) (by unfold watX; rw [show wi (nI t) 60 = true from c4, if_pos rfl, nn_nI (show t < 2 ^ 31 by omega), h3]; rfl) rfl AM_f)
        have hlt0 := lt_n (b := 10) c29 rfl rfl (by omega) (by omega)
        have hYw : ∀ x, 70 ≤ x → upd (M 0) 3 (nI k) x = M 0 x := fun x hx => pk_un (by omega)
        refine a_aload_n B dX7_waterFor_32 rfl ?_
        refine a_getR B fl_X7_7 (by decide) rfl rfl dX7_waterFor_33 ?_
        refine a_iconst (v := 3) B dX7_waterFor_36 (by decide) ?_
        refine a_iload_n B dX7_waterFor_37 rfl ?_
        refine a_iast 3 B twM (by decide) rfl rfl (by omega) (by decide) dX7_waterFor_38 ?_
        refine a_aload_n B dX7_waterFor_39 rfl ?_
        refine a_iload_n B dX7_waterFor_40 rfl ?_
        refine a_iconst (v := 4) B dX7_waterFor_41 (by decide) ?_
        rw [AM_u, show (0 + 3 : Nat) = 3 from rfl]
        refine a_callV2r B rfl cf_X7_behind lk_X7_165 in_X7_behind se_X7_behind (wl_rc (p0 := 0) (by decide) rfl rfl rfl) (m_behind t (by omega) M _ (hI.wat (k := k) (by omega)) hYw 4 (by decide)) dX7_waterFor_42 (Nat.le_of_ble_eq_true rfl) ⟨Nat.le_of_ble_eq_true rfl, Nat.le_of_ble_eq_true rfl⟩ ⟨rfl, rfl⟩ ?_
        refine a_aload_n B dX7_waterFor_45 rfl ?_
        refine a_getR B fl_X7_7 (by decide) rfl rfl dX7_waterFor_46 ?_
        refine a_iconst (v := 4) B dX7_waterFor_49 (by decide) ?_
        refine a_iald 4 B (by decide) rfl rfl (by omega) (by decide) dX7_waterFor_50 ?_
        rw [show AM M (M 0) 0 (0 + 4) = M 0 4 from by rw [AM_0]]
        refine a_icmp_ne 56 B dX7_waterFor_51 (by decide) (fun c51 => ?_) (fun c51 => ?_)
        · have hq : watQ (M 0) t k = false := by unfold watQ qui; rw [pk_un (show (4 : Nat) ≠ 3 by decide)]; exact decide_eq_false c51
          refine p_iinc2 1 B dX7_waterFor_56 (by decide) (by decide) (k := ?_)
          refine a_goto 26 B dX7_waterFor_59 (by decide) ?_
          rw [nI_1]
          exact ih (k + 1) (by omega) (by omega) (fst_no h3 hq)
        have hq : watQ (M 0) t k = true := by unfold watQ qui; rw [pk_un (show (4 : Nat) ≠ 3 by decide)]; exact decide_eq_true c51
        refine a_iload_n B dX7_waterFor_54 rfl ?_
        exact a_iret B hr hlk dX7_waterFor_55 (rR_l (by unfold watX; rw [show wi (nI t) 60 = true from c4, if_pos rfl, nn_nI (show t < 2 ^ 31 by omega), fst_up (fst_yes h3 hq) 10 (by omega)]; rfl) AM_q)
    exact loop 11 0 (by omega) (by omega) rfl
  have c4 := bI_eq0.mp c4
  refine a_aload_n B dX7_waterFor_7 rfl ?_
  refine a_iconst (v := 0) B dX7_waterFor_8 (by decide) ?_
  refine a_callV1r B rfl cf_X7_finds lk_X7_109 in_X7_finds se_X7_finds (wl_rc (p0 := 0) (by decide) rfl rfl rfl) (m_finds 0 (by decide) _) dX7_waterFor_9 (Nat.le_of_ble_eq_true rfl) ⟨Nat.le_of_ble_eq_true rfl, Nat.le_of_ble_eq_true rfl⟩ ⟨rfl, rfl⟩ ?_
  exact a_iret B hr hlk dX7_waterFor_12 (rR_r0 (k := 0) (by unfold watX; rw [show wi n1 60 = false from c4]; rfl) rfl rfl)
set_option maxRecDepth 20000 in
theorem m_spare (p n1 : Int32) (M : Mem) (hI : Inv (M 0)) : CR l sk D cy A X mX7_spare 8 [.ref (A 0), .int p, .int n1] M (rR (spaX (M 0) p n1) M M) := by
  refine Con.of (lo := [some (.ref (A 0)), some (.int p), some (.int n1), none, none, none, none]) cf_X7_spare (fun _ _ => wl_fst) 4 rfl (Nat.le_of_ble_eq_true rfl) (fun Pp Ee Ss Mm Aa Bb Me Cc A0 B hr hlk => ?_)
  have B : BS sk D cy (wl A cy 11 TM X) A0 Pp Ss Mm Aa Cc RX7 cX7_spare 7 := B
  rcases at_cases hI p with ⟨q, hqn, hq8, hvq, hip, hlt⟩ | ⟨hn, hip⟩
  · subst hvq
    refine a_aload_n B dX7_spare_0 rfl ?_
    refine a_iload_n B dX7_spare_1 rfl ?_
    refine a_callV1r B rfl cf_X7_isPriest lk_X7_123 in_X7_isPriest se_X7_isPriest (wl_rc (p0 := 0) (by decide) rfl rfl rfl) (m_isPriest _ _ hI) dX7_spare_2 (Nat.le_of_ble_eq_true rfl) ⟨Nat.le_of_ble_eq_true rfl, Nat.le_of_ble_eq_true rfl⟩ ⟨rfl, rfl⟩ ?_
    refine a_if_eq 15 B dX7_spare_5 (by decide) (fun c5 => ?_) (fun c5 => ?_)
    · exact absurd (show isP (M 0) (nI q) = false from bI_eq0.mp c5) (by rw [hip]; decide)
    refine a_iload_n B dX7_spare_8 rfl ?_
    refine a_callS1r B rfl cf_X7_isShort lk_X7_159 st_X7_isShort (m_isShort _ _) dX7_spare_9 (Nat.le_of_ble_eq_true rfl) ⟨Nat.le_of_ble_eq_true rfl, Nat.le_of_ble_eq_true rfl⟩ ⟨rfl, rfl⟩ ?_
    refine a_if_ne 21 B dX7_spare_12 (by decide) (fun c12 => ?_) (fun c12 => ?_)
    · have c12 := bI_ne0.mp c12
      obtain ⟨t, htt, hte⟩ := wi_T (t := 60) c12 (by omega)
      subst hte
      refine a_aload_n B dX7_spare_21 rfl ?_
      refine a_getR B fl_X7_7 (by decide) rfl rfl dX7_spare_22 ?_
      refine a_aload_n B dX7_spare_25 rfl ?_
      refine a_getR B fl_X7_16 (by decide) rfl rfl dX7_spare_26 ?_
      refine a_callS2v B rfl cf_X7_copies lk_X7_146 st_X7_copies (m_aside M) dX7_spare_29 (Nat.le_of_ble_eq_true rfl) ⟨Nat.le_of_ble_eq_true rfl, Nat.le_of_ble_eq_true rfl⟩ ⟨rfl, rfl⟩ ?_
      refine a_iconst (v := 0) B dX7_spare_32 (by decide) ?_
      refine p_istore3 B dX7_spare_33 (by decide) (k := ?_)
      refine a_sipush (v := 1000) B dX7_spare_34 (by decide) ?_
      refine p_istore4 B dX7_spare_37 (by decide) (k := ?_)
      refine a_iconst (v := 0) B dX7_spare_39 (by decide) ?_
      refine p_istore5 B dX7_spare_40 (by decide) (k := ?_)
      have loop : ∀ n k b1 b2 o6, 9 ≤ k + n → k ≤ 8 → b1 = (amin (spaV (M 0) q t) 1000 k).1 → b2 = (amin (spaV (M 0) q t) 1000 k).2 → AW Pp l Ee (rmK 8 (34 * 8)) Ss Mm Aa Bb Me Cc D (wl A cy 11 TM X) A0 7 0 0 (MQ Bb (QG D (wl A cy 11 TM X) A0 (rR (spaX (M 0) (nI q) (nI t)) M M)) Aa Ss 0 0 A0) 42 [some (.ref (A 0)), some (.int (nI q)), some (.int (nI t)), some (.int b1), some (.int b2), some (.int (nI k)), o6] [] (AM M (M 0)) := by
        intro n
        induction n with
        | zero => intro k b1 b2 o6 h1 h2; omega
        | succ n ih =>
          intro k b1 b2 o6 h1 h2 h3 h4
          refine a_iload B dX7_spare_42 rfl ?_
          refine a_bipush (v := 8) B dX7_spare_44 (by decide) ?_
          refine a_icmp_ge 99 B dX7_spare_46 (by decide) (fun c46 => ?_) (fun c46 => ?_)
          · have e1 : k = 8 := by have := ge_n (b := 8) c46 rfl rfl (by omega) (by omega); omega
            subst e1
            refine a_iload_n B dX7_spare_99 rfl ?_
            exact a_iret B hr hlk dX7_spare_100 (rR_l (by unfold spaX; rw [hip, show wi (nI t) 60 = true from c12, if_pos (show (true && true) = true from rfl), nn_nI (show q < 2 ^ 31 by omega), nn_nI (show t < 2 ^ 31 by omega)]; rw [← h3]) AM_q)
          have hlt0 := lt_n (b := 8) c46 rfl rfl (by omega) (by omega)
          refine a_aload_n B dX7_spare_49 rfl ?_
          refine a_iload_n B dX7_spare_50 rfl ?_
          refine a_iconst (v := 2) B dX7_spare_51 (by decide) ?_
          refine a_aload_n B dX7_spare_52 rfl ?_
          refine a_iload_n B dX7_spare_53 rfl ?_
          refine a_iconst (v := 2) B dX7_spare_54 (by decide) ?_
          refine a_callV2r B rfl cf_X7_its lk_X7_54 in_X7_its se_X7_its (wl_rc (p0 := 0) (by decide) rfl rfl rfl) (m_its q 2 (28 + q) (by omega) (by decide) (by omega) _) dX7_spare_55 (Nat.le_of_ble_eq_true rfl) ⟨Nat.le_of_ble_eq_true rfl, Nat.le_of_ble_eq_true rfl⟩ ⟨rfl, rfl⟩ ?_
          rw [AM_0]
          refine a_iconst (v := 1) B dX7_spare_58 (by decide) ?_
          refine a_iload B dX7_spare_59 rfl ?_
          refine a_ishl B dX7_spare_61 ?_
          refine a_iconst (v := (-1)) B dX7_spare_62 (by decide) ?_
          refine a_ixor B dX7_spare_63 ?_
          refine a_iand B dX7_spare_64 ?_
          refine a_callV3v B rfl cf_X7_sets lk_X7_79 in_X7_sets se_X7_sets (wl_rc (p0 := 0) (by decide) rfl rfl rfl) (m_sets q 2 (28 + q) (by omega) (by decide) (by omega) _ _) dX7_spare_65 (Nat.le_of_ble_eq_true rfl) ⟨Nat.le_of_ble_eq_true rfl, Nat.le_of_ble_eq_true rfl⟩ ⟨rfl, rfl⟩ ?_
          rw [AM_0, AM_s, show upd (M 0) (28 + q) (M 0 (28 + q) &&& ((1 : Int32) <<< (nI k &&& 31) ^^^ (-1))) = spaD (M 0) q k from rfl]
          refine a_aload_n B dX7_spare_68 rfl ?_
          refine a_iload_n B dX7_spare_69 rfl ?_
          refine a_bipush (v := 20) B dX7_spare_70 (by decide) ?_
          refine a_iload_n B dX7_spare_72 rfl ?_
          refine a_iadd B dX7_spare_73 ?_
          rw [show (20 : Int32) + nI q = nI (20 + q) from nI_add 20 q]
          refine a_callV2r B rfl cf_X7_behind lk_X7_165 in_X7_behind se_X7_behind (wl_rc (p0 := 0) (by decide) rfl rfl rfl) (m_behind t (by omega) M _ (hI.spa hq8) (fun x hx => pk_un (by omega)) (20 + q) (by omega)) dX7_spare_74 (Nat.le_of_ble_eq_true rfl) ⟨Nat.le_of_ble_eq_true rfl, Nat.le_of_ble_eq_true rfl⟩ ⟨rfl, rfl⟩ ?_
          refine p_istore6 B dX7_spare_77 (by decide) (k := ?_)
          refine a_iload B dX7_spare_79 rfl ?_
          refine a_iload B dX7_spare_81 rfl ?_
          refine a_icmp_ge 93 B dX7_spare_83 (by decide) (fun c83 => ?_) (fun c83 => ?_)
          · refine p_iinc5 1 B dX7_spare_93 (by decide) (by decide) (k := ?_)
            refine a_goto 42 B dX7_spare_96 (by decide) ?_
            rw [nI_1]
            have hg := am_ge (f := (spaV (M 0) q t)) (l := 1000) (k := k) (by rw [← h4]; exact Int32.not_lt.mpr c83)
            exact ih (k + 1) _ _ _ (by omega) (by omega) (by rw [hg]; exact h3) (by rw [hg]; exact h4)
          refine a_iload B dX7_spare_86 rfl ?_
          refine p_istore3 B dX7_spare_88 (by decide) (k := ?_)
          refine a_iload B dX7_spare_89 rfl ?_
          refine p_istore4 B dX7_spare_91 (by decide) (k := ?_)
          refine p_iinc5 1 B dX7_spare_93 (by decide) (by decide) (k := ?_)
          refine a_goto 42 B dX7_spare_96 (by decide) ?_
          rw [nI_1]
          have hg := am_lt (f := (spaV (M 0) q t)) (l := 1000) (k := k) (by rw [← h4]; exact Int32.not_le.mp c83)
          exact ih (k + 1) _ _ _ (by omega) (by omega) (by rw [hg]) (by first | (rw [hg]; done) | (rw [hg]; rfl))
      exact loop 9 0 _ _ _ (by omega) (by omega) rfl rfl
    have c12 := bI_eq0.mp c12
    refine a_aload_n B dX7_spare_15 rfl ?_
    refine a_iconst (v := 0) B dX7_spare_16 (by decide) ?_
    refine a_callV1r B rfl cf_X7_finds lk_X7_109 in_X7_finds se_X7_finds (wl_rc (p0 := 0) (by decide) rfl rfl rfl) (m_finds 0 (by decide) _) dX7_spare_17 (Nat.le_of_ble_eq_true rfl) ⟨Nat.le_of_ble_eq_true rfl, Nat.le_of_ble_eq_true rfl⟩ ⟨rfl, rfl⟩ ?_
    exact a_iret B hr hlk dX7_spare_20 (rR_r0 (k := 0) (by unfold spaX; rw [show wi n1 60 = false from c12, Bool.and_false]; rfl) rfl rfl)
  · refine a_aload_n B dX7_spare_0 rfl ?_
    refine a_iload_n B dX7_spare_1 rfl ?_
    refine a_callV1r B rfl cf_X7_isPriest lk_X7_123 in_X7_isPriest se_X7_isPriest (wl_rc (p0 := 0) (by decide) rfl rfl rfl) (m_isPriest _ _ hI) dX7_spare_2 (Nat.le_of_ble_eq_true rfl) ⟨Nat.le_of_ble_eq_true rfl, Nat.le_of_ble_eq_true rfl⟩ ⟨rfl, rfl⟩ ?_
    refine a_if_eq 15 B dX7_spare_5 (by decide) (fun c5 => ?_) (fun c5 => ?_)
    · refine a_aload_n B dX7_spare_15 rfl ?_
      refine a_iconst (v := 0) B dX7_spare_16 (by decide) ?_
      refine a_callV1r B rfl cf_X7_finds lk_X7_109 in_X7_finds se_X7_finds (wl_rc (p0 := 0) (by decide) rfl rfl rfl) (m_finds 0 (by decide) _) dX7_spare_17 (Nat.le_of_ble_eq_true rfl) ⟨Nat.le_of_ble_eq_true rfl, Nat.le_of_ble_eq_true rfl⟩ ⟨rfl, rfl⟩ ?_
      exact a_iret B hr hlk dX7_spare_20 (rR_r0 (k := 0) (by unfold spaX; rw [hip]; rfl) rfl rfl)
    exact absurd (show isP (M 0) p = true from bI_ne0.mp c5) (by rw [hip]; decide)
set_option maxRecDepth 20000 in
theorem m_kindFor (p n1 : Int32) (M : Mem) (hI : Inv (M 0)) : CR l sk D cy A X mX7_kindFor 8 [.ref (A 0), .int p, .int n1] M (rR (kiX2 (M 0) p n1) M M) := by
  refine Con.of (lo := [some (.ref (A 0)), some (.int p), some (.int n1), none, none, none, none]) cf_X7_kindFor (fun _ _ => wl_fst) 4 rfl (Nat.le_of_ble_eq_true rfl) (fun Pp Ee Ss Mm Aa Bb Me Cc A0 B hr hlk => ?_)
  have B : BS sk D cy (wl A cy 11 TM X) A0 Pp Ss Mm Aa Cc RX7 cX7_kindFor 7 := B
  rcases at_cases hI p with ⟨q, hqn, hq8, hvq, hip, hlt⟩ | ⟨hn, hip⟩
  · subst hvq
    refine a_aload_n B dX7_kindFor_0 rfl ?_
    refine a_iload_n B dX7_kindFor_1 rfl ?_
    refine a_callV1r B rfl cf_X7_isPriest lk_X7_123 in_X7_isPriest se_X7_isPriest (wl_rc (p0 := 0) (by decide) rfl rfl rfl) (m_isPriest _ _ hI) dX7_kindFor_2 (Nat.le_of_ble_eq_true rfl) ⟨Nat.le_of_ble_eq_true rfl, Nat.le_of_ble_eq_true rfl⟩ ⟨rfl, rfl⟩ ?_
    refine a_if_eq 15 B dX7_kindFor_5 (by decide) (fun c5 => ?_) (fun c5 => ?_)
    · exact absurd (show isP (M 0) (nI q) = false from bI_eq0.mp c5) (by rw [hip]; decide)
    refine a_iload_n B dX7_kindFor_8 rfl ?_
    refine a_callS1r B rfl cf_X7_isShort lk_X7_159 st_X7_isShort (m_isShort _ _) dX7_kindFor_9 (Nat.le_of_ble_eq_true rfl) ⟨Nat.le_of_ble_eq_true rfl, Nat.le_of_ble_eq_true rfl⟩ ⟨rfl, rfl⟩ ?_
    refine a_if_ne 21 B dX7_kindFor_12 (by decide) (fun c12 => ?_) (fun c12 => ?_)
    · have c12 := bI_ne0.mp c12
      obtain ⟨t, htt, hte⟩ := wi_T (t := 60) c12 (by omega)
      subst hte
      refine a_aload_n B dX7_kindFor_21 rfl ?_
      refine a_getR B fl_X7_7 (by decide) rfl rfl dX7_kindFor_22 ?_
      refine a_aload_n B dX7_kindFor_25 rfl ?_
      refine a_getR B fl_X7_16 (by decide) rfl rfl dX7_kindFor_26 ?_
      refine a_callS2v B rfl cf_X7_copies lk_X7_146 st_X7_copies (m_aside M) dX7_kindFor_29 (Nat.le_of_ble_eq_true rfl) ⟨Nat.le_of_ble_eq_true rfl, Nat.le_of_ble_eq_true rfl⟩ ⟨rfl, rfl⟩ ?_
      refine a_iconst (v := 0) B dX7_kindFor_32 (by decide) ?_
      refine p_istore3 B dX7_kindFor_33 (by decide) (k := ?_)
      refine a_ldc B dX7_kindFor_34 kc_X7_168 ?_
      refine p_istore4 B dX7_kindFor_36 (by decide) (k := ?_)
      refine a_iconst (v := 0) B dX7_kindFor_38 (by decide) ?_
      refine p_istore5 B dX7_kindFor_39 (by decide) (k := ?_)
      have loop : ∀ n k b1 b2 o6, 8 ≤ k + n → k ≤ 7 → b1 = (amin (kinV (M 0) q t) 99999999 k).1 → b2 = (amin (kinV (M 0) q t) 99999999 k).2 → AW Pp l Ee (rmK 8 (34 * 8)) Ss Mm Aa Bb Me Cc D (wl A cy 11 TM X) A0 7 0 0 (MQ Bb (QG D (wl A cy 11 TM X) A0 (rR (kiX2 (M 0) (nI q) (nI t)) M M)) Aa Ss 0 0 A0) 41 [some (.ref (A 0)), some (.int (nI q)), some (.int (nI t)), some (.int b1), some (.int b2), some (.int (nI k)), o6] [] (AM M (M 0)) := by
        intro n
        induction n with
        | zero => intro k b1 b2 o6 h1 h2; omega
        | succ n ih =>
          intro k b1 b2 o6 h1 h2 h3 h4
          refine a_iload B dX7_kindFor_41 rfl ?_
          refine a_bipush (v := 7) B dX7_kindFor_43 (by decide) ?_
          refine a_icmp_ge 83 B dX7_kindFor_45 (by decide) (fun c45 => ?_) (fun c45 => ?_)
          · have e1 : k = 7 := by have := ge_n (b := 7) c45 rfl rfl (by omega) (by omega); omega
            subst e1
            refine a_iload_n B dX7_kindFor_83 rfl ?_
            exact a_iret B hr hlk dX7_kindFor_84 (rR_l (by unfold kiX2; rw [hip, show wi (nI t) 60 = true from c12, if_pos (show (true && true) = true from rfl), nn_nI (show q < 2 ^ 31 by omega), nn_nI (show t < 2 ^ 31 by omega)]; rw [← h3]) AM_q)
          have hlt0 := lt_n (b := 7) c45 rfl rfl (by omega) (by omega)
          refine a_aload_n B dX7_kindFor_48 rfl ?_
          refine a_iload_n B dX7_kindFor_49 rfl ?_
          refine a_iconst (v := 0) B dX7_kindFor_50 (by decide) ?_
          refine a_iload B dX7_kindFor_51 rfl ?_
          refine a_callV3v B rfl cf_X7_sets lk_X7_79 in_X7_sets se_X7_sets (wl_rc (p0 := 0) (by decide) rfl rfl rfl) (m_sets q 0 (12 + q) (by omega) (by decide) (by omega) _ _) dX7_kindFor_53 (Nat.le_of_ble_eq_true rfl) ⟨Nat.le_of_ble_eq_true rfl, Nat.le_of_ble_eq_true rfl⟩ ⟨rfl, rfl⟩ ?_
          rw [AM_0, AM_s, show upd (M 0) (12 + q) (nI k) = kinD (M 0) q k from rfl]
          refine a_aload_n B dX7_kindFor_56 rfl ?_
          refine a_iload_n B dX7_kindFor_57 rfl ?_
          refine a_callV1r B rfl cf_X7_illBehind lk_X7_162 in_X7_illBehind se_X7_illBehind (wl_rc (p0 := 0) (by decide) rfl rfl rfl) (m_illBehind t (by omega) M _ (hI.kin hq8 hlt0) (fun x hx => pk_un (by omega))) dX7_kindFor_58 (Nat.le_of_ble_eq_true rfl) ⟨Nat.le_of_ble_eq_true rfl, Nat.le_of_ble_eq_true rfl⟩ ⟨rfl, rfl⟩ ?_
          rw [show nOf (kinD (M 0) q k) = nOf (M 0) from nOf_upd (by omega), ← sum_its (w := 5) (by decide), show sumT (daysF (kinD (M 0) q k) t) (nI 5) (nOf (M 0)) = kinV (M 0) q t k from rfl]
          refine p_istore6 B dX7_kindFor_61 (by decide) (k := ?_)
          refine a_iload B dX7_kindFor_63 rfl ?_
          refine a_iload B dX7_kindFor_65 rfl ?_
          refine a_icmp_ge 77 B dX7_kindFor_67 (by decide) (fun c67 => ?_) (fun c67 => ?_)
          · refine p_iinc5 1 B dX7_kindFor_77 (by decide) (by decide) (k := ?_)
            refine a_goto 41 B dX7_kindFor_80 (by decide) ?_
            rw [nI_1]
            have hg := am_ge (f := (kinV (M 0) q t)) (l := 99999999) (k := k) (by rw [← h4]; exact Int32.not_lt.mpr c67)
            exact ih (k + 1) _ _ _ (by omega) (by omega) (by rw [hg]; exact h3) (by rw [hg]; exact h4)
          refine a_iload B dX7_kindFor_70 rfl ?_
          refine p_istore3 B dX7_kindFor_72 (by decide) (k := ?_)
          refine a_iload B dX7_kindFor_73 rfl ?_
          refine p_istore4 B dX7_kindFor_75 (by decide) (k := ?_)
          refine p_iinc5 1 B dX7_kindFor_77 (by decide) (by decide) (k := ?_)
          refine a_goto 41 B dX7_kindFor_80 (by decide) ?_
          rw [nI_1]
          have hg := am_lt (f := (kinV (M 0) q t)) (l := 99999999) (k := k) (by rw [← h4]; exact Int32.not_le.mp c67)
          exact ih (k + 1) _ _ _ (by omega) (by omega) (by rw [hg]) (by first | (rw [hg]; done) | (rw [hg]; rfl))
      exact loop 8 0 _ _ _ (by omega) (by omega) rfl rfl
    have c12 := bI_eq0.mp c12
    refine a_aload_n B dX7_kindFor_15 rfl ?_
    refine a_iconst (v := 0) B dX7_kindFor_16 (by decide) ?_
    refine a_callV1r B rfl cf_X7_finds lk_X7_109 in_X7_finds se_X7_finds (wl_rc (p0 := 0) (by decide) rfl rfl rfl) (m_finds 0 (by decide) _) dX7_kindFor_17 (Nat.le_of_ble_eq_true rfl) ⟨Nat.le_of_ble_eq_true rfl, Nat.le_of_ble_eq_true rfl⟩ ⟨rfl, rfl⟩ ?_
    exact a_iret B hr hlk dX7_kindFor_20 (rR_r0 (k := 0) (by unfold kiX2; rw [show wi n1 60 = false from c12, Bool.and_false]; rfl) rfl rfl)
  · refine a_aload_n B dX7_kindFor_0 rfl ?_
    refine a_iload_n B dX7_kindFor_1 rfl ?_
    refine a_callV1r B rfl cf_X7_isPriest lk_X7_123 in_X7_isPriest se_X7_isPriest (wl_rc (p0 := 0) (by decide) rfl rfl rfl) (m_isPriest _ _ hI) dX7_kindFor_2 (Nat.le_of_ble_eq_true rfl) ⟨Nat.le_of_ble_eq_true rfl, Nat.le_of_ble_eq_true rfl⟩ ⟨rfl, rfl⟩ ?_
    refine a_if_eq 15 B dX7_kindFor_5 (by decide) (fun c5 => ?_) (fun c5 => ?_)
    · refine a_aload_n B dX7_kindFor_15 rfl ?_
      refine a_iconst (v := 0) B dX7_kindFor_16 (by decide) ?_
      refine a_callV1r B rfl cf_X7_finds lk_X7_109 in_X7_finds se_X7_finds (wl_rc (p0 := 0) (by decide) rfl rfl rfl) (m_finds 0 (by decide) _) dX7_kindFor_17 (Nat.le_of_ble_eq_true rfl) ⟨Nat.le_of_ble_eq_true rfl, Nat.le_of_ble_eq_true rfl⟩ ⟨rfl, rfl⟩ ?_
      exact a_iret B hr hlk dX7_kindFor_20 (rR_r0 (k := 0) (by unfold kiX2; rw [hip]; rfl) rfl rfl)
    exact absurd (show isP (M 0) p = true from bI_ne0.mp c5) (by rw [hip]; decide)
end R8
