section R12

def aboR (k : Int32) : Int32 := if k = 3 then 1 else if k = 4 then 3 else if k = 6 then 2 else 0
def asR (d : Dm) (sp kind : Int32) : Oc := if wi sp 9 && wi kind 6 then (if d (60 + nn sp) = 0 then .inr 5 else (if kind = 0 ∨ kind = d (12 + nn (d (60 + nn sp) - 1)) ∨ kind = aboR (d (12 + nn (d (60 + nn sp) - 1))) ∨ kind = aboR (aboR (d (12 + nn (d (60 + nn sp) - 1)))) then .inl (d (60 + nn sp) - 1) else .inr 2)) else .inr 0
def holR (d : Dm) (sp p : Int32) : Oc × Dm := if wi sp 9 && bt p (-1) (d 0 - 1) then (.inl 1, upd d (60 + nn sp) (p + 1)) else (.inr 0, d)
def spOk (d : Dm) : Prop := ∀ j, j < 10 → ∃ n, n ≤ 8 ∧ d (60 + j) = nI n
theorem com_s (c : Dm) : com1 c = dayF (upd (upd (upd c 2 (drawZ (c 2))) 2 (drawZ (drawZ (c 2)))) (6 + todN (upd c 2 (drawZ (c 2)))) (100 * rmI (us (drawZ (c 2)) 8) 8 + rmI (us (drawZ (drawZ (c 2))) 8) 41)) := by
  have h : ∀ a b : Int32, todN (upd (upd c 2 a) 2 b) = todN (upd c 2 a) := fun a b => by
    unfold todN
    rw [pk_un (show (1 : Nat) ≠ 2 by decide)]
  unfold com1
  simp only [h]
def loaD2 (d : Dm) (tl : Nat → Int32) : Nat → Dm := loaD d tl
def loaQR (M : Mem) (t k : Nat) : Bool := !(decide (k < szR M t) && icB (tlR M t k))
def loaNR (M : Mem) (t : Nat) : Nat := match fstN (loaQR M t) 6 with
  | none => 6
  | some k => k
def loaR (M : Mem) (s : Int32) : Oc × Mem := match whnR M s with
  | some k => (.inr k, M)
  | none => (.inl (nI (loaNR M (nn s))), stB M 0 (loaD (M 0) (tlR M (nn s)) (loaNR M (nn s))))

variable {l : Launch} {sk : (Nat → Nat) × (Nat → Nat)} {D : va_G} {cy : Nat → ClassId} {A : Nat → Nat} {X : va_W}
set_option maxRecDepth 20000 in
theorem m_draw (M : Mem) : CR l sk D cy A X mX7_draw 0 [.ref (A 0)] M (rI (us (drawZ (M 0 2)) 8) (stB M 0 (upd (M 0) 2 (drawZ (M 0 2))))) := by
  refine Con.of (lo := [some (.ref (A 0))]) cf_X7_draw (fun _ _ => wl_fst) 0 rfl (Nat.le_of_ble_eq_true rfl) (fun Pp Ee Ss Mm Aa Bb Me Cc A0 B hr hlk => ?_)
  have B : BS sk D cy (wl A cy 11 TM X) A0 Pp Ss Mm Aa Cc RX7 cX7_draw 1 := B
  refine a_aload_n B dX7_draw_0 rfl ?_
  refine a_getR B fl_X7_7 (by decide) rfl rfl dX7_draw_1 ?_
  refine a_iconst (v := 2) B dX7_draw_4 (by decide) ?_
  refine a_aload_n B dX7_draw_5 rfl ?_
  refine a_getR B fl_X7_7 (by decide) rfl rfl dX7_draw_6 ?_
  refine a_iconst (v := 2) B dX7_draw_9 (by decide) ?_
  refine a_iald 2 B (by decide) rfl rfl (by omega) (by decide) dX7_draw_10 ?_
  refine a_ldc B dX7_draw_11 kc_X7_185 ?_
  refine a_imul B dX7_draw_13 ?_
  refine a_sipush (v := 12345) B dX7_draw_14 (by decide) ?_
  refine a_iadd B dX7_draw_17 ?_
  refine a_iast 2 B twM (by decide) rfl rfl (by omega) (by decide) dX7_draw_18 ?_
  refine a_aload_n B dX7_draw_19 rfl ?_
  refine a_getR B fl_X7_7 (by decide) rfl rfl dX7_draw_20 ?_
  refine a_iconst (v := 2) B dX7_draw_23 (by decide) ?_
  refine a_iald 2 B (by decide) rfl rfl (by omega) (by decide) dX7_draw_24 ?_
  rw [show (0 + 2 : Nat) = 2 from rfl, upB_on, upB_st]
  refine a_bipush (v := 8) B dX7_draw_25 (by decide) ?_
  refine a_iushr B dX7_draw_27 ?_
  exact a_iret B hr hlk dX7_draw_28 ⟨congrArg (fun z => some (Value.int z)) (rfl), rfl⟩
set_option maxRecDepth 20000 in
theorem m_come (n1 : Int32) (M : Mem) (hI : Inv (M 0)) : CR l sk D cy A X mX7_come 6 [.ref (A 0), .int n1] M (rR (comX (M 0) n1).1 (stB M 0 (comX (M 0) n1).2) M) := by
  refine Con.of (lo := [some (.ref (A 0)), some (.int n1), none, none]) cf_X7_come (fun _ _ => wl_fst) 2 rfl (Nat.le_of_ble_eq_true rfl) (fun Pp Ee Ss Mm Aa Bb Me Cc A0 B hr hlk => ?_)
  have B : BS sk D cy (wl A cy 11 TM X) A0 Pp Ss Mm Aa Cc RX7 cX7_come 4 := B
  refine a_iload_n B dX7_come_0 rfl ?_
  refine a_i2l B dX7_come_1 ?_
  refine a_lconst (v := 1) B dX7_come_2 (by decide) ?_
  refine a_ldc2 B dX7_come_3 kl_X7_169 ?_
  refine a_callS3r B rfl cf_X7_in lk_X7_42 st_X7_in (m_in n1 1 20 _ _ (by first | rfl | decide) (by first | rfl | decide) _) dX7_come_6 (Nat.le_of_ble_eq_true rfl) ⟨Nat.le_of_ble_eq_true rfl, Nat.le_of_ble_eq_true rfl⟩ ⟨rfl, rfl⟩ ?_
  refine a_if_ne 18 B dX7_come_9 (by decide) (fun c9 => ?_) (fun c9 => ?_)
  · have c9 := bI_ne0.mp c9
    have hlo : ¬ n1 < 1 := by intro q9; unfold bt at c9; rw [decide_eq_true q9] at c9; cases c9
    have hhi : ¬ 20 < n1 := by intro q9; unfold bt at c9; rw [decide_eq_true q9, Bool.not_true, Bool.and_false] at c9; cases c9
    obtain ⟨t, ht0, hte⟩ := nI_of (fun q9 : n1 < 0 => hlo (Int32.lt_trans q9 (by decide)))
    subst hte
    have ht : t ≤ 20 := Nat.le_of_not_lt (fun q9 => hhi (nI_lt (a := 20) q9 ht0))
    refine a_aload_n B dX7_come_18 rfl ?_
    refine a_getR B fl_X7_7 (by decide) rfl rfl dX7_come_19 ?_
    refine a_iconst (v := 1) B dX7_come_22 (by decide) ?_
    refine a_iald 1 B (by decide) rfl rfl (by omega) (by decide) dX7_come_23 ?_
    refine a_iload_n B dX7_come_24 rfl ?_
    refine a_iadd B dX7_come_25 ?_
    refine a_ldc B dX7_come_26 kc_X7_75 ?_
    refine a_icmp_le 37 B dX7_come_28 (by decide) (fun c28 => ?_) (fun c28 => ?_)
    · have c28x : ¬ 99999 < M 0 1 + nI t := Int32.not_lt.mpr c28
      refine a_iconst (v := 0) B dX7_come_37 (by decide) ?_
      refine p_istore2 B dX7_come_38 (by decide) (k := ?_)
      have loop : ∀ n k o3, t + 1 ≤ k + n → k ≤ t → AW Pp l Ee (rmK 6 (34 * 6)) Ss Mm Aa Bb Me Cc D (wl A cy 11 TM X) A0 4 0 0 (MQ Bb (QG D (wl A cy 11 TM X) A0 (rR (comX (M 0) (nI t)).1 (stB M 0 (comX (M 0) (nI t)).2) M)) Aa Ss 0 0 A0) 39 [some (.ref (A 0)), some (.int (nI t)), some (.int (nI k)), o3] [] (stB M 0 (comF (M 0) k)) := by
        intro n
        induction n with
        | zero => intro k o3 h1 h2; omega
        | succ n ih =>
          intro k o3 h1 h2
          refine a_iload_n B dX7_come_39 rfl ?_
          refine a_iload_n B dX7_come_40 rfl ?_
          refine a_icmp_ge 83 B dX7_come_41 (by decide) (fun c41 => ?_) (fun c41 => ?_)
          · have e1 : k = t := by have := (nI_leI (a := t) (b := k) (by omega) (by omega)).mp c41; omega
            subst e1
            refine a_aload_n B dX7_come_83 rfl ?_
            refine a_getR B fl_X7_7 (by decide) rfl rfl dX7_come_84 ?_
            refine a_iconst (v := 4) B dX7_come_87 (by decide) ?_
            refine a_iald 4 B (by decide) rfl rfl (by omega) (by decide) dX7_come_88 ?_
            exact a_iret B hr hlk dX7_come_89 (rR_l0 (by unfold comX; rw [if_neg hlo, if_neg hhi, if_neg c28x, nn_nI ht0, stB_at]) (by unfold comX; rw [if_neg hlo, if_neg hhi, if_neg c28x, nn_nI ht0]))
          have hlt0 : k < t := (nI_ltI (a := k) (b := t) (by omega) (by omega)).mp (Int32.not_le.mp c41)
          have hIk := Inv.com hI k
          refine a_aload_n B dX7_come_44 rfl ?_
          refine a_callV0r B rfl cf_X7_draw lk_X7_186 in_X7_draw se_X7_draw (wl_rc (p0 := 0) (by decide) rfl rfl rfl) (m_draw _) dX7_come_45 (Nat.le_of_ble_eq_true rfl) ⟨Nat.le_of_ble_eq_true rfl, Nat.le_of_ble_eq_true rfl⟩ ⟨rfl, rfl⟩ ?_
          rw [stB_at, stB_st]
          refine a_bipush (v := 8) B dX7_come_48 (by decide) ?_
          refine a_irem B dX7_come_50 (by decide) ?_
          refine p_istore3 B dX7_come_51 (by decide) (k := ?_)
          refine a_aload_n B dX7_come_52 rfl ?_
          refine a_getR B fl_X7_7 (by decide) rfl rfl dX7_come_53 ?_
          refine a_aload_n B dX7_come_56 rfl ?_
          refine a_callV0r B rfl cf_X7_todays lk_X7_83 in_X7_todays se_X7_todays (wl_rc (p0 := 0) (by decide) rfl rfl rfl) (m_todays _ (by rw [stB_at]; exact hIk.z _)) dX7_come_57 (Nat.le_of_ble_eq_true rfl) ⟨Nat.le_of_ble_eq_true rfl, Nat.le_of_ble_eq_true rfl⟩ ⟨rfl, rfl⟩ ?_
          rw [stB_at]
          refine a_bipush (v := 100) B dX7_come_60 (by decide) ?_
          refine a_iload_n B dX7_come_62 rfl ?_
          refine a_imul B dX7_come_63 ?_
          refine a_aload_n B dX7_come_64 rfl ?_
          refine a_callV0r B rfl cf_X7_draw lk_X7_186 in_X7_draw se_X7_draw (wl_rc (p0 := 0) (by decide) rfl rfl rfl) (m_draw _) dX7_come_65 (Nat.le_of_ble_eq_true rfl) ⟨Nat.le_of_ble_eq_true rfl, Nat.le_of_ble_eq_true rfl⟩ ⟨rfl, rfl⟩ ?_
          rw [stB_at, stB_st, pk_us]
          refine a_bipush (v := 41) B dX7_come_68 (by decide) ?_
          refine a_irem B dX7_come_70 (by decide) ?_
          refine a_iadd B dX7_come_71 ?_
          refine a_iast (6 + todN (upd (comF (M 0) k) 2 (drawZ (comF (M 0) k 2)))) B twM (by decide) rfl rfl (by have := (hIk.z (drawZ (comF (M 0) k 2))).tod.1; omega) (by decide) dX7_come_72 ?_
          have hIc : Inv (upd (upd (upd (comF (M 0) k) 2 (drawZ (comF (M 0) k 2))) 2 (drawZ (drawZ (comF (M 0) k 2)))) (6 + todN (upd (comF (M 0) k) 2 (drawZ (comF (M 0) k 2)))) (100 * rmI (us (drawZ (comF (M 0) k 2)) 8) 8 + rmI (us (drawZ (drawZ (comF (M 0) k 2))) 8) 41)) := ((hIk.z _).z _).cf (hIk.z _).tod.1 (us8 _) (us8 _)
          rw [upB_st, stB_at, stB_st, Nat.zero_add (6 + todN (upd (comF (M 0) k) 2 (drawZ (comF (M 0) k 2))))]
          refine a_aload_n B dX7_come_73 rfl ?_
          refine a_callV0v B rfl cf_X7_dayGoes lk_X7_98 in_X7_dayGoes se_X7_dayGoes (wl_rc (p0 := 0) (by decide) rfl rfl rfl) (m_dayGoes _ (by rw [stB_at]; exact hIc)) dX7_come_74 (Nat.le_of_ble_eq_true rfl) ⟨Nat.le_of_ble_eq_true rfl, Nat.le_of_ble_eq_true rfl⟩ ⟨rfl, rfl⟩ ?_
          rw [stB_at, stB_st]
          refine p_iinc2 1 B dX7_come_77 (by decide) (by decide) (k := ?_)
          refine a_goto 39 B dX7_come_80 (by decide) ?_
          rw [nI_1]
          refine a_mem ?_ (ih (k + 1) _ (by omega) (by omega))
          show _ = stB M 0 (com1 (comF (M 0) k))
          rw [com_s]
          rfl
      refine a_mem ?_ (loop (t + 1) 0 _ (by omega) (by omega))
      exact (stB_id (M := M) (b := 0)).symm
    have c28x : 99999 < M 0 1 + nI t := Int32.not_le.mp c28
    refine a_aload_n B dX7_come_31 rfl ?_
    refine a_iconst (v := 4) B dX7_come_32 (by decide) ?_
    refine a_callV1r B rfl cf_X7_finds lk_X7_109 in_X7_finds se_X7_finds (wl_rc (p0 := 0) (by decide) rfl rfl rfl) (m_finds 4 (by decide) _) dX7_come_33 (Nat.le_of_ble_eq_true rfl) ⟨Nat.le_of_ble_eq_true rfl, Nat.le_of_ble_eq_true rfl⟩ ⟨rfl, rfl⟩ ?_
    exact a_iret B hr hlk dX7_come_36 (rR_r0 (k := 4) (by unfold comX; rw [if_neg hlo, if_neg hhi, if_pos c28x]) rfl rfl)
  have c9 := bI_eq0.mp c9
  refine a_aload_n B dX7_come_12 rfl ?_
  refine a_iconst (v := 0) B dX7_come_13 (by decide) ?_
  refine a_callV1r B rfl cf_X7_finds lk_X7_109 in_X7_finds se_X7_finds (wl_rc (p0 := 0) (by decide) rfl rfl rfl) (m_finds 0 (by decide) _) dX7_come_14 (Nat.le_of_ble_eq_true rfl) ⟨Nat.le_of_ble_eq_true rfl, Nat.le_of_ble_eq_true rfl⟩ ⟨rfl, rfl⟩ ?_
  have hX : comX (M 0) n1 = (.inr 0, M 0) := by
    unfold comX
    by_cases h1 : n1 < 1
    · rw [if_pos h1]
    · rw [if_neg h1]
      by_cases h2 : 20 < n1
      · rw [if_pos h2]
      · exfalso; unfold bt at c9; rw [decide_eq_false h1, decide_eq_false h2] at c9; cases c9
  exact a_iret B hr hlk dX7_come_17 (rR_r0 (k := 0) (by rw [hX]) rfl rfl)
set_option maxRecDepth 20000 in
theorem m_above (k : Int32) (M : Mem) : CR l sk D cy A X mX7_above 0 [.int k] M (rI (aboR k) M) := by
  refine Con.of (lo := [some (.int k)]) cf_X7_above (fun _ _ => wl_fst) 0 rfl (Nat.le_of_ble_eq_true rfl) (fun Pp Ee Ss Mm Aa Bb Me Cc A0 B hr hlk => ?_)
  have B : BS sk D cy (wl A cy 11 TM X) A0 Pp Ss Mm Aa Cc RX7 cX7_above 1 := B
  refine a_iload_n B dX7_above_0 rfl ?_
  refine a_iconst (v := 3) B dX7_above_1 (by decide) ?_
  refine a_icmp_ne 9 B dX7_above_2 (by decide) (fun c2 => ?_) (fun c2 => ?_)
  · refine a_iload_n B dX7_above_9 rfl ?_
    refine a_iconst (v := 4) B dX7_above_10 (by decide) ?_
    refine a_icmp_ne 18 B dX7_above_11 (by decide) (fun c11 => ?_) (fun c11 => ?_)
    · refine a_iload_n B dX7_above_18 rfl ?_
      refine a_bipush (v := 6) B dX7_above_19 (by decide) ?_
      refine a_icmp_ne 28 B dX7_above_21 (by decide) (fun c21 => ?_) (fun c21 => ?_)
      · refine a_iconst (v := 0) B dX7_above_28 (by decide) ?_
        exact a_iret B hr hlk dX7_above_29 ⟨congrArg (fun z => some (Value.int z)) (by simp [aboR, c2, c11, c21]), rfl⟩
      refine a_iconst (v := 2) B dX7_above_24 (by decide) ?_
      refine a_goto 29 B dX7_above_25 (by decide) ?_
      exact a_iret B hr hlk dX7_above_29 ⟨congrArg (fun z => some (Value.int z)) (by simp [aboR, c2, c11, c21]), rfl⟩
    refine a_iconst (v := 3) B dX7_above_14 (by decide) ?_
    refine a_goto 29 B dX7_above_15 (by decide) ?_
    exact a_iret B hr hlk dX7_above_29 ⟨congrArg (fun z => some (Value.int z)) (by simp [aboR, c2, c11]), rfl⟩
  refine a_iconst (v := 1) B dX7_above_5 (by decide) ?_
  refine a_goto 29 B dX7_above_6 (by decide) ?_
  exact a_iret B hr hlk dX7_above_29 ⟨congrArg (fun z => some (Value.int z)) (by simp [aboR, c2]), rfl⟩
set_option maxRecDepth 20000 in
theorem m_hold (sp p : Int32) (M : Mem) (hI : Inv (M 0)) : CR l sk D cy A X mX7_hold 2 [.ref (A 0), .int sp, .int p] M (rR (holR (M 0) sp p).1 (stB M 0 (holR (M 0) sp p).2) M) := by
  refine Con.of (lo := [some (.ref (A 0)), some (.int sp), some (.int p)]) cf_X7_hold (fun _ _ => wl_fst) 0 rfl (Nat.le_of_ble_eq_true rfl) (fun Pp Ee Ss Mm Aa Bb Me Cc A0 B hr hlk => ?_)
  have B : BS sk D cy (wl A cy 11 TM X) A0 Pp Ss Mm Aa Cc RX7 cX7_hold 3 := B
  refine a_iload_n B dX7_hold_0 rfl ?_
  refine a_i2l B dX7_hold_1 ?_
  refine a_lconst (v := 0) B dX7_hold_2 (by decide) ?_
  refine a_ldc2 B dX7_hold_3 kl_X7_101 ?_
  refine a_callS3r B rfl cf_X7_in lk_X7_42 st_X7_in (m_in sp 0 9 _ _ (by first | rfl | decide) (by first | rfl | decide) _) dX7_hold_6 (Nat.le_of_ble_eq_true rfl) ⟨Nat.le_of_ble_eq_true rfl, Nat.le_of_ble_eq_true rfl⟩ ⟨rfl, rfl⟩ ?_
  refine a_if_eq 32 B dX7_hold_9 (by decide) (fun c9 => ?_) (fun c9 => ?_)
  · have c9 := bI_eq0.mp c9
    refine a_aload_n B dX7_hold_32 rfl ?_
    refine a_iconst (v := 0) B dX7_hold_33 (by decide) ?_
    refine a_callV1r B rfl cf_X7_finds lk_X7_109 in_X7_finds se_X7_finds (wl_rc (p0 := 0) (by decide) rfl rfl rfl) (m_finds 0 (by decide) _) dX7_hold_34 (Nat.le_of_ble_eq_true rfl) ⟨Nat.le_of_ble_eq_true rfl, Nat.le_of_ble_eq_true rfl⟩ ⟨rfl, rfl⟩ ?_
    exact a_iret B hr hlk dX7_hold_37 (rR_r0 (k := 0) (by unfold holR; rw [show wi sp 9 = false from c9]; rfl) rfl rfl)
  have c9 := bI_ne0.mp c9
  refine a_iload_n B dX7_hold_12 rfl ?_
  refine a_i2l B dX7_hold_13 ?_
  refine a_ldc2 B dX7_hold_14 kl_X7_288 ?_
  refine a_aload_n B dX7_hold_17 rfl ?_
  refine a_getR B fl_X7_7 (by decide) rfl rfl dX7_hold_18 ?_
  refine a_iconst (v := 0) B dX7_hold_21 (by decide) ?_
  refine a_iald 0 B (by decide) rfl rfl (by omega) (by decide) dX7_hold_22 ?_
  refine a_iconst (v := 1) B dX7_hold_23 (by decide) ?_
  refine a_isub B dX7_hold_24 ?_
  refine a_i2l B dX7_hold_25 ?_
  refine a_callS3r B rfl cf_X7_in lk_X7_42 st_X7_in (m_in p (-1) (M 0 0 - 1) _ _ (by first | rfl | decide) rfl _) dX7_hold_26 (Nat.le_of_ble_eq_true rfl) ⟨Nat.le_of_ble_eq_true rfl, Nat.le_of_ble_eq_true rfl⟩ ⟨rfl, rfl⟩ ?_
  refine a_if_ne 38 B dX7_hold_29 (by decide) (fun c29 => ?_) (fun c29 => ?_)
  · have c29 := bI_ne0.mp c29
    obtain ⟨z, hzt, hze⟩ := wi_T (t := 9) c9 (by omega)
    subst hze
    have ez : nn (nI z) = z := nn_nI (by omega)
    refine a_aload_n B dX7_hold_38 rfl ?_
    refine a_getR B fl_X7_7 (by decide) rfl rfl dX7_hold_39 ?_
    refine a_bipush (v := 60) B dX7_hold_42 (by decide) ?_
    refine a_iload_n B dX7_hold_44 rfl ?_
    refine a_iadd B dX7_hold_45 ?_
    refine a_iload_n B dX7_hold_46 rfl ?_
    refine a_iconst (v := 1) B dX7_hold_47 (by decide) ?_
    refine a_iadd B dX7_hold_48 ?_
    refine a_iast (60 + z) B twM (by decide) rfl (nI_add 60 z) (by omega) (by decide) dX7_hold_49 ?_
    refine a_iconst (v := 1) B dX7_hold_50 (by decide) ?_
    exact a_iret B hr hlk dX7_hold_51 (rR_l0 (by unfold holR; rw [show wi (nI z) 9 = true from c9, c29]; rfl) (by unfold holR; rw [show wi (nI z) 9 = true from c9, c29, if_pos (show (true && true) = true from rfl), ez, Nat.zero_add (60 + z)]; exact upB_st))
  have c29 := bI_eq0.mp c29
  refine a_aload_n B dX7_hold_32 rfl ?_
  refine a_iconst (v := 0) B dX7_hold_33 (by decide) ?_
  refine a_callV1r B rfl cf_X7_finds lk_X7_109 in_X7_finds se_X7_finds (wl_rc (p0 := 0) (by decide) rfl rfl rfl) (m_finds 0 (by decide) _) dX7_hold_34 (Nat.le_of_ble_eq_true rfl) ⟨Nat.le_of_ble_eq_true rfl, Nat.le_of_ble_eq_true rfl⟩ ⟨rfl, rfl⟩ ?_
  exact a_iret B hr hlk dX7_hold_37 (rR_r0 (k := 0) (by unfold holR; rw [c29, Bool.and_false]; rfl) rfl rfl)
end R12
