section R4

def eqM (M1 M' : Mem) : Prop := (∀ b, b = 0 ∨ (3 ≤ b ∧ b ≤ 8) → M' b = M1 b) ∧ M' 10 0 = M1 10 0 ∧ M' 10 1 = M1 10 1
theorem eqM_r {M1 M' : Mem} (h : M' = M1) : eqM M1 M' := by subst h; exact ⟨fun _ _ => rfl, rfl, rfl⟩
def fnM (M : Mem) (k : Nat) : Mem := stB M 4 (upd (M 4) k (M 4 k + 1))
def rR (x : Oc) (M1 M : Mem) : Option Value → Mem → Prop := fun v M' => match x with
  | .inl r => v = some (.int r) ∧ eqM M1 M'
  | .inr k => v = some (.int (fnd k)) ∧ eqM (fnM M k) M'
theorem rR_l {x : Oc} {M1 M M' : Mem} {r : Int32} (hx : x = .inl r) (h : eqM M1 M') : rR x M1 M (some (.int r)) M' := by subst hx; exact ⟨rfl, h⟩
theorem rR_l0 {x : Oc} {M1 M M' : Mem} {r : Int32} (hx : x = .inl r) (h : M' = M1) : rR x M1 M (some (.int r)) M' := rR_l hx (eqM_r h)
theorem rR_r {x : Oc} {M1 M M' : Mem} {f : Int32} {k : Nat} (hx : x = .inr k) (hf : f = fnd k) (h : eqM (fnM M k) M') : rR x M1 M (some (.int f)) M' := by subst hx; subst hf; exact ⟨rfl, h⟩
theorem rR_r0 {x : Oc} {M1 M M' : Mem} {f : Int32} {k : Nat} (hx : x = .inr k) (hf : f = fnd k) (h : M' = fnM M k) : rR x M1 M (some (.int f)) M' := rR_r hx hf (eqM_r h)
def comD (d : Dm) (p : Nat) : Nat → Dm
  | 0 => d
  | k + 1 => upd (comD d p k) (12 + 8 * k + p) 0
theorem com_ne {d : Dm} {p j : Nat} (hp : p < 8) (hj : j < 12) : ∀ k, comD d p k j = d j := by
  intro k
  induction k with
  | zero => rfl
  | succ k ih => rw [comD, pk_un (by omega)]; exact ih
theorem com_wel {d : Dm} {kind sins : Int32} {N : Nat} (e0 : d 0 = nI N) (h8 : d 0 < 8) (hN : N < 8) (hNo : nOf d = N) : upd (upd (upd (comD d N 6) (12 + N) kind) (28 + N) sins) 0 (nI N + 1) = welF d kind sins := by
  unfold welF
  rw [if_pos h8, hNo, e0]
  unfold beginF
  simp only [comD, Nat.mul_zero, Nat.add_zero, show 12 + 8 * 1 = 20 from rfl, show 12 + 8 * 2 = 28 from rfl, show 12 + 8 * 3 = 36 from rfl, show 12 + 8 * 4 = 44 from rfl, show 12 + 8 * 5 = 52 from rfl]
  funext j
  unfold upd
  by_cases h0 : j = 0
  · subst h0
    simp only [if_true]
    rw [if_neg (by omega), if_neg (by omega), if_neg (by omega), if_neg (by omega), if_neg (by omega), if_neg (by omega)]
  · rw [if_neg h0]
    by_cases h1 : j = 12 + N
    · rw [if_neg (by omega), if_pos h1, if_neg (by omega), if_neg (by omega), if_neg (by omega), if_neg (by omega), if_neg (by omega), if_pos h1]
    · rw [if_neg h1]
      by_cases h2 : j = 28 + N
      · rw [if_pos h2, if_neg (by omega), if_neg (by omega), if_neg (by omega), if_pos h2]
      · rw [if_neg h2, if_neg h1, if_neg h2, if_neg h1, if_neg h2, if_neg h0]

variable {l : Launch} {sk : (Nat → Nat) × (Nat → Nat)} {D : va_G} {cy : Nat → ClassId} {A : Nat → Nat} {X : va_W}
set_option maxRecDepth 20000 in
theorem m_set (what v : Int32) (M : Mem) (hI : Inv (M 0)) : CR l sk D cy A X mX7_set 2 [.ref (A 0), .int what, .int v] M (rR (setX (M 0) what v).1 (stB M 0 (setX (M 0) what v).2) M) := by
  refine Con.of (lo := [some (.ref (A 0)), some (.int what), some (.int v)]) cf_X7_set (fun _ _ => wl_fst) 0 rfl (Nat.le_of_ble_eq_true rfl) (fun Pp Ee Ss Mm Aa Bb Me Cc A0 B hr hlk => ?_)
  have B : BS sk D cy (wl A cy 11 TM X) A0 Pp Ss Mm Aa Cc RX7 cX7_set 3 := B
  refine a_iload_n B dX7_set_0 rfl ?_
  refine a_if_ne 16 B dX7_set_1 (by decide) (fun c1 => ?_) (fun c1 => ?_)
  · have e1 : decide (what = 0) = false := decide_eq_false c1
    refine a_iload_n B dX7_set_16 rfl ?_
    refine a_iconst (v := 1) B dX7_set_17 (by decide) ?_
    refine a_icmp_ne 39 B dX7_set_18 (by decide) (fun c18 => ?_) (fun c18 => ?_)
    · refine a_aload_n B dX7_set_39 rfl ?_
      refine a_iconst (v := 0) B dX7_set_40 (by decide) ?_
      refine a_callV1r B rfl cf_X7_finds lk_X7_109 in_X7_finds se_X7_finds (wl_rc (p0 := 0) (by decide) rfl rfl rfl) (m_finds 0 (by decide) _) dX7_set_41 (Nat.le_of_ble_eq_true rfl) ⟨Nat.le_of_ble_eq_true rfl, Nat.le_of_ble_eq_true rfl⟩ ⟨rfl, rfl⟩ ?_
      exact a_iret B hr hlk dX7_set_44 (rR_r0 (k := 0) (by unfold setX; rw [if_neg (fun q => absurd q.1 c1), if_neg (fun q => absurd q.1 c18)]) rfl rfl)
    refine a_iload_n B dX7_set_21 rfl ?_
    refine a_callS1r B rfl cf_X7_areSins lk_X7_103 st_X7_areSins (m_areSins _ _) dX7_set_22 (Nat.le_of_ble_eq_true rfl) ⟨Nat.le_of_ble_eq_true rfl, Nat.le_of_ble_eq_true rfl⟩ ⟨rfl, rfl⟩ ?_
    refine a_if_eq 39 B dX7_set_25 (by decide) (fun c25 => ?_) (fun c25 => ?_)
    · have c25 := bI_eq0.mp c25
      refine a_aload_n B dX7_set_39 rfl ?_
      refine a_iconst (v := 0) B dX7_set_40 (by decide) ?_
      refine a_callV1r B rfl cf_X7_finds lk_X7_109 in_X7_finds se_X7_finds (wl_rc (p0 := 0) (by decide) rfl rfl rfl) (m_finds 0 (by decide) _) dX7_set_41 (Nat.le_of_ble_eq_true rfl) ⟨Nat.le_of_ble_eq_true rfl, Nat.le_of_ble_eq_true rfl⟩ ⟨rfl, rfl⟩ ?_
      exact a_iret B hr hlk dX7_set_44 (rR_r0 (k := 0) (by unfold setX; rw [if_neg (fun q => absurd q.1 c1), if_neg (fun q => by rw [c25] at q; exact absurd q.2 (by decide))]) rfl rfl)
    have c25 := bI_ne0.mp c25
    refine a_aload_n B dX7_set_28 rfl ?_
    refine a_iconst (v := 3) B dX7_set_29 (by decide) ?_
    refine a_iload_n B dX7_set_30 rfl ?_
    refine a_iadd B dX7_set_31 ?_
    refine a_iload_n B dX7_set_32 rfl ?_
    first | rw [show (3 : Int32) + what = nI 3 from by rw [c1]; rfl] | rw [show (3 : Int32) + what = nI 4 from by rw [c18]; rfl]
    refine a_callV2r B rfl cf_X7_becomes lk_X7_106 in_X7_becomes se_X7_becomes (wl_rc (p0 := 0) (by decide) rfl rfl rfl) (m_becomes _ (by omega) _ _) dX7_set_33 (Nat.le_of_ble_eq_true rfl) ⟨Nat.le_of_ble_eq_true rfl, Nat.le_of_ble_eq_true rfl⟩ ⟨rfl, rfl⟩ ?_
    refine a_goto 44 B dX7_set_36 (by decide) ?_
    exact a_iret B hr hlk dX7_set_44 (rR_l0 (by unfold setX; rw [if_neg (fun q => absurd q.1 c1), if_pos ⟨c18, c25⟩]) (by unfold setX; rw [if_neg (fun q => absurd q.1 c1), if_pos ⟨c18, c25⟩]))
  have e1 : what = 0 := c1
  refine a_iload_n B dX7_set_4 rfl ?_
  refine a_i2l B dX7_set_5 ?_
  refine a_lconst (v := 0) B dX7_set_6 (by decide) ?_
  refine a_ldc2 B dX7_set_7 kl_X7_101 ?_
  refine a_callS3r B rfl cf_X7_in lk_X7_42 st_X7_in (m_in v 0 9 _ _ (by first | rfl | decide) (by first | rfl | decide) _) dX7_set_10 (Nat.le_of_ble_eq_true rfl) ⟨Nat.le_of_ble_eq_true rfl, Nat.le_of_ble_eq_true rfl⟩ ⟨rfl, rfl⟩ ?_
  refine a_if_ne 28 B dX7_set_13 (by decide) (fun c13 => ?_) (fun c13 => ?_)
  · have c13 := bI_ne0.mp c13
    have e13 : wi v 9 = true := c13
    refine a_aload_n B dX7_set_28 rfl ?_
    refine a_iconst (v := 3) B dX7_set_29 (by decide) ?_
    refine a_iload_n B dX7_set_30 rfl ?_
    refine a_iadd B dX7_set_31 ?_
    refine a_iload_n B dX7_set_32 rfl ?_
    first | rw [show (3 : Int32) + what = nI 3 from by rw [c1]; rfl] | rw [show (3 : Int32) + what = nI 4 from by rw [c18]; rfl]
    refine a_callV2r B rfl cf_X7_becomes lk_X7_106 in_X7_becomes se_X7_becomes (wl_rc (p0 := 0) (by decide) rfl rfl rfl) (m_becomes _ (by omega) _ _) dX7_set_33 (Nat.le_of_ble_eq_true rfl) ⟨Nat.le_of_ble_eq_true rfl, Nat.le_of_ble_eq_true rfl⟩ ⟨rfl, rfl⟩ ?_
    refine a_goto 44 B dX7_set_36 (by decide) ?_
    exact a_iret B hr hlk dX7_set_44 (rR_l0 (by unfold setX; rw [if_pos ⟨c1, e13⟩]) (by unfold setX; rw [if_pos ⟨c1, e13⟩]))
  have c13 := bI_eq0.mp c13
  have e13 : wi v 9 = false := c13
  refine a_iload_n B dX7_set_16 rfl ?_
  refine a_iconst (v := 1) B dX7_set_17 (by decide) ?_
  refine a_icmp_ne 39 B dX7_set_18 (by decide) (fun c18 => ?_) (fun c18 => ?_)
  · refine a_aload_n B dX7_set_39 rfl ?_
    refine a_iconst (v := 0) B dX7_set_40 (by decide) ?_
    refine a_callV1r B rfl cf_X7_finds lk_X7_109 in_X7_finds se_X7_finds (wl_rc (p0 := 0) (by decide) rfl rfl rfl) (m_finds 0 (by decide) _) dX7_set_41 (Nat.le_of_ble_eq_true rfl) ⟨Nat.le_of_ble_eq_true rfl, Nat.le_of_ble_eq_true rfl⟩ ⟨rfl, rfl⟩ ?_
    exact a_iret B hr hlk dX7_set_44 (rR_r0 (k := 0) (by unfold setX; rw [if_neg (fun q => by rw [e13] at q; exact absurd q.2 (by decide)), if_neg (fun q => absurd q.1 c18)]) rfl rfl)
  refine a_iload_n B dX7_set_21 rfl ?_
  refine a_callS1r B rfl cf_X7_areSins lk_X7_103 st_X7_areSins (m_areSins _ _) dX7_set_22 (Nat.le_of_ble_eq_true rfl) ⟨Nat.le_of_ble_eq_true rfl, Nat.le_of_ble_eq_true rfl⟩ ⟨rfl, rfl⟩ ?_
  refine a_if_eq 39 B dX7_set_25 (by decide) (fun c25 => ?_) (fun c25 => ?_)
  · have c25 := bI_eq0.mp c25
    refine a_aload_n B dX7_set_39 rfl ?_
    refine a_iconst (v := 0) B dX7_set_40 (by decide) ?_
    refine a_callV1r B rfl cf_X7_finds lk_X7_109 in_X7_finds se_X7_finds (wl_rc (p0 := 0) (by decide) rfl rfl rfl) (m_finds 0 (by decide) _) dX7_set_41 (Nat.le_of_ble_eq_true rfl) ⟨Nat.le_of_ble_eq_true rfl, Nat.le_of_ble_eq_true rfl⟩ ⟨rfl, rfl⟩ ?_
    exact a_iret B hr hlk dX7_set_44 (rR_r0 (k := 0) (by unfold setX; rw [if_neg (fun q => by rw [e13] at q; exact absurd q.2 (by decide)), if_neg (fun q => by rw [c25] at q; exact absurd q.2 (by decide))]) rfl rfl)
  have c25 := bI_ne0.mp c25
  refine a_aload_n B dX7_set_28 rfl ?_
  refine a_iconst (v := 3) B dX7_set_29 (by decide) ?_
  refine a_iload_n B dX7_set_30 rfl ?_
  refine a_iadd B dX7_set_31 ?_
  refine a_iload_n B dX7_set_32 rfl ?_
  first | rw [show (3 : Int32) + what = nI 3 from by rw [c1]; rfl] | rw [show (3 : Int32) + what = nI 4 from by rw [c18]; rfl]
  refine a_callV2r B rfl cf_X7_becomes lk_X7_106 in_X7_becomes se_X7_becomes (wl_rc (p0 := 0) (by decide) rfl rfl rfl) (m_becomes _ (by omega) _ _) dX7_set_33 (Nat.le_of_ble_eq_true rfl) ⟨Nat.le_of_ble_eq_true rfl, Nat.le_of_ble_eq_true rfl⟩ ⟨rfl, rfl⟩ ?_
  refine a_goto 44 B dX7_set_36 (by decide) ?_
  exact absurd (c1.symm.trans c18) (by decide)
set_option maxRecDepth 20000 in
theorem m_list (i cf : Int32) (M : Mem) (hI : Inv (M 0)) : CR l sk D cy A X mX7_list 2 [.ref (A 0), .int i, .int cf] M (rR (lisX (M 0) i cf).1 (stB M 0 (lisX (M 0) i cf).2) M) := by
  refine Con.of (lo := [some (.ref (A 0)), some (.int i), some (.int cf)]) cf_X7_list (fun _ _ => wl_fst) 0 rfl (Nat.le_of_ble_eq_true rfl) (fun Pp Ee Ss Mm Aa Bb Me Cc A0 B hr hlk => ?_)
  have B : BS sk D cy (wl A cy 11 TM X) A0 Pp Ss Mm Aa Cc RX7 cX7_list 3 := B
  refine a_iload_n B dX7_list_0 rfl ?_
  refine a_callS1r B rfl cf_X7_isPlace lk_X7_112 st_X7_isPlace (m_isPlace _ _) dX7_list_1 (Nat.le_of_ble_eq_true rfl) ⟨Nat.le_of_ble_eq_true rfl, Nat.le_of_ble_eq_true rfl⟩ ⟨rfl, rfl⟩ ?_
  refine a_if_eq 26 B dX7_list_4 (by decide) (fun c4 => ?_) (fun c4 => ?_)
  · have c4 := bI_eq0.mp c4
    refine a_aload_n B dX7_list_26 rfl ?_
    refine a_iconst (v := 0) B dX7_list_27 (by decide) ?_
    refine a_callV1r B rfl cf_X7_finds lk_X7_109 in_X7_finds se_X7_finds (wl_rc (p0 := 0) (by decide) rfl rfl rfl) (m_finds 0 (by decide) _) dX7_list_28 (Nat.le_of_ble_eq_true rfl) ⟨Nat.le_of_ble_eq_true rfl, Nat.le_of_ble_eq_true rfl⟩ ⟨rfl, rfl⟩ ?_
    exact a_iret B hr hlk dX7_list_31 (rR_r0 (k := 0) (by simp [lisX, c4]) rfl rfl)
  have c4 := bI_ne0.mp c4
  obtain ⟨q, hqt, hqe⟩ := wi_T (t := 5) c4 (by omega)
  subst hqe
  refine a_iload_n B dX7_list_7 rfl ?_
  refine a_callS1r B rfl cf_X7_isConfession lk_X7_115 st_X7_isConfession (m_isConfession _ _) dX7_list_8 (Nat.le_of_ble_eq_true rfl) ⟨Nat.le_of_ble_eq_true rfl, Nat.le_of_ble_eq_true rfl⟩ ⟨rfl, rfl⟩ ?_
  refine a_if_eq 26 B dX7_list_11 (by decide) (fun c11 => ?_) (fun c11 => ?_)
  · have c11 := bI_eq0.mp c11
    refine a_aload_n B dX7_list_26 rfl ?_
    refine a_iconst (v := 0) B dX7_list_27 (by decide) ?_
    refine a_callV1r B rfl cf_X7_finds lk_X7_109 in_X7_finds se_X7_finds (wl_rc (p0 := 0) (by decide) rfl rfl rfl) (m_finds 0 (by decide) _) dX7_list_28 (Nat.le_of_ble_eq_true rfl) ⟨Nat.le_of_ble_eq_true rfl, Nat.le_of_ble_eq_true rfl⟩ ⟨rfl, rfl⟩ ?_
    exact a_iret B hr hlk dX7_list_31 (rR_r0 (k := 0) (by simp [lisX, c4, c11]) rfl rfl)
  have c11 := bI_ne0.mp c11
  refine a_aload_n B dX7_list_14 rfl ?_
  refine a_bipush (v := 6) B dX7_list_15 (by decide) ?_
  refine a_iload_n B dX7_list_17 rfl ?_
  refine a_iadd B dX7_list_18 ?_
  refine a_iload_n B dX7_list_19 rfl ?_
  rw [show (6 : Int32) + nI q = nI (6 + q) from nI_add 6 q]
  refine a_callV2r B rfl cf_X7_becomes lk_X7_106 in_X7_becomes se_X7_becomes (wl_rc (p0 := 0) (by decide) rfl rfl rfl) (m_becomes _ (by omega) _ _) dX7_list_20 (Nat.le_of_ble_eq_true rfl) ⟨Nat.le_of_ble_eq_true rfl, Nat.le_of_ble_eq_true rfl⟩ ⟨rfl, rfl⟩ ?_
  refine a_goto 31 B dX7_list_23 (by decide) ?_
  exact a_iret B hr hlk dX7_list_31 (rR_l0 (by simp [lisX, nn_nI (show q < 2 ^ 31 by omega), c4, c11]) (by simp [lisX, nn_nI (show q < 2 ^ 31 by omega), c4, c11]))
set_option maxRecDepth 20000 in
theorem m_listed (i : Int32) (M : Mem) (hI : Inv (M 0)) : CR l sk D cy A X mX7_listed 2 [.ref (A 0), .int i] M (rR (lsdX (M 0) i) M M) := by
  refine Con.of (lo := [some (.ref (A 0)), some (.int i)]) cf_X7_listed (fun _ _ => wl_fst) 0 rfl (Nat.le_of_ble_eq_true rfl) (fun Pp Ee Ss Mm Aa Bb Me Cc A0 B hr hlk => ?_)
  have B : BS sk D cy (wl A cy 11 TM X) A0 Pp Ss Mm Aa Cc RX7 cX7_listed 2 := B
  refine a_iload_n B dX7_listed_0 rfl ?_
  refine a_callS1r B rfl cf_X7_isPlace lk_X7_112 st_X7_isPlace (m_isPlace _ _) dX7_listed_1 (Nat.le_of_ble_eq_true rfl) ⟨Nat.le_of_ble_eq_true rfl, Nat.le_of_ble_eq_true rfl⟩ ⟨rfl, rfl⟩ ?_
  refine a_if_eq 19 B dX7_listed_4 (by decide) (fun c4 => ?_) (fun c4 => ?_)
  · have c4 := bI_eq0.mp c4
    refine a_aload_n B dX7_listed_19 rfl ?_
    refine a_iconst (v := 0) B dX7_listed_20 (by decide) ?_
    refine a_callV1r B rfl cf_X7_finds lk_X7_109 in_X7_finds se_X7_finds (wl_rc (p0 := 0) (by decide) rfl rfl rfl) (m_finds 0 (by decide) _) dX7_listed_21 (Nat.le_of_ble_eq_true rfl) ⟨Nat.le_of_ble_eq_true rfl, Nat.le_of_ble_eq_true rfl⟩ ⟨rfl, rfl⟩ ?_
    exact a_iret B hr hlk dX7_listed_24 (rR_r0 (k := 0) (by simp [lsdX, c4]) rfl rfl)
  have c4 := bI_ne0.mp c4
  obtain ⟨q, hqt, hqe⟩ := wi_T (t := 5) c4 (by omega)
  subst hqe
  refine a_aload_n B dX7_listed_7 rfl ?_
  refine a_getR B fl_X7_7 (by decide) rfl rfl dX7_listed_8 ?_
  refine a_bipush (v := 6) B dX7_listed_11 (by decide) ?_
  refine a_iload_n B dX7_listed_13 rfl ?_
  refine a_iadd B dX7_listed_14 ?_
  refine a_iald (6 + q) B (by decide) rfl (nI_add 6 q) (by omega) (by decide) dX7_listed_15 ?_
  refine a_goto 24 B dX7_listed_16 (by decide) ?_
  exact a_iret B hr hlk dX7_listed_24 (rR_l0 (by simp [lsdX, nn_nI (show q < 2 ^ 31 by omega), c4]) (rfl))
set_option maxRecDepth 20000 in
set_option maxHeartbeats 4000000 in
theorem m_comes (kind sins : Int32) (N : Nat) (M : Mem) (hI : Inv (M 0)) (eN : M 0 0 = nI N) (h8 : M 0 0 < 8) (hN8 : N < 8) (eNo : nOf (M 0) = N) : CR l sk D cy A X mX7_comes 1 [.ref (A 0), .int kind, .int sins] M (rI (nI N) (stB M 0 (welF (M 0) kind sins))) := by
  refine Con.of (lo := [some (.ref (A 0)), some (.int kind), some (.int sins), none, none]) cf_X7_comes (fun _ _ => wl_fst) 2 rfl (Nat.le_of_ble_eq_true rfl) (fun Pp Ee Ss Mm Aa Bb Me Cc A0 B hr hlk => ?_)
  have B : BS sk D cy (wl A cy 11 TM X) A0 Pp Ss Mm Aa Cc RX7 cX7_comes 5 := B
  have loop : ∀ n k, 7 ≤ k + n → k ≤ 6 → AW Pp l Ee (rmK 1 (34 * 1)) Ss Mm Aa Bb Me Cc D (wl A cy 11 TM X) A0 5 0 0 (MQ Bb (QG D (wl A cy 11 TM X) A0 (rI (nI N) (stB M 0 (welF (M 0) kind sins)))) Aa Ss 0 0 A0) 10 [some (.ref (A 0)), some (.int kind), some (.int sins), some (.int (nI N)), some (.int (nI k))] [] (stB M 0 (comD (M 0) N k)) := by
    intro n
    induction n with
    | zero => intro k h1 h2; omega
    | succ n ih =>
      intro k h1 h2
      refine a_iload B dX7_comes_10 rfl ?_
      refine a_iconst (v := 5) B dX7_comes_12 (by decide) ?_
      refine a_icmp_gt 30 B dX7_comes_13 (by decide) (fun c13 => ?_) (fun c13 => ?_)
      · have e1 : k = 6 := by have := (nI_ltI (a := 5) (b := k) (by omega) (by omega)).mp c13; omega
        subst e1
        refine a_aload_n B dX7_comes_30 rfl ?_
        refine a_iload_n B dX7_comes_31 rfl ?_
        refine a_iconst (v := 0) B dX7_comes_32 (by decide) ?_
        refine a_iload_n B dX7_comes_33 rfl ?_
        refine a_callV3v B rfl cf_X7_sets lk_X7_79 in_X7_sets se_X7_sets (wl_rc (p0 := 0) (by decide) rfl rfl rfl) (m_sets N 0 (12 + N) hN8 (by omega) (by omega) _ _) dX7_comes_34 (Nat.le_of_ble_eq_true rfl) ⟨Nat.le_of_ble_eq_true rfl, Nat.le_of_ble_eq_true rfl⟩ ⟨rfl, rfl⟩ ?_
        refine a_aload_n B dX7_comes_37 rfl ?_
        refine a_iload_n B dX7_comes_38 rfl ?_
        refine a_iconst (v := 2) B dX7_comes_39 (by decide) ?_
        refine a_iload_n B dX7_comes_40 rfl ?_
        refine a_callV3v B rfl cf_X7_sets lk_X7_79 in_X7_sets se_X7_sets (wl_rc (p0 := 0) (by decide) rfl rfl rfl) (m_sets N 2 (28 + N) hN8 (by omega) (by omega) _ _) dX7_comes_41 (Nat.le_of_ble_eq_true rfl) ⟨Nat.le_of_ble_eq_true rfl, Nat.le_of_ble_eq_true rfl⟩ ⟨rfl, rfl⟩ ?_
        refine a_aload_n B dX7_comes_44 rfl ?_
        refine a_getR B fl_X7_7 (by decide) rfl rfl dX7_comes_45 ?_
        refine a_iconst (v := 0) B dX7_comes_48 (by decide) ?_
        refine a_dup2 B dX7_comes_49 rfl rfl ?_
        refine a_iald 0 B (by decide) rfl rfl (by omega) (by decide) dX7_comes_50 ?_
        refine a_iconst (v := 1) B dX7_comes_51 (by decide) ?_
        refine a_iadd B dX7_comes_52 ?_
        refine a_iast 0 B twM (by decide) rfl rfl (by omega) (by decide) dX7_comes_53 ?_
        refine a_iload_n B dX7_comes_54 rfl ?_
        exact a_iret B hr hlk dX7_comes_55 ⟨rfl, by simp only [upB_st, stB_at, stB_st, Nat.zero_add]; rw [show upd (upd (comD (M 0) N 6) (12 + N) kind) (28 + N) sins 0 = nI N by rw [pk_un (by omega), pk_un (by omega), com_ne hN8 (by omega)]; exact eN, com_wel eN h8 hN8 eNo]⟩
      have hlt0 : k ≤ 5 := Nat.le_of_not_lt (fun q9 => c13 ((nI_ltI (a := 5) (by omega) (by omega)).mpr q9))
      refine a_aload_n B dX7_comes_16 rfl ?_
      refine a_iload_n B dX7_comes_17 rfl ?_
      refine a_iload B dX7_comes_18 rfl ?_
      refine a_iconst (v := 0) B dX7_comes_20 (by decide) ?_
      refine a_callV3v B rfl cf_X7_sets lk_X7_79 in_X7_sets se_X7_sets (wl_rc (p0 := 0) (by decide) rfl rfl rfl) (m_sets N k (12 + 8 * k + N) hN8 (by omega) rfl _ _) dX7_comes_21 (Nat.le_of_ble_eq_true rfl) ⟨Nat.le_of_ble_eq_true rfl, Nat.le_of_ble_eq_true rfl⟩ ⟨rfl, rfl⟩ ?_
      rw [stB_at, stB_st]
      refine p_iinc4 1 B dX7_comes_24 (by decide) (by decide) (k := ?_)
      refine a_goto 10 B dX7_comes_27 (by decide) ?_
      rw [nI_1]
      exact ih (k + 1) (by omega) (by omega)
  refine a_aload_n B dX7_comes_0 rfl ?_
  refine a_getR B fl_X7_7 (by decide) rfl rfl dX7_comes_1 ?_
  refine a_iconst (v := 0) B dX7_comes_4 (by decide) ?_
  refine a_iald 0 B (by decide) rfl rfl (by omega) (by decide) dX7_comes_5 ?_
  rw [show M 0 (0 + 0) = nI N from eN]
  refine p_istore3 B dX7_comes_6 (by decide) (k := ?_)
  refine a_iconst (v := 0) B dX7_comes_7 (by decide) ?_
  refine p_istore4 B dX7_comes_8 (by decide) (k := ?_)
  refine a_mem ?_ (loop 7 0 (by omega) (by omega))
  exact (stB_id (M := M) (b := 0)).symm
set_option maxRecDepth 20000 in
theorem m_priest (kind sins : Int32) (M : Mem) (hI : Inv (M 0)) : CR l sk D cy A X mX7_priest 2 [.ref (A 0), .int kind, .int sins] M (rR (priX (M 0) kind sins).1 (stB M 0 (priX (M 0) kind sins).2) M) := by
  refine Con.of (lo := [some (.ref (A 0)), some (.int kind), some (.int sins)]) cf_X7_priest (fun _ _ => wl_fst) 0 rfl (Nat.le_of_ble_eq_true rfl) (fun Pp Ee Ss Mm Aa Bb Me Cc A0 B hr hlk => ?_)
  have B : BS sk D cy (wl A cy 11 TM X) A0 Pp Ss Mm Aa Cc RX7 cX7_priest 3 := B
  obtain ⟨N, hN, eN, eNo⟩ := hI.n
  refine a_iload_n B dX7_priest_0 rfl ?_
  refine a_i2l B dX7_priest_1 ?_
  refine a_lconst (v := 0) B dX7_priest_2 (by decide) ?_
  refine a_ldc2 B dX7_priest_3 kl_X7_118 ?_
  refine a_callS3r B rfl cf_X7_in lk_X7_42 st_X7_in (m_in kind 0 6 _ _ (by first | rfl | decide) (by first | rfl | decide) _) dX7_priest_6 (Nat.le_of_ble_eq_true rfl) ⟨Nat.le_of_ble_eq_true rfl, Nat.le_of_ble_eq_true rfl⟩ ⟨rfl, rfl⟩ ?_
  refine a_if_eq 19 B dX7_priest_9 (by decide) (fun c9 => ?_) (fun c9 => ?_)
  · have c9 := bI_eq0.mp c9
    have e9 : wi kind 6 = false := c9
    refine a_aload_n B dX7_priest_19 rfl ?_
    refine a_iconst (v := 0) B dX7_priest_20 (by decide) ?_
    refine a_callV1r B rfl cf_X7_finds lk_X7_109 in_X7_finds se_X7_finds (wl_rc (p0 := 0) (by decide) rfl rfl rfl) (m_finds 0 (by decide) _) dX7_priest_21 (Nat.le_of_ble_eq_true rfl) ⟨Nat.le_of_ble_eq_true rfl, Nat.le_of_ble_eq_true rfl⟩ ⟨rfl, rfl⟩ ?_
    exact a_iret B hr hlk dX7_priest_24 (rR_r0 (k := 0) (by unfold priX; rw [e9]; rfl) rfl rfl)
  have c9 := bI_ne0.mp c9
  have e9 : wi kind 6 = true := c9
  refine a_iload_n B dX7_priest_12 rfl ?_
  refine a_callS1r B rfl cf_X7_areSins lk_X7_103 st_X7_areSins (m_areSins _ _) dX7_priest_13 (Nat.le_of_ble_eq_true rfl) ⟨Nat.le_of_ble_eq_true rfl, Nat.le_of_ble_eq_true rfl⟩ ⟨rfl, rfl⟩ ?_
  refine a_if_ne 25 B dX7_priest_16 (by decide) (fun c16 => ?_) (fun c16 => ?_)
  · have c16 := bI_ne0.mp c16
    refine a_aload_n B dX7_priest_25 rfl ?_
    refine a_getR B fl_X7_7 (by decide) rfl rfl dX7_priest_26 ?_
    refine a_iconst (v := 0) B dX7_priest_29 (by decide) ?_
    refine a_iald 0 B (by decide) rfl rfl (by omega) (by decide) dX7_priest_30 ?_
    refine a_bipush (v := 8) B dX7_priest_31 (by decide) ?_
    refine a_icmp_ne 44 B dX7_priest_33 (by decide) (fun c33 => ?_) (fun c33 => ?_)
    · have hN8 : N < 8 := by
        rcases Nat.lt_or_ge N 8 with h | h
        · exact h
        · exact absurd (show M 0 (0 + 0) = 8 by rw [show M 0 (0 + 0) = nI N from eN, show N = 8 by omega]; rfl) c33
      have h8 : M 0 0 < 8 := by rw [eN]; exact nI_lt (b := 8) hN8 (by omega)
      have hwv : welV (M 0) = nI N := by unfold welV; rw [if_pos h8]; exact eN
      refine a_aload_n B dX7_priest_44 rfl ?_
      refine a_iload_n B dX7_priest_45 rfl ?_
      refine a_iload_n B dX7_priest_46 rfl ?_
      refine a_callV2r B rfl cf_X7_comes lk_X7_120 in_X7_comes se_X7_comes (wl_rc (p0 := 0) (by decide) rfl rfl rfl) (m_comes _ _ N _ hI eN h8 hN8 eNo) dX7_priest_47 (Nat.le_of_ble_eq_true rfl) ⟨Nat.le_of_ble_eq_true rfl, Nat.le_of_ble_eq_true rfl⟩ ⟨rfl, rfl⟩ ?_
      exact a_iret B hr hlk dX7_priest_50 (rR_l0 (by unfold priX; rw [e9, c16, hwv, if_pos (show (true && true) = true from rfl), if_neg (nI_pos (by omega))]) (by unfold priX; rw [e9, c16, hwv, if_pos (show (true && true) = true from rfl), if_neg (nI_pos (by omega))]))
    have c33 : M 0 0 = 8 := c33
    have hwv : welV (M 0) < 0 := by unfold welV; rw [if_neg (by rw [c33]; decide)]; decide
    refine a_aload_n B dX7_priest_36 rfl ?_
    refine a_iconst (v := 1) B dX7_priest_37 (by decide) ?_
    refine a_callV1r B rfl cf_X7_finds lk_X7_109 in_X7_finds se_X7_finds (wl_rc (p0 := 0) (by decide) rfl rfl rfl) (m_finds 1 (by decide) _) dX7_priest_38 (Nat.le_of_ble_eq_true rfl) ⟨Nat.le_of_ble_eq_true rfl, Nat.le_of_ble_eq_true rfl⟩ ⟨rfl, rfl⟩ ?_
    refine a_goto 50 B dX7_priest_41 (by decide) ?_
    exact a_iret B hr hlk dX7_priest_50 (rR_r0 (k := 1) (by unfold priX; rw [e9, c16, if_pos (show (true && true) = true from rfl), if_pos hwv]) rfl rfl)
  have c16 := bI_eq0.mp c16
  refine a_aload_n B dX7_priest_19 rfl ?_
  refine a_iconst (v := 0) B dX7_priest_20 (by decide) ?_
  refine a_callV1r B rfl cf_X7_finds lk_X7_109 in_X7_finds se_X7_finds (wl_rc (p0 := 0) (by decide) rfl rfl rfl) (m_finds 0 (by decide) _) dX7_priest_21 (Nat.le_of_ble_eq_true rfl) ⟨Nat.le_of_ble_eq_true rfl, Nat.le_of_ble_eq_true rfl⟩ ⟨rfl, rfl⟩ ?_
  exact a_iret B hr hlk dX7_priest_24 (rR_r0 (k := 0) (by unfold priX; rw [e9, c16]; rfl) rfl rfl)
end R4
