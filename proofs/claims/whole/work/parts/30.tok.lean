section C17

theorem nI_inj {a b : Nat} (ha : a < 2 ^ 31) (hb : b < 2 ^ 31) (h : nI a = nI b) : a = b := by
  have h2 := congrArg nn h
  rwa [nn_nI ha, nn_nI hb] at h2
def tokS (g : Nat → Int32) (e : Nat) : Nat := lxS g e
def tokT (g : Nat → Int32) (e : Nat) : Int32 := lxT g (lxS g e)
def tokE (g : Nat → Int32) (e : Nat) : Nat := lxE g (lxS g e)
def tokV (g : Nat → Int32) (e : Nat) : Int32 := lxV g (lxS g e)
def EndG (g : Nat → Int32) : Prop := ∀ k, 120 ≤ k → g k < 0
theorem tok_le {g : Nat → Int32} {e : Nat} (hg : EndG g) (he : e ≤ 120) : tokS g e ≤ tokE g e ∧ tokE g e ≤ 120 ∧ e ≤ tokS g e := by
  have h1 := run_le (P := fun k => decide (g k = 32)) (120 - e) e
  have hs : lxS g e ≤ 120 := by unfold lxS; omega
  have hs2 : e ≤ lxS g e := by unfold lxS; omega
  unfold tokE tokS lxE
  split
  · exact ⟨Nat.le_refl _, hs, hs2⟩
  · next hn =>
    have hlt : lxS g e < 120 := Nat.lt_of_not_le (fun q => hn (hg _ q))
    split
    · have := run_le (P := fun k => isL (g k)) (120 - lxS g e) (lxS g e); omega
    · split
      · have := run_le (P := fun k => isD (g k)) (120 - lxS g e) (lxS g e); omega
      · omega
theorem dig_nn {v c : Int32} (hv : ∃ a, a ≤ 10000 ∧ v = nI a) (hc : isD c = true) : ∃ a, a ≤ 10000 ∧ mnI (10 * v + c - 48) 10000 = nI a := by
  obtain ⟨a, ha, rfl⟩ := hv
  unfold isD at hc
  simp only [Bool.and_eq_true, Bool.not_eq_true', decide_eq_false_iff_not] at hc
  obtain ⟨b, hb, eb⟩ : ∃ b, b < 2 ^ 31 ∧ c = nI b := nI_of (fun q => hc.1 (Int32.lt_trans q (by decide)))
  subst eb
  have h1 : 48 ≤ b := Nat.le_of_not_lt (fun q => hc.1 (nI_lt (b := 48) q (by omega)))
  have h2 : b ≤ 57 := Nat.le_of_not_lt (fun q => hc.2 (nI_lt (a := 57) q hb))
  rw [show (10 : Int32) = nI 10 from rfl, pk_mul, nI_add, show (48 : Int32) = nI 48 from rfl, pk_sub (by omega)]
  unfold mnI
  split
  · exact ⟨10000, by omega, rfl⟩
  · next h => exact ⟨10 * a + b - 48, Nat.le_of_not_lt (fun q => h (nI_lt (a := 10000) q (by omega))), rfl⟩
theorem num_nn {g : Nat → Int32} : ∀ n k v, (∃ a, a ≤ 10000 ∧ v = nI a) → ∃ a, a ≤ 10000 ∧ numN g n k v = nI a := by
  intro n
  induction n with
  | zero => intro k v h; exact h
  | succ n ih =>
    intro k v h
    rw [numN]
    split
    · next hd => exact ih _ _ (dig_nn h hd)
    · exact h
def rnumS (g : Nat → Int32) (e : Nat) (most : Int32) : Option Int32 := if tokT g e = 2 then (if most < tokV g e then none else some (tokV g e)) else none
theorem rnum_nn {g : Nat → Int32} {e m : Nat} {x : Int32} (hm : m ≤ 9999) (h : rnumS g e (nI m) = some x) : ∃ a, a ≤ m ∧ x = nI a := by
  obtain ⟨a, ha, ea⟩ := num_nn (g := g) (120 - lxS g e) (lxS g e) 0 ⟨0, by omega, rfl⟩
  have ea : tokV g e = nI a := ea
  unfold rnumS at h
  split at h
  · split at h
    · cases h
    · next hn =>
      injection h with h
      subst h
      rw [ea] at hn ⊢
      exact ⟨a, Nat.le_of_not_lt (fun q => hn (nI_lt q (by omega))), rfl⟩
  · cases h
def AtE (g : Nat → Int32) (q : Dm) (e : Nat) : Prop := e ≤ 120 ∧ q 0 = tokT g e ∧ q 1 = nI (tokS g e) ∧ q 2 = nI (tokE g e) ∧ (tokT g e = 2 → q 3 = tokV g e)
theorem atE_adv {g : Nat → Int32} {q : Dm} {e : Nat} (he : e ≤ 120) : AtE g (advD g q e) e := ⟨he, rfl, rfl, rfl, fun h => if_pos h⟩
theorem atE_got {g : Nat → Int32} {q : Dm} {e : Nat} {x : Int32} (h : AtE g q e) : AtE g (upd q 4 x) e := ⟨h.1, h.2.1, h.2.2.1, h.2.2.2.1, h.2.2.2.2⟩
theorem adv_5 {g : Nat → Int32} {q : Dm} {e : Nat} : advD g q e 5 = q 5 := rfl
theorem adv_4 {g : Nat → Int32} {q : Dm} {e : Nat} : advD g q e 4 = q 4 := rfl
def PM (M : Mem) (q d : Dm) : Mem := stB (stB M 4 q) 2 d
theorem PM_4 {M : Mem} {q d : Dm} : PM M q d 4 = q := by unfold PM; rw [stB_ne (by decide), stB_at]
theorem PM_2 {M : Mem} {q d : Dm} : PM M q d 2 = d := by unfold PM; rw [stB_at]
theorem PM_o {M : Mem} {q d : Dm} {b : Nat} (h2 : b ≠ 2) (h4 : b ≠ 4) : PM M q d b = M b := by unfold PM; rw [stB_ne h2, stB_ne h4]
theorem PM_s4 {M : Mem} {q d q' : Dm} : stB (PM M q d) 4 q' = PM M q' d := by unfold PM; rw [stB_comm (by decide), stB_st]
theorem PM_s2 {M : Mem} {q d d' : Dm} : stB (PM M q d) 2 d' = PM M q d' := by unfold PM; rw [stB_st]
theorem PM_u4 {M : Mem} {q d : Dm} {j : Nat} {x : Int32} : upB (PM M q d) 4 j x = PM M (upd q j x) d := by rw [upB_st, PM_4, PM_s4]
theorem PM_u2 {M : Mem} {q d : Dm} {j : Nat} {x : Int32} : upB (PM M q d) 2 j x = PM M q (upd d j x) := by rw [upB_st, PM_2, PM_s2]
theorem PM_t {M : Mem} {q d : Dm} (h : q 5 = M 4 5) : tapB (PM M q d) = tapB M := by
  funext k
  unfold tapB tapeL
  rw [PM_4, h, PM_o (by decide) (by decide)]
theorem PM_ok {M : Mem} {q d : Dm} (hT : tapOk M) (h : q 5 = M 4 5) : tapOk (PM M q d) := by
  obtain ⟨L, h1, h2⟩ := hT
  exact ⟨L, h1, by rw [PM_4, h]; exact h2⟩
theorem tap_end {M : Mem} (h : tapOk M) : EndG (tapB M) := fun k hk => by rw [tapB_no h hk]; decide
def isWq (g : Nat → Int32) (e i : Nat) : Bool := decide (tokT g e = 1) && decide (tokS g e + slN i = tokE g e) && allN (fun j => decide (g (tokS g e + j) = sbN i j)) (slN i)
def kw (k : Nat) : Nat := [9, 3, 4, 5, 6, 7, 8].getD k 0
theorem kw_lt : ∀ k, k < 7 → kw k < 13 := by decide
def kinS (g : Nat → Int32) (e : Nat) : Option Nat := fstN (fun k => isWq g e (kw k)) 7

variable {l : Launch} {sk : (Nat → Nat) × (Nat → Nat)} {D : va_G} {cy : Nat → ClassId} {A : Nat → Nat} {X : va_W}
theorem k_adv (M : Mem) (hT : tapOk M) (q d : Dm) (h5 : q 5 = M 4 5) (e : Nat) (hA : AtE (tapB M) q e) : CC l sk D cy A X mX2_advance 1 [.ref (A 38)] (PM M q d) (rV (PM M (advD (tapB M) q (tokE (tapB M) e)) d)) := by
  have h := k_X2_advance (l := l) (sk := sk) (D := D) (cy := cy) (A := A) (X := X) (PM M q d) (tokE (tapB M) e) (tok_le (tap_end hT) hA.1).2.1 (PM_ok hT h5) (by rw [PM_4]; exact hA.2.2.2.1)
  rw [PM_t h5, PM_4, PM_s4] at h
  exact h
theorem k_byteP (M : Mem) (hT : tapOk M) (q d : Dm) (h5 : q 5 = M 4 5) (k : Nat) (hk : k ≤ 120) : CC l sk D cy A X mX5_byteAt 0 [.ref (A 39), .int (nI k)] (PM M q d) (rI (tapB M k) (PM M q d)) := by
  have h := k_X5_byteAt (l := l) (sk := sk) (D := D) (cy := cy) (A := A) (X := X) k hk (PM M q d) (PM_ok hT h5)
  rw [PM_t h5] at h
  exact h
set_option maxRecDepth 20000 in
theorem k_rnumY (M : Mem) (hT : tapOk M) (q d : Dm) (h5 : q 5 = M 4 5) (e : Nat) (hA : AtE (tapB M) q e) (most x : Int32) (hx : rnumS (tapB M) e most = some x) : CC l sk D cy A X mX2_readNumber 2 [.ref (A 38), .int most] (PM M q d) (rI 1 (PM M (advD (tapB M) (upd q 4 x) (tokE (tapB M) e)) d)) := by
  refine Con.of (lo := [some (.ref (A 38)), some (.int most)]) cf_X2_readNumber (fun _ _ => wl_fst) 0 rfl (Nat.le_of_ble_eq_true rfl) (fun Pp Ee Ss Mm Aa Bb Me Cc A0 B hr hlk => ?_)
  have B : BS sk D cy (wl A cy 51 TC X) A0 Pp Ss Mm Aa Cc RX2 cX2_readNumber 2 := B
  have hh : q 0 = 2 ∧ ¬ most < q 3 ∧ q 3 = x := by
    unfold rnumS at hx
    split at hx
    · next h2 =>
      split at hx
      · cases hx
      · next h3 => injection hx with hx; have e3 := hA.2.2.2.2 h2; exact ⟨hA.2.1.trans h2, by rw [e3]; exact h3, e3.trans hx⟩
    · cases hx
  obtain ⟨hq0, hq3, hqx⟩ := hh
  refine a_aload_n B dX2_readNumber_0 rfl ?_
  refine a_getI B fl_X2_18 (by decide) rfl rfl dX2_readNumber_1 ?_
  refine a_iconst (v := 2) B dX2_readNumber_4 (by decide) ?_
  rw [PM_4, hq0]
  refine a_icmp_ne 16 B dX2_readNumber_5 (by decide) (fun c5 => ?_) (fun c5 => ?_)
  · exact absurd rfl c5
  refine a_aload_n B dX2_readNumber_8 rfl ?_
  refine a_getI B fl_X2_28 (by decide) rfl rfl dX2_readNumber_9 ?_
  refine a_iload_n B dX2_readNumber_12 rfl ?_
  rw [PM_4]
  refine a_icmp_le 18 B dX2_readNumber_13 (by decide) (fun c13 => ?_) (fun c13 => ?_)
  · refine a_aload_n B dX2_readNumber_18 rfl ?_
    refine a_aload_n B dX2_readNumber_19 rfl ?_
    refine a_getI B fl_X2_28 (by decide) rfl rfl dX2_readNumber_20 ?_
    refine a_putI B twC fl_X2_31 fp_2_5 (by decide) rfl rfl dX2_readNumber_23 ?_
    rw [PM_4, hqx, PM_u4]
    refine a_aload_n B dX2_readNumber_26 rfl ?_
    refine a_callV0v B rfl cf_X2_advance lk_X2_34 in_X2_advance se_X2_advance (wl_rc (p0 := 38) (by decide) rfl rfl rfl) (k_adv M hT (upd q 4 x) d h5 e (atE_got hA)) dX2_readNumber_27 (Nat.le_of_ble_eq_true rfl) ⟨Nat.le_of_ble_eq_true rfl, Nat.le_of_ble_eq_true rfl⟩ ⟨rfl, rfl⟩ ?_
    refine a_iconst (v := 1) B dX2_readNumber_30 (by decide) ?_
    exact a_zret B hr hlk (rfl) dX2_readNumber_31 ⟨congrArg (fun z => some (Value.int z)) (rfl), rfl⟩
  exact absurd (Int32.not_le.mp c13) hq3
set_option maxRecDepth 20000 in
theorem k_rnumN (M : Mem) (hT : tapOk M) (q d : Dm) (h5 : q 5 = M 4 5) (e : Nat) (hA : AtE (tapB M) q e) (most : Int32) (hx : rnumS (tapB M) e most = none) : CC l sk D cy A X mX2_readNumber 2 [.ref (A 38), .int most] (PM M q d) (rI 0 (PM M q d)) := by
  refine Con.of (lo := [some (.ref (A 38)), some (.int most)]) cf_X2_readNumber (fun _ _ => wl_fst) 0 rfl (Nat.le_of_ble_eq_true rfl) (fun Pp Ee Ss Mm Aa Bb Me Cc A0 B hr hlk => ?_)
  have B : BS sk D cy (wl A cy 51 TC X) A0 Pp Ss Mm Aa Cc RX2 cX2_readNumber 2 := B
  refine a_aload_n B dX2_readNumber_0 rfl ?_
  refine a_getI B fl_X2_18 (by decide) rfl rfl dX2_readNumber_1 ?_
  refine a_iconst (v := 2) B dX2_readNumber_4 (by decide) ?_
  rw [PM_4]
  refine a_icmp_ne 16 B dX2_readNumber_5 (by decide) (fun c5 => ?_) (fun c5 => ?_)
  · refine a_iconst (v := 0) B dX2_readNumber_16 (by decide) ?_
    exact a_zret B hr hlk (rfl) dX2_readNumber_17 ⟨congrArg (fun z => some (Value.int z)) (rfl), rfl⟩
  refine a_aload_n B dX2_readNumber_8 rfl ?_
  refine a_getI B fl_X2_28 (by decide) rfl rfl dX2_readNumber_9 ?_
  refine a_iload_n B dX2_readNumber_12 rfl ?_
  rw [PM_4]
  refine a_icmp_le 18 B dX2_readNumber_13 (by decide) (fun c13 => ?_) (fun c13 => ?_)
  · exfalso
    unfold rnumS at hx
    have h2 : tokT (tapB M) e = 2 := hA.2.1.symm.trans c5
    rw [if_pos h2, if_neg (by rw [← hA.2.2.2.2 h2]; exact Int32.not_lt.mpr c13)] at hx
    cases hx
  refine a_iconst (v := 0) B dX2_readNumber_16 (by decide) ?_
  exact a_zret B hr hlk (rfl) dX2_readNumber_17 ⟨congrArg (fun z => some (Value.int z)) (rfl), rfl⟩
set_option maxRecDepth 20000 in
set_option maxHeartbeats 4000000 in
theorem k_isWord (M : Mem) (hT : tapOk M) (q d : Dm) (h5 : q 5 = M 4 5) (e : Nat) (hA : AtE (tapB M) q e) (i : Nat) (hi : i < 13) : CC l sk D cy A X mX2_isWord 4 [.ref (A 38), .ref (sk.1 i)] (PM M q d) (rI (bI (isWq (tapB M) e i)) (PM M q d)) := by
  refine Con.of (lo := [some (.ref (A 38)), some (.ref (sk.1 i)), none]) cf_X2_isWord (fun _ _ => wl_fst) 1 rfl (Nat.le_of_ble_eq_true rfl) (fun Pp Ee Ss Mm Aa Bb Me Cc A0 B hr hlk => ?_)
  have B : BS sk D cy (wl A cy 51 TC X) A0 Pp Ss Mm Aa Cc RX2 cX2_isWord 3 := B
  have h7 := sl_le i hi
  have hle := tok_le (tap_end hT) hA.1
  have loop : tokT (tapB M) e = 1 → tokS (tapB M) e + slN i = tokE (tapB M) e → ∀ n k, slN i + 1 ≤ k + n → k ≤ slN i → allN (fun j => decide (tapB M (tokS (tapB M) e + j) = sbN i j)) k = true → AW Pp l Ee (rmK 4 (34 * 4)) Ss Mm Aa Bb Me Cc D (wl A cy 51 TC X) A0 3 0 0 (MQ Bb (QG D (wl A cy 51 TC X) A0 (rI (bI (isWq (tapB M) e i)) (PM M q d))) Aa Ss 0 0 A0) 28 [some (.ref (A 38)), some (.ref (sk.1 i)), some (.int (nI k))] [] (PM M q d) := by
    intro hT1 hSE n
    induction n with
    | zero => intro k h1 h2; omega
    | succ n ih =>
      intro k h1 h2 h3
      refine a_iload_n B dX2_isWord_28 rfl ?_
      refine a_aload_n B dX2_isWord_29 rfl ?_
      refine a_callVk B rfl hi rfl cf_J0_length_8abf5 lk_X2_130 in_J0_length_8abf5 se_J0_length_8abf5 (k_J0_length_8abf5 i hi _) dX2_isWord_30 rfl rfl (Nat.le_of_ble_eq_true rfl) ⟨Nat.le_of_ble_eq_true rfl, Nat.le_of_ble_eq_true rfl⟩ ⟨rfl, rfl⟩ ?_
      refine a_icmp_ge 65 B dX2_isWord_33 (by decide) (fun c33 => ?_) (fun c33 => ?_)
      · have e1 : k = slN i := by have := ge_n (b := slN i) c33 rfl rfl (by omega) (by omega); omega
        subst e1
        refine a_iconst (v := 1) B dX2_isWord_65 (by decide) ?_
        exact a_zret B hr hlk (rfl) dX2_isWord_66 ⟨congrArg (fun z => some (Value.int z)) (by unfold isWq; rw [decide_eq_true hT1, decide_eq_true hSE, h3]; rfl), rfl⟩
      have hlt0 : k < slN i := (nI_ltI (by omega) (by omega)).mp (Int32.not_le.mp c33)
      refine a_aload_n B dX2_isWord_36 rfl ?_
      refine a_getR B fl_X2_12 (by decide) rfl rfl dX2_isWord_37 ?_
      refine a_aload_n B dX2_isWord_40 rfl ?_
      refine a_getI B fl_X2_22 (by decide) rfl rfl dX2_isWord_41 ?_
      refine a_iload_n B dX2_isWord_44 rfl ?_
      refine a_iadd B dX2_isWord_45 ?_
      rw [PM_4, hA.2.2.1, nI_add]
      refine a_callV1r B rfl cf_X5_byteAt lk_X2_135 in_X5_byteAt se_X5_byteAt (wl_rc (p0 := 39) (by decide) rfl rfl rfl) (k_byteP M hT q d h5 (tokS (tapB M) e + k) (by omega)) dX2_isWord_46 (Nat.le_of_ble_eq_true rfl) ⟨Nat.le_of_ble_eq_true rfl, Nat.le_of_ble_eq_true rfl⟩ ⟨rfl, rfl⟩ ?_
      refine a_aload_n B dX2_isWord_49 rfl ?_
      refine a_iload_n B dX2_isWord_50 rfl ?_
      refine a_callVk B rfl hi rfl cf_J0_charAt_5068e lk_X2_139 in_J0_charAt_5068e se_J0_charAt_5068e (k_J0_charAt_5068e i k hi hlt0 _) dX2_isWord_51 rfl rfl (Nat.le_of_ble_eq_true rfl) ⟨Nat.le_of_ble_eq_true rfl, Nat.le_of_ble_eq_true rfl⟩ ⟨rfl, rfl⟩ ?_
      refine a_icmp_eq 59 B dX2_isWord_54 (by decide) (fun c54 => ?_) (fun c54 => ?_)
      · refine p_iinc2 1 B dX2_isWord_59 (by decide) (by decide) (k := ?_)
        refine a_goto 28 B dX2_isWord_62 (by decide) ?_
        rw [nI_1]
        exact ih (k + 1) (by omega) (by omega) (by rw [allN, h3, decide_eq_true c54]; rfl)
      refine a_iconst (v := 0) B dX2_isWord_57 (by decide) ?_
      exact a_zret B hr hlk (rfl) dX2_isWord_58 ⟨congrArg (fun z => some (Value.int z)) (by unfold isWq; rw [all_no (P := fun j => decide (tapB M (tokS (tapB M) e + j) = sbN i j)) (decide_eq_false c54) (slN i) hlt0, Bool.and_false]; rfl), rfl⟩
  refine a_aload_n B dX2_isWord_0 rfl ?_
  refine a_getI B fl_X2_18 (by decide) rfl rfl dX2_isWord_1 ?_
  refine a_iconst (v := 1) B dX2_isWord_4 (by decide) ?_
  rw [PM_4, hA.2.1]
  refine a_icmp_ne 24 B dX2_isWord_5 (by decide) (fun c5 => ?_) (fun c5 => ?_)
  · refine a_iconst (v := 0) B dX2_isWord_24 (by decide) ?_
    exact a_zret B hr hlk (rfl) dX2_isWord_25 ⟨congrArg (fun z => some (Value.int z)) (by unfold isWq; rw [decide_eq_false c5]; rfl), rfl⟩
  refine a_aload_n B dX2_isWord_8 rfl ?_
  refine a_callVk B rfl hi rfl cf_J0_length_8abf5 lk_X2_130 in_J0_length_8abf5 se_J0_length_8abf5 (k_J0_length_8abf5 i hi _) dX2_isWord_9 rfl rfl (Nat.le_of_ble_eq_true rfl) ⟨Nat.le_of_ble_eq_true rfl, Nat.le_of_ble_eq_true rfl⟩ ⟨rfl, rfl⟩ ?_
  refine a_aload_n B dX2_isWord_12 rfl ?_
  refine a_getI B fl_X2_25 (by decide) rfl rfl dX2_isWord_13 ?_
  refine a_aload_n B dX2_isWord_16 rfl ?_
  refine a_getI B fl_X2_22 (by decide) rfl rfl dX2_isWord_17 ?_
  refine a_isub B dX2_isWord_20 ?_
  rw [PM_4, hA.2.2.2.1, hA.2.2.1, pk_sub hle.1]
  refine a_icmp_eq 26 B dX2_isWord_21 (by decide) (fun c21 => ?_) (fun c21 => ?_)
  · refine a_iconst (v := 0) B dX2_isWord_26 (by decide) ?_
    refine p_istore2 B dX2_isWord_27 (by decide) (k := ?_)
    exact loop c5 (by have := nI_inj (by omega) (by omega) c21; omega) (slN i + 1) 0 (by omega) (by omega) rfl
  refine a_iconst (v := 0) B dX2_isWord_24 (by decide) ?_
  exact a_zret B hr hlk (rfl) dX2_isWord_25 ⟨congrArg (fun z => some (Value.int z)) (by unfold isWq; rw [decide_eq_false (fun hh : tokS (tapB M) e + slN i = tokE (tapB M) e => c21 (by rw [← hh, Nat.add_sub_cancel_left])), Bool.and_false]; rfl), rfl⟩
set_option maxRecDepth 20000 in
theorem k_X2_wordOf (k : Nat) (hk : k < 7) (M : Mem) : CC l sk D cy A X mX2_wordOf 0 [.int (nI k)] M (rA (sk.1 (kw k)) M) := by
  refine Con.of (lo := [some (.int (nI k))]) cf_X2_wordOf (fun _ _ => wl_fst) 0 rfl (Nat.le_of_ble_eq_true rfl) (fun Pp Ee Ss Mm Aa Bb Me Cc A0 B hr hlk => ?_)
  have B : BS sk D cy (wl A cy 51 TC X) A0 Pp Ss Mm Aa Cc RX2 cX2_wordOf 1 := B
  refine a_iload_n B dX2_wordOf_0 rfl ?_
  by_cases s1_0 : nI k = 1
  · refine a_tblIn 40 B dX2_wordOf_1 (by rw [s1_0]; decide) (by rw [s1_0]; decide) (by rw [s1_0]; rfl) (by decide) ?_
    refine a_ldcS 3 B (by decide) rfl dX2_wordOf_40 ?_
    have ek : k = 1 := nI_inj (by omega) (by omega) s1_0
    subst ek
    exact a_aret B hr hlk (Or.inl ⟨_, rfl⟩) (Or.inr ⟨_, rfl⟩) dX2_wordOf_42 ⟨rfl, rfl⟩
  by_cases s1_1 : nI k = 2
  · refine a_tblIn 43 B dX2_wordOf_1 (by rw [s1_1]; decide) (by rw [s1_1]; decide) (by rw [s1_1]; rfl) (by decide) ?_
    refine a_ldcS 4 B (by decide) rfl dX2_wordOf_43 ?_
    have ek : k = 2 := nI_inj (by omega) (by omega) s1_1
    subst ek
    exact a_aret B hr hlk (Or.inl ⟨_, rfl⟩) (Or.inr ⟨_, rfl⟩) dX2_wordOf_45 ⟨rfl, rfl⟩
  by_cases s1_2 : nI k = 3
  · refine a_tblIn 46 B dX2_wordOf_1 (by rw [s1_2]; decide) (by rw [s1_2]; decide) (by rw [s1_2]; rfl) (by decide) ?_
    refine a_ldcS 5 B (by decide) rfl dX2_wordOf_46 ?_
    have ek : k = 3 := nI_inj (by omega) (by omega) s1_2
    subst ek
    exact a_aret B hr hlk (Or.inl ⟨_, rfl⟩) (Or.inr ⟨_, rfl⟩) dX2_wordOf_48 ⟨rfl, rfl⟩
  by_cases s1_3 : nI k = 4
  · refine a_tblIn 49 B dX2_wordOf_1 (by rw [s1_3]; decide) (by rw [s1_3]; decide) (by rw [s1_3]; rfl) (by decide) ?_
    refine a_ldcS 6 B (by decide) rfl dX2_wordOf_49 ?_
    have ek : k = 4 := nI_inj (by omega) (by omega) s1_3
    subst ek
    exact a_aret B hr hlk (Or.inl ⟨_, rfl⟩) (Or.inr ⟨_, rfl⟩) dX2_wordOf_51 ⟨rfl, rfl⟩
  by_cases s1_4 : nI k = 5
  · refine a_tblIn 52 B dX2_wordOf_1 (by rw [s1_4]; decide) (by rw [s1_4]; decide) (by rw [s1_4]; rfl) (by decide) ?_
    refine a_ldcS 7 B (by decide) rfl dX2_wordOf_52 ?_
    have ek : k = 5 := nI_inj (by omega) (by omega) s1_4
    subst ek
    exact a_aret B hr hlk (Or.inl ⟨_, rfl⟩) (Or.inr ⟨_, rfl⟩) dX2_wordOf_54 ⟨rfl, rfl⟩
  by_cases s1_5 : nI k = 6
  · refine a_tblIn 55 B dX2_wordOf_1 (by rw [s1_5]; decide) (by rw [s1_5]; decide) (by rw [s1_5]; rfl) (by decide) ?_
    refine a_ldcS 8 B (by decide) rfl dX2_wordOf_55 ?_
    have ek : k = 6 := nI_inj (by omega) (by omega) s1_5
    subst ek
    exact a_aret B hr hlk (Or.inl ⟨_, rfl⟩) (Or.inr ⟨_, rfl⟩) dX2_wordOf_57 ⟨rfl, rfl⟩
  refine a_tblOut 58 B dX2_wordOf_1 (by have h0 := lv_neT s1_0 (show (1 : Int32).toInt = 1 by decide); have h1 := lv_neT s1_1 (show (2 : Int32).toInt = 2 by decide); have h2 := lv_neT s1_2 (show (3 : Int32).toInt = 3 by decide); have h3 := lv_neT s1_3 (show (4 : Int32).toInt = 4 by decide); have h4 := lv_neT s1_4 (show (5 : Int32).toInt = 5 by decide); have h5 := lv_neT s1_5 (show (6 : Int32).toInt = 6 by decide); omega) (by decide) ?_
  refine a_ldcS 9 B (by decide) rfl dX2_wordOf_58 ?_
  have ek : k = 0 := by
    have h0 : k ≠ 1 := fun hh => s1_0 (by rw [hh]; rfl)
    have h1 : k ≠ 2 := fun hh => s1_1 (by rw [hh]; rfl)
    have h2 : k ≠ 3 := fun hh => s1_2 (by rw [hh]; rfl)
    have h3 : k ≠ 4 := fun hh => s1_3 (by rw [hh]; rfl)
    have h4 : k ≠ 5 := fun hh => s1_4 (by rw [hh]; rfl)
    have h5 : k ≠ 6 := fun hh => s1_5 (by rw [hh]; rfl)
    omega
  subst ek
  exact a_aret B hr hlk (Or.inl ⟨_, rfl⟩) (Or.inr ⟨_, rfl⟩) dX2_wordOf_60 ⟨rfl, rfl⟩
set_option maxRecDepth 20000 in
set_option maxHeartbeats 4000000 in
theorem k_X2_kindAtHand (M : Mem) (hT : tapOk M) (q d : Dm) (h5 : q 5 = M 4 5) (e : Nat) (hA : AtE (tapB M) q e) : CC l sk D cy A X mX2_kindAtHand 5 [.ref (A 38)] (PM M q d) (rI (oI (kinS (tapB M) e)) (PM M q d)) := by
  refine Con.of (lo := [some (.ref (A 38)), none]) cf_X2_kindAtHand (fun _ _ => wl_fst) 1 rfl (Nat.le_of_ble_eq_true rfl) (fun Pp Ee Ss Mm Aa Bb Me Cc A0 B hr hlk => ?_)
  have B : BS sk D cy (wl A cy 51 TC X) A0 Pp Ss Mm Aa Cc RX2 cX2_kindAtHand 2 := B
  have loop : ∀ n k, 8 ≤ k + n → k ≤ 7 → fstN (fun k => isWq (tapB M) e (kw k)) k = none → AW Pp l Ee (rmK 5 (34 * 5)) Ss Mm Aa Bb Me Cc D (wl A cy 51 TC X) A0 2 0 0 (MQ Bb (QG D (wl A cy 51 TC X) A0 (rI (oI (kinS (tapB M) e)) (PM M q d))) Aa Ss 0 0 A0) 2 [some (.ref (A 38)), some (.int (nI k))] [] (PM M q d) := by
    intro n
    induction n with
    | zero => intro k h1 h2; omega
    | succ n ih =>
      intro k h1 h2 h3
      refine a_iload_n B dX2_kindAtHand_2 rfl ?_
      refine a_bipush (v := 7) B dX2_kindAtHand_3 (by decide) ?_
      refine a_icmp_ge 27 B dX2_kindAtHand_5 (by decide) (fun c5 => ?_) (fun c5 => ?_)
      · have e1 : k = 7 := by have := ge_n (b := 7) c5 rfl rfl (by omega) (by omega); omega
        subst e1
        refine a_iconst (v := (-1)) B dX2_kindAtHand_27 (by decide) ?_
        exact a_iret B hr hlk dX2_kindAtHand_28 ⟨congrArg (fun z => some (Value.int z)) (by unfold kinS; rw [h3]; rfl), rfl⟩
      have hlt0 := lt_n (b := 7) c5 rfl rfl (by omega) (by omega)
      refine a_aload_n B dX2_kindAtHand_8 rfl ?_
      refine a_iload_n B dX2_kindAtHand_9 rfl ?_
      refine a_callS1r B rfl cf_X2_wordOf lk_X2_112 st_X2_wordOf (k_X2_wordOf k hlt0 _) dX2_kindAtHand_10 (Nat.le_of_ble_eq_true rfl) ⟨Nat.le_of_ble_eq_true rfl, Nat.le_of_ble_eq_true rfl⟩ ⟨rfl, rfl⟩ ?_
      refine a_callV1r B rfl cf_X2_isWord lk_X2_43 in_X2_isWord se_X2_isWord (wl_rc (p0 := 38) (by decide) rfl rfl rfl) (k_isWord M hT q d h5 e hA (kw k) (kw_lt k hlt0)) dX2_kindAtHand_13 (Nat.le_of_ble_eq_true rfl) ⟨Nat.le_of_ble_eq_true rfl, Nat.le_of_ble_eq_true rfl⟩ ⟨rfl, rfl⟩ ?_
      refine a_if_eq 21 B dX2_kindAtHand_16 (by decide) (fun c16 => ?_) (fun c16 => ?_)
      · have c16 := bI_eq0.mp c16
        refine p_iinc1 1 B dX2_kindAtHand_21 (by decide) (by decide) (k := ?_)
        refine a_goto 2 B dX2_kindAtHand_24 (by decide) ?_
        rw [nI_1]
        exact ih (k + 1) (by omega) (by omega) (fst_no h3 c16)
      have c16 := bI_ne0.mp c16
      refine a_iload_n B dX2_kindAtHand_19 rfl ?_
      exact a_iret B hr hlk dX2_kindAtHand_20 ⟨congrArg (fun z => some (Value.int z)) (by unfold kinS; rw [fst_up (fst_yes h3 c16) 7 (by omega)]; rfl), rfl⟩
  refine a_iconst (v := 0) B dX2_kindAtHand_0 (by decide) ?_
  refine p_istore1 B dX2_kindAtHand_1 (by decide) (k := ?_)
  exact loop 8 0 (by omega) (by omega) rfl
end C17
